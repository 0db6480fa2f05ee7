set_option maxRecDepth 100000 in
def tw_EV (lo : Int) (hi : Int) (T_lacks : Int → Int) (S_top : Int) (R_rowSizes : Int → Int) (n s : Int) : Prop := lo ≤ n ∧ n ≤ hi ∧ -1 ≤ s ∧ s < S_top ∧ T_lacks n ≤ R_rowSizes (s + 1) ∧ R_rowSizes (s + 1) + n ≤ 199
set_option maxRecDepth 100000 in
def tw_OKC (lo : Int) (hi : Int) (T_lacks : Int → Int) (S_top : Int) (R_rowSizes : Int → Int) (k b s : Int) : Prop := lo ≤ b ∧ b ≤ hi ∧ -1 ≤ s ∧ s < S_top ∧ (k = 5 → T_lacks b ≤ R_rowSizes (s + 1) + 1 ∧ R_rowSizes (s + 1) + 1 + b ≤ 199) ∧ (k = 6 → T_lacks b ≤ R_rowSizes (s + 1) ∧ R_rowSizes (s + 1) + b ≤ 199)
set_option maxRecDepth 100000 in
def tw_SC (cs : Int → Prop) (ps : Int → Int) (V_top : Int) (S_top : Int) (S_bound : Int → Int) (S_outer : Int → Int) (R_rowEnd : Int) (R_rows : Int → Int) (R_rowBegins : Int → Int) (R_rowSizes : Int → Int) : Prop := 0 ≤ S_top ∧ S_top ≤ 3000 ∧ 0 ≤ R_rowEnd ∧ R_rowEnd ≤ 200 * S_top ∧ R_rowBegins 0 = 0 ∧ R_rowSizes 0 = 0
  ∧ ∀ s, 0 ≤ s → s < S_top → -1 ≤ S_outer s ∧ S_outer s < s ∧ tw_vok cs V_top (S_bound s) ∧ R_rowSizes (s + 1) = R_rowSizes (S_outer s + 1) + 1 ∧ 1 ≤ R_rowSizes (s + 1) ∧ R_rowSizes (s + 1) ≤ 200 ∧ 0 ≤ R_rowBegins (s + 1) ∧ R_rowBegins (s + 1) + R_rowSizes (s + 1) ≤ R_rowEnd ∧ R_rows (R_rowBegins (s + 1) + R_rowSizes (s + 1) - 1) = ps (S_bound s) ∧ ∀ k, 0 ≤ k → k < R_rowSizes (S_outer s + 1) → R_rows (R_rowBegins (s + 1) + k) = R_rows (R_rowBegins (S_outer s + 1) + k)
set_option maxRecDepth 100000 in
def tw_WE (cs : Int → Prop) (ps : Int → Int) (V_top : Int) (lo : Int) (hi : Int) (T_lacks : Int → Int) (S_top : Int) (R_rowSizes : Int → Int) (T_kinds : Int → Int) (W_depth : Int) (W_most : Int) (W_nodes : Int → Int) (W_scopes : Int → Int) (W_functions : Int → Int) (R_waitKinds : Int → Int) (R_waitNodes : Int → Int) (R_waitOf : Int → Int) (i : Int) : Prop :=
  lo ≤ W_nodes i ∧ W_nodes i ≤ hi ∧
  ((R_waitKinds i = 0 ∧ W_functions i = -1 ∧ T_kinds (W_nodes i) = 2 ∧ R_waitNodes i = W_nodes i - 1 ∧ R_waitOf i = W_scopes i + 1 ∧ tw_EV lo hi T_lacks S_top R_rowSizes (W_nodes i - 1) (W_scopes i))
  ∨ (R_waitKinds i = 1 ∧ tw_vok cs V_top (W_functions i) ∧ T_kinds (W_nodes i) = 2 ∧ R_waitOf i = ps (W_functions i))
  ∨ (R_waitKinds i = 2 ∧ T_kinds (W_nodes i) = 4 ∧ W_functions i = -1))
set_option maxRecDepth 100000 in
def tw_WT (cs : Int → Prop) (ps : Int → Int) (V_top : Int) (lo : Int) (hi : Int) (T_lacks : Int → Int) (S_top : Int) (R_rowSizes : Int → Int) (T_kinds : Int → Int) (W_depth : Int) (W_most : Int) (W_nodes : Int → Int) (W_scopes : Int → Int) (W_functions : Int → Int) (R_waitKinds : Int → Int) (R_waitNodes : Int → Int) (R_waitOf : Int → Int) : Prop := 0 ≤ W_depth ∧ W_depth ≤ W_most ∧ W_most ≤ 400 ∧ ∀ i, 0 ≤ i → i < W_depth → tw_WE cs ps V_top lo hi T_lacks S_top R_rowSizes T_kinds W_depth W_most W_nodes W_scopes W_functions R_waitKinds R_waitNodes R_waitOf i
set_option maxRecDepth 100000 in
def tw_NOWR (cs : Int → Prop) (ps : Int → Int) (V_top : Int) (lo : Int) (hi : Int) (T_lacks : Int → Int) (S_top : Int) (R_rowSizes : Int → Int) (E_node : Int) (E_scope : Int) (E_value : Int) (R_nowRow : Int) (R_come : Int) : Prop := (tw_EV lo hi T_lacks S_top R_rowSizes E_node E_scope ∧ 0 ≤ E_node ∧ R_nowRow = E_scope + 1) ∨ (E_node = -1 ∧ tw_vok cs V_top E_value ∧ R_come = ps E_value)
set_option maxRecDepth 100000 in
def tw_RUN (cs : Int → Prop) (ps : Int → Int) (nc : Int) (R_values : Int) (R_nodeOf : Int → Int) (R_rowOf : Int → Int) (D_top : Int) (D_nodes : Int → Int) (R_dataEnd : Int) (VB_top : Int) (VB_row : Int → Int) (R_textEnd : Int) (R_texts : Int → Int) (D_forms : Int → Int) (D_counts : Int → Int) (D_numbers : Int → Int) (R_forms : Int → Int) (R_tags : Int → Int) (R_counts : Int → Int) (R_textsAt : Int → Int) (V_top : Int) (V_kinds : Int → Int) (V_numbers : Int → Int) (V_parts : Int → Int) (V_links : Int → Int) (R_valueKinds : Int → Int) (R_valueNumbers : Int → Int) (R_from : Int → Int) (R_length : Int → Int) (R_given : Int → Int) (R_firstGiven : Int → Int) (R_secondGiven : Int → Int) (D_depths : Int → Int) (D_weights : Int → Int) (S_top : Int) (S_bound : Int → Int) (S_outer : Int → Int) (R_rowEnd : Int) (R_rows : Int → Int) (R_rowBegins : Int → Int) (R_rowSizes : Int → Int) (lo : Int) (hi : Int) (T_lacks : Int → Int) (T_kinds : Int → Int) (W_depth : Int) (W_most : Int) (W_nodes : Int → Int) (W_scopes : Int → Int) (W_functions : Int → Int) (R_waitKinds : Int → Int) (R_waitNodes : Int → Int) (R_waitOf : Int → Int) (E_node : Int) (E_scope : Int) (E_value : Int) (R_nowRow : Int) (R_come : Int) (M_steps : Int) (M_memory : Int) (M_mostSteps : Int) (M_mostMemory : Int) : Prop := tw_XV (tw_OKC lo hi T_lacks S_top R_rowSizes) cs ps nc R_values R_nodeOf R_rowOf D_top D_nodes R_dataEnd VB_top VB_row R_textEnd R_texts D_forms D_counts D_numbers R_forms R_tags R_counts R_textsAt V_top V_kinds V_numbers V_parts V_links R_valueKinds R_valueNumbers R_from R_length R_given R_firstGiven R_secondGiven D_depths D_weights ∧ tw_TOPS V_top D_top VB_top R_textEnd R_dataEnd M_memory ∧ tw_SC cs ps V_top S_top S_bound S_outer R_rowEnd R_rows R_rowBegins R_rowSizes ∧ S_top ≤ M_memory ∧ tw_WT cs ps V_top lo hi T_lacks S_top R_rowSizes T_kinds W_depth W_most W_nodes W_scopes W_functions R_waitKinds R_waitNodes R_waitOf ∧ tw_NOWR cs ps V_top lo hi T_lacks S_top R_rowSizes E_node E_scope E_value R_nowRow R_come ∧ 0 ≤ M_steps ∧ M_steps ≤ M_mostSteps ∧ M_mostSteps ≤ 20000 ∧ 0 ≤ M_memory ∧ M_memory ≤ M_mostMemory ∧ M_mostMemory ≤ 3000
set_option maxRecDepth 100000 in
def tw_wsum (R_waitKinds : Int → Int) : Nat → Int
  | 0 => 0
  | n + 1 => tw_wsum R_waitKinds n + (if R_waitKinds n = 0 then 2 else 1)
set_option maxRecDepth 100000 in
theorem tw_wsum_ge {f : Int → Int} : ∀ n : Nat, 0 ≤ tw_wsum f n
  | 0 => Int.le_refl _
  | n + 1 => by
    have := tw_wsum_ge (f := f) n
    show 0 ≤ tw_wsum f n + (if f n = 0 then 2 else 1)
    split <;> omega
set_option maxRecDepth 100000 in
theorem tw_wsum_up {f : Int → Int} {i v : Int} : ∀ n : Nat, (n : Int) ≤ i → tw_wsum (upZ f i v) n = tw_wsum f n
  | 0, _ => rfl
  | n + 1, h => by
    show tw_wsum (upZ f i v) n + (if upZ f i v n = 0 then 2 else 1) = tw_wsum f n + (if f n = 0 then 2 else 1)
    rw [tw_wsum_up n (by omega), tw_upN _ (by omega)]
set_option maxRecDepth 100000 in
def tw_PHI (M_steps M_mostSteps W_depth : Int) (R_waitKinds : Int → Int) : Int := 4 * (M_mostSteps - M_steps) + tw_wsum R_waitKinds W_depth.toNat
set_option maxRecDepth 100000 in
theorem tw_EV_mono {lo : Int} {hi : Int} {T_lacks : Int → Int} {S_top : Int} {R_rowSizes : Int → Int} {S_top' : Int} {R_rowSizes' : Int → Int} {n s : Int} (h : tw_EV lo hi T_lacks S_top R_rowSizes n s) (h1 : S_top ≤ S_top') (h2 : tw_GR (S_top + 1) R_rowSizes R_rowSizes') : tw_EV lo hi T_lacks S_top' R_rowSizes' n s := by
  obtain ⟨a, b, c, d, e, f⟩ := h
  unfold tw_EV
  rw [h2 _ (by omega)]
  exact ⟨a, b, c, by omega, e, f⟩
set_option maxRecDepth 100000 in
theorem tw_OKC_mono {lo : Int} {hi : Int} {T_lacks : Int → Int} {S_top : Int} {R_rowSizes : Int → Int} {S_top' : Int} {R_rowSizes' : Int → Int} {k b s : Int} (h : tw_OKC lo hi T_lacks S_top R_rowSizes k b s) (h1 : S_top ≤ S_top') (h2 : tw_GR (S_top + 1) R_rowSizes R_rowSizes') : tw_OKC lo hi T_lacks S_top' R_rowSizes' k b s := by
  obtain ⟨a, b, c, d, e⟩ := h
  unfold tw_OKC
  rw [h2 _ (by omega)]
  exact ⟨a, b, c, by omega, e⟩
set_option maxRecDepth 100000 in
theorem tw_SC_mono {cs : Int → Prop} {ps : Int → Int} {V_top : Int} {S_top : Int} {S_bound : Int → Int} {S_outer : Int → Int} {R_rowEnd : Int} {R_rows : Int → Int} {R_rowBegins : Int → Int} {R_rowSizes : Int → Int} {V_top' : Int} (h : tw_SC cs ps V_top S_top S_bound S_outer R_rowEnd R_rows R_rowBegins R_rowSizes) (h1 : V_top ≤ V_top') : tw_SC cs ps V_top' S_top S_bound S_outer R_rowEnd R_rows R_rowBegins R_rowSizes := by
  obtain ⟨a1, a2, a3, a4, a5, a6, a7⟩ := h
  refine ⟨a1, a2, a3, a4, a5, a6, fun s s0 s1 => ?_⟩
  obtain ⟨b1, b2, b3, b4⟩ := a7 s s0 s1
  exact ⟨b1, b2, tw_vok_mono b3 h1, b4⟩
set_option maxRecDepth 100000 in
theorem tw_WE_mono {cs : Int → Prop} {ps : Int → Int} {V_top : Int} {lo : Int} {hi : Int} {T_lacks : Int → Int} {S_top : Int} {R_rowSizes : Int → Int} {T_kinds : Int → Int} {W_depth : Int} {W_most : Int} {W_nodes : Int → Int} {W_scopes : Int → Int} {W_functions : Int → Int} {R_waitKinds : Int → Int} {R_waitNodes : Int → Int} {R_waitOf : Int → Int} {V_top' S_top' i : Int} {R_rowSizes' : Int → Int} (h : tw_WE cs ps V_top lo hi T_lacks S_top R_rowSizes T_kinds W_depth W_most W_nodes W_scopes W_functions R_waitKinds R_waitNodes R_waitOf i) (h1 : V_top ≤ V_top') (h2 : S_top ≤ S_top') (h3 : tw_GR (S_top + 1) R_rowSizes R_rowSizes') : tw_WE cs ps V_top' lo hi T_lacks S_top' R_rowSizes' T_kinds W_depth W_most W_nodes W_scopes W_functions R_waitKinds R_waitNodes R_waitOf i := by
  obtain ⟨a, b, c⟩ := h
  refine ⟨a, b, ?_⟩
  rcases c with ⟨c1, c2, c3, c4, c5, c6⟩ | ⟨c1, c2, c3, c4⟩ | c
  · exact Or.inl ⟨c1, c2, c3, c4, c5, tw_EV_mono c6 h2 h3⟩
  · exact Or.inr (Or.inl ⟨c1, tw_vok_mono c2 h1, c3, c4⟩)
  · exact Or.inr (Or.inr c)
set_option maxRecDepth 100000 in
theorem tw_WT_mono {cs : Int → Prop} {ps : Int → Int} {V_top : Int} {lo : Int} {hi : Int} {T_lacks : Int → Int} {S_top : Int} {R_rowSizes : Int → Int} {T_kinds : Int → Int} {W_depth : Int} {W_most : Int} {W_nodes : Int → Int} {W_scopes : Int → Int} {W_functions : Int → Int} {R_waitKinds : Int → Int} {R_waitNodes : Int → Int} {R_waitOf : Int → Int} {V_top' S_top' : Int} {R_rowSizes' : Int → Int} (h : tw_WT cs ps V_top lo hi T_lacks S_top R_rowSizes T_kinds W_depth W_most W_nodes W_scopes W_functions R_waitKinds R_waitNodes R_waitOf) (h1 : V_top ≤ V_top') (h2 : S_top ≤ S_top') (h3 : tw_GR (S_top + 1) R_rowSizes R_rowSizes') : tw_WT cs ps V_top' lo hi T_lacks S_top' R_rowSizes' T_kinds W_depth W_most W_nodes W_scopes W_functions R_waitKinds R_waitNodes R_waitOf := by
  obtain ⟨a, b, c, d⟩ := h
  exact ⟨a, b, c, fun i i0 i1 => tw_WE_mono (d i i0 i1) h1 h2 h3⟩
set_option maxRecDepth 100000 in
theorem tw_XV_ok {ok : Int → Int → Int → Prop} {cs : Int → Prop} {ps : Int → Int} {nc : Int} {R_values : Int} {R_nodeOf : Int → Int} {R_rowOf : Int → Int} {D_top : Int} {D_nodes : Int → Int} {R_dataEnd : Int} {VB_top : Int} {VB_row : Int → Int} {R_textEnd : Int} {R_texts : Int → Int} {D_forms : Int → Int} {D_counts : Int → Int} {D_numbers : Int → Int} {R_forms : Int → Int} {R_tags : Int → Int} {R_counts : Int → Int} {R_textsAt : Int → Int} {V_top : Int} {V_kinds : Int → Int} {V_numbers : Int → Int} {V_parts : Int → Int} {V_links : Int → Int} {R_valueKinds : Int → Int} {R_valueNumbers : Int → Int} {R_from : Int → Int} {R_length : Int → Int} {R_given : Int → Int} {R_firstGiven : Int → Int} {R_secondGiven : Int → Int} {D_depths : Int → Int} {D_weights : Int → Int} {ok' : Int → Int → Int → Prop} (h : tw_XV ok cs ps nc R_values R_nodeOf R_rowOf D_top D_nodes R_dataEnd VB_top VB_row R_textEnd R_texts D_forms D_counts D_numbers R_forms R_tags R_counts R_textsAt V_top V_kinds V_numbers V_parts V_links R_valueKinds R_valueNumbers R_from R_length R_given R_firstGiven R_secondGiven D_depths D_weights) (ho : ∀ a b c, ok a b c → ok' a b c) : tw_XV ok' cs ps nc R_values R_nodeOf R_rowOf D_top D_nodes R_dataEnd VB_top VB_row R_textEnd R_texts D_forms D_counts D_numbers R_forms R_tags R_counts R_textsAt V_top V_kinds V_numbers V_parts V_links R_valueKinds R_valueNumbers R_from R_length R_given R_firstGiven R_secondGiven D_depths D_weights := by
  obtain ⟨h1, h2⟩ := h
  exact ⟨fun p hp => tw_VR_mono hp (h1 p hp) (tw_DR_n h2.1) tw_GRV_refl ho, h2⟩
set_option maxRecDepth 100000 in
theorem tw_rs_r {cs : Int → Prop} {ps : Int → Int} {V_top : Int} {S_top : Int} {S_bound : Int → Int} {S_outer : Int → Int} {R_rowEnd : Int} {R_rows : Int → Int} {R_rowBegins : Int → Int} {R_rowSizes : Int → Int} (h : tw_SC cs ps V_top S_top S_bound S_outer R_rowEnd R_rows R_rowBegins R_rowSizes) {s : Int} (s0 : -1 ≤ s) (s1 : s < S_top) : 0 ≤ R_rowSizes (s + 1) ∧ R_rowSizes (s + 1) ≤ 200 ∧ 0 ≤ R_rowBegins (s + 1) ∧ R_rowBegins (s + 1) + R_rowSizes (s + 1) ≤ R_rowEnd := by
  obtain ⟨a1, a2, a3, a4, a5, a6, a7⟩ := h
  by_cases e : s = -1
  · subst e; rw [show (-1 : Int) + 1 = 0 by omega, a5, a6]; omega
  · obtain ⟨b1, b2, b3, b4, b5, b6, b7, b8, -⟩ := a7 s (by omega) s1
    omega
set_option maxRecDepth 100000 in
theorem tw_find_L {cs : Int → Prop} {ps : Int → Int} {V_top : Int} {S_top : Int} {S_bound : Int → Int} {S_outer : Int → Int} {R_rowEnd : Int} {R_rows : Int → Int} {R_rowBegins : Int → Int} {R_rowSizes : Int → Int} {x1 x2 : Int} (h : tw_SC cs ps V_top S_top S_bound S_outer R_rowEnd R_rows R_rowBegins R_rowSizes) : ∀ (N : Nat) (s i : Int), -1 ≤ s → s < S_top → 1 ≤ i → i ≤ R_rowSizes (s + 1) → i.toNat < N →
    ∃ s' x5, f_Scopes_find_L6 S_top S_outer x1 x2 N s i = some (s', x5) ∧ 0 ≤ s' ∧ s' < S_top ∧ ps (S_bound s') = R_rows (R_rowBegins (s + 1) + R_rowSizes (s + 1) - i) := by
  have h' := h
  obtain ⟨a1, a2, a3, a4, a5, a6, a7⟩ := h'
  intro N
  induction N with
  | zero => intro s i s0 s1 i0 i1 hN; omega
  | succ N ih =>
    intro s i s0 s1 i0 i1 hN
    have sn : ¬ s = -1 := fun e => by subst e; rw [show (-1 : Int) + 1 = 0 by omega, a6] at i1; omega
    obtain ⟨b1, b2, b3, b4, b5, b6, b7, b8, b9, b10⟩ := a7 s (by omega) s1
    have hs : f_Scopes_has S_top s = some 1 := by unfold f_Scopes_has; (first | refine tw_ite_t (by first | omega | (simp only [tw_gq]; omega)) ?_ | refine tw_ite_f (by first | omega | (simp only [tw_gq]; omega)) ?_); (first | refine tw_ite_t (by first | omega | (simp only [tw_gq]; omega)) ?_ | refine tw_ite_f (by first | omega | (simp only [tw_gq]; omega)) ?_); (first | refine tw_ite_t (by first | omega | (simp only [tw_gq]; omega)) ?_ | refine tw_ite_f (by first | omega | (simp only [tw_gq]; omega)) ?_); (first | refine tw_ite_t (by first | omega | (simp only [tw_gq]; omega)) ?_ | refine tw_ite_f (by first | omega | (simp only [tw_gq]; omega)) ?_); rfl
    unfold f_Scopes_find_L6
    by_cases c : i = 1
    · subst c
      refine ⟨s, 1, ?_, by omega, s1, b9.symm⟩
      (first | refine tw_ite_t (by first | omega | (simp only [tw_gq]; omega)) ?_ | refine tw_ite_f (by first | omega | (simp only [tw_gq]; omega)) ?_); (first | refine tw_ite_t (by first | omega | (simp only [tw_gq]; omega)) ?_ | refine tw_ite_f (by first | omega | (simp only [tw_gq]; omega)) ?_); rfl
    · obtain ⟨s', x5, r1, r2, r3, r4⟩ := ih (S_outer s) (i - 1) b1 (by omega) (by omega) (by omega) (by omega)
      refine ⟨s', x5, ?_, r2, r3, ?_⟩
      · (first | refine tw_ite_t (by first | omega | (simp only [tw_gq]; omega)) ?_ | refine tw_ite_f (by first | omega | (simp only [tw_gq]; omega)) ?_); (first | refine tw_ite_t (by first | omega | (simp only [tw_gq]; omega)) ?_ | refine tw_ite_f (by first | omega | (simp only [tw_gq]; omega)) ?_)
        refine tw_bind_t hs ?_
        (first | refine tw_ite_t (by first | omega | (simp only [tw_gq]; omega)) ?_ | refine tw_ite_f (by first | omega | (simp only [tw_gq]; omega)) ?_); (first | refine tw_ite_t (by first | omega | (simp only [tw_gq]; omega)) ?_ | refine tw_ite_f (by first | omega | (simp only [tw_gq]; omega)) ?_); (first | refine tw_ite_t (by first | omega | (simp only [tw_gq]; omega)) ?_ | refine tw_ite_f (by first | omega | (simp only [tw_gq]; omega)) ?_)
        exact r1
      · rw [r4]
        have e := b10 (R_rowSizes (s + 1) - i) (by omega) (by omega)
        rw [show R_rowBegins (s + 1) + R_rowSizes (s + 1) - i = R_rowBegins (s + 1) + (R_rowSizes (s + 1) - i) by omega, e, show R_rowBegins (S_outer s + 1) + R_rowSizes (S_outer s + 1) - (i - 1) = R_rowBegins (S_outer s + 1) + (R_rowSizes (s + 1) - i) by omega]
set_option maxRecDepth 100000 in
theorem tw_find_ok {cs : Int → Prop} {ps : Int → Int} {V_top : Int} {S_top : Int} {S_bound : Int → Int} {S_outer : Int → Int} {R_rowEnd : Int} {R_rows : Int → Int} {R_rowBegins : Int → Int} {R_rowSizes : Int → Int} {s i : Int} {N : Nat} (hN : 300 ≤ N) (h : tw_SC cs ps V_top S_top S_bound S_outer R_rowEnd R_rows R_rowBegins R_rowSizes) (s0 : -1 ≤ s) (s1 : s < S_top) (i0 : 1 ≤ i) (i1 : i ≤ R_rowSizes (s + 1)) :
    ∃ v, f_Scopes_find N S_top S_bound S_outer s i = some v ∧ tw_vok cs V_top v ∧ ps v = R_rows (R_rowBegins (s + 1) + R_rowSizes (s + 1) - i) := by
  have rr := tw_rs_r h s0 s1
  obtain ⟨s', x5, r1, r2, r3, r4⟩ := tw_find_L (x1 := s) (x2 := i) h N s i s0 s1 i0 i1 (by omega)
  obtain ⟨a1, a2, a3, a4, a5, a6, a7⟩ := h
  refine ⟨S_bound s', ?_, (a7 s' r2 r3).2.2.1, r4⟩
  have hs : f_Scopes_has S_top s' = some 1 := by unfold f_Scopes_has; (first | refine tw_ite_t (by first | omega | (simp only [tw_gq]; omega)) ?_ | refine tw_ite_f (by first | omega | (simp only [tw_gq]; omega)) ?_); (first | refine tw_ite_t (by first | omega | (simp only [tw_gq]; omega)) ?_ | refine tw_ite_f (by first | omega | (simp only [tw_gq]; omega)) ?_); (first | refine tw_ite_t (by first | omega | (simp only [tw_gq]; omega)) ?_ | refine tw_ite_f (by first | omega | (simp only [tw_gq]; omega)) ?_); (first | refine tw_ite_t (by first | omega | (simp only [tw_gq]; omega)) ?_ | refine tw_ite_f (by first | omega | (simp only [tw_gq]; omega)) ?_); rfl
  unfold f_Scopes_find
  refine tw_ob2_t r1 ?_
  refine tw_bind_t hs ?_
  (first | refine tw_ite_t (by first | omega | (simp only [tw_gq]; omega)) ?_ | refine tw_ite_f (by first | omega | (simp only [tw_gq]; omega)) ?_); (first | refine tw_ite_t (by first | omega | (simp only [tw_gq]; omega)) ?_ | refine tw_ite_f (by first | omega | (simp only [tw_gq]; omega)) ?_); (first | refine tw_ite_t (by first | omega | (simp only [tw_gq]; omega)) ?_ | refine tw_ite_f (by first | omega | (simp only [tw_gq]; omega)) ?_); rfl
set_option maxRecDepth 100000 in
def tw_TOK (T_nodes : Int) (T_count : Int) (T_kinds : Int → Int) (T_args : Int → Int) (T_firsts : Int → Int) (T_lacks : Int → Int) (TB_row : Int → Int) (R_used : Int) (R_many : Int) (R_kinds : Int → Int) (R_numbers : Int → Int) (R_firsts : Int → Int) (R_seconds : Int → Int) (R_sizes : Int → Int) (R_nodeTexts : Int → Int) (R_terms : Int → Int) (lo hi : Int) (cs : Int → Prop) (ps R_constants : Int → Int) : Prop := tw_InvT T_nodes T_count T_kinds T_args T_firsts T_lacks TB_row R_used R_many R_kinds R_numbers R_firsts R_seconds R_sizes R_nodeTexts R_terms ∧ 0 < R_many ∧ lo = T_firsts (R_used - 1) ∧ hi = R_used - 1 ∧ (∀ n, lo ≤ n → n ≤ hi → 7 ≤ T_kinds n → cs n ∧ ps n = R_constants n)
set_option maxRecDepth 100000 in
def tw_EvS (N : Nat) (R_constants : Int → Int) (cs : Int → Prop) (ps : Int → Int) (nc : Int) (R_values : Int) (R_nodeOf : Int → Int) (R_rowOf : Int → Int) (D_top : Int) (D_nodes : Int → Int) (R_dataEnd : Int) (VB_top : Int) (VB_row : Int → Int) (R_textEnd : Int) (R_texts : Int → Int) (D_forms : Int → Int) (D_counts : Int → Int) (D_numbers : Int → Int) (R_forms : Int → Int) (R_tags : Int → Int) (R_counts : Int → Int) (R_textsAt : Int → Int) (V_top : Int) (V_kinds : Int → Int) (V_numbers : Int → Int) (V_parts : Int → Int) (V_links : Int → Int) (R_valueKinds : Int → Int) (R_valueNumbers : Int → Int) (R_from : Int → Int) (R_length : Int → Int) (R_given : Int → Int) (R_firstGiven : Int → Int) (R_secondGiven : Int → Int) (D_depths : Int → Int) (D_weights : Int → Int) (S_top : Int) (S_bound : Int → Int) (S_outer : Int → Int) (R_rowEnd : Int) (R_rows : Int → Int) (R_rowBegins : Int → Int) (R_rowSizes : Int → Int) (lo : Int) (hi : Int) (T_lacks : Int → Int) (T_kinds : Int → Int) (W_depth : Int) (W_most : Int) (W_nodes : Int → Int) (W_scopes : Int → Int) (W_functions : Int → Int) (R_waitKinds : Int → Int) (R_waitNodes : Int → Int) (R_waitOf : Int → Int) (E_node : Int) (E_scope : Int) (E_value : Int) (R_nowRow : Int) (R_come : Int) (M_steps : Int) (M_memory : Int) (M_mostSteps : Int) (M_mostMemory : Int) (T_nodes : Int) (T_count : Int) (T_args : Int → Int) (T_firsts : Int → Int) (TB_row : Int → Int) (R_used : Int) (R_many : Int) (R_kinds : Int → Int) (R_numbers : Int → Int) (R_firsts : Int → Int) (R_seconds : Int → Int) (R_sizes : Int → Int) (R_nodeTexts : Int → Int) (R_terms : Int → Int) : Prop :=
  ∃ (E_node' E_value' st' mem' fl now' come' R_values' : Int) (V_top' : Int) (V_kinds' : Int → Int) (V_numbers' : Int → Int) (V_parts' : Int → Int) (V_links' : Int → Int) (W_depth' : Int) (W_most' : Int) (W_nodes' : Int → Int) (W_scopes' : Int → Int) (W_functions' : Int → Int) (R_valueKinds' : Int → Int) (R_valueNumbers' : Int → Int) (R_nodeOf' : Int → Int) (R_rowOf' : Int → Int) (R_given' : Int → Int) (R_waitKinds' : Int → Int) (R_waitNodes' : Int → Int) (R_waitOf' : Int → Int),
    f_Evaluator_evaluateNode N T_nodes T_kinds T_args T_firsts E_node E_scope E_value V_top V_kinds V_numbers V_parts V_links M_steps M_memory M_mostSteps M_mostMemory 0 W_depth W_most W_nodes W_scopes W_functions S_top S_bound S_outer = some (E_node', E_value',V_top', V_kinds', V_numbers', V_parts', V_links', st', mem', fl,W_depth', W_most', W_nodes', W_scopes', W_functions')
    ∧ f_Mod_evaluate R_values W_depth W_most M_steps M_memory M_mostSteps M_mostMemory 0 E_node R_nowRow R_come R_kinds R_numbers R_firsts R_seconds R_valueKinds R_valueNumbers R_nodeOf R_rowOf R_given R_rows R_rowBegins R_rowSizes R_constants R_waitKinds R_waitNodes R_waitOf = some (R_values', W_depth', W_most', st', mem', fl, now', come',R_valueKinds', R_valueNumbers', R_nodeOf', R_rowOf', R_given',R_waitKinds', R_waitNodes', R_waitOf')
    ∧ 0 ≤ st' ∧ st' ≤ M_mostSteps ∧ 0 ≤ mem' ∧ mem' ≤ M_mostMemory ∧ 0 ≤ W_most' ∧ W_most' ≤ 400
    ∧ ((1 ≤ fl ∧ fl ≤ 6 ∧ E_node' = -1 ∧ 0 ≤ W_depth' ∧ W_depth' ≤ 400) ∨ (fl = 0 ∧ now' = E_node' ∧ tw_RUN cs ps nc R_values' R_nodeOf' R_rowOf' D_top D_nodes R_dataEnd VB_top VB_row R_textEnd R_texts D_forms D_counts D_numbers R_forms R_tags R_counts R_textsAt V_top' V_kinds' V_numbers' V_parts' V_links' R_valueKinds' R_valueNumbers' R_from R_length R_given' R_firstGiven R_secondGiven D_depths D_weights S_top S_bound S_outer R_rowEnd R_rows R_rowBegins R_rowSizes lo hi T_lacks T_kinds W_depth' W_most' W_nodes' W_scopes' W_functions' R_waitKinds' R_waitNodes' R_waitOf' E_node' E_scope E_value' R_nowRow come' st' mem' M_mostSteps M_mostMemory ∧ tw_PHI st' M_mostSteps W_depth' R_waitKinds' + 1 ≤ tw_PHI M_steps M_mostSteps W_depth R_waitKinds))
set_option maxRecDepth 100000 in
theorem tw_ev_pay {N : Nat} {R_constants : Int → Int} {cs : Int → Prop} {ps : Int → Int} {nc : Int} {R_values : Int} {R_nodeOf : Int → Int} {R_rowOf : Int → Int} {D_top : Int} {D_nodes : Int → Int} {R_dataEnd : Int} {VB_top : Int} {VB_row : Int → Int} {R_textEnd : Int} {R_texts : Int → Int} {D_forms : Int → Int} {D_counts : Int → Int} {D_numbers : Int → Int} {R_forms : Int → Int} {R_tags : Int → Int} {R_counts : Int → Int} {R_textsAt : Int → Int} {V_top : Int} {V_kinds : Int → Int} {V_numbers : Int → Int} {V_parts : Int → Int} {V_links : Int → Int} {R_valueKinds : Int → Int} {R_valueNumbers : Int → Int} {R_from : Int → Int} {R_length : Int → Int} {R_given : Int → Int} {R_firstGiven : Int → Int} {R_secondGiven : Int → Int} {D_depths : Int → Int} {D_weights : Int → Int} {S_top : Int} {S_bound : Int → Int} {S_outer : Int → Int} {R_rowEnd : Int} {R_rows : Int → Int} {R_rowBegins : Int → Int} {R_rowSizes : Int → Int} {lo : Int} {hi : Int} {T_lacks : Int → Int} {T_kinds : Int → Int} {W_depth : Int} {W_most : Int} {W_nodes : Int → Int} {W_scopes : Int → Int} {W_functions : Int → Int} {R_waitKinds : Int → Int} {R_waitNodes : Int → Int} {R_waitOf : Int → Int} {E_node : Int} {E_scope : Int} {E_value : Int} {R_nowRow : Int} {R_come : Int} {M_steps : Int} {M_memory : Int} {M_mostSteps : Int} {M_mostMemory : Int} {T_nodes : Int} {T_count : Int} {T_args : Int → Int} {T_firsts : Int → Int} {TB_row : Int → Int} {R_used : Int} {R_many : Int} {R_kinds : Int → Int} {R_numbers : Int → Int} {R_firsts : Int → Int} {R_seconds : Int → Int} {R_sizes : Int → Int} {R_nodeTexts : Int → Int} {R_terms : Int → Int} (hN : 300 ≤ N) (ht : tw_TOK T_nodes T_count T_kinds T_args T_firsts T_lacks TB_row R_used R_many R_kinds R_numbers R_firsts R_seconds R_sizes R_nodeTexts R_terms lo hi cs ps R_constants) (h : tw_RUN cs ps nc R_values R_nodeOf R_rowOf D_top D_nodes R_dataEnd VB_top VB_row R_textEnd R_texts D_forms D_counts D_numbers R_forms R_tags R_counts R_textsAt V_top V_kinds V_numbers V_parts V_links R_valueKinds R_valueNumbers R_from R_length R_given R_firstGiven R_secondGiven D_depths D_weights S_top S_bound S_outer R_rowEnd R_rows R_rowBegins R_rowSizes lo hi T_lacks T_kinds W_depth W_most W_nodes W_scopes W_functions R_waitKinds R_waitNodes R_waitOf E_node E_scope E_value R_nowRow R_come M_steps M_memory M_mostSteps M_mostMemory) (hn : 0 ≤ E_node) (hp : ¬ 1 ≤ M_mostSteps - M_steps) : tw_EvS N R_constants cs ps nc R_values R_nodeOf R_rowOf D_top D_nodes R_dataEnd VB_top VB_row R_textEnd R_texts D_forms D_counts D_numbers R_forms R_tags R_counts R_textsAt V_top V_kinds V_numbers V_parts V_links R_valueKinds R_valueNumbers R_from R_length R_given R_firstGiven R_secondGiven D_depths D_weights S_top S_bound S_outer R_rowEnd R_rows R_rowBegins R_rowSizes lo hi T_lacks T_kinds W_depth W_most W_nodes W_scopes W_functions R_waitKinds R_waitNodes R_waitOf E_node E_scope E_value R_nowRow R_come M_steps M_memory M_mostSteps M_mostMemory T_nodes T_count T_args T_firsts TB_row R_used R_many R_kinds R_numbers R_firsts R_seconds R_sizes R_nodeTexts R_terms := by
  obtain ⟨hx, hT, hsc, hsm, hw, hnow, hs1, hs2, hs3, hm1, hm2, hm3⟩ := id h
  have tr := tw_TOPS_r hx hT
  obtain ⟨hI, hM, hlo, hhi, hcs⟩ := ht
  obtain ⟨t1, t2, t3, t4, t5, t6, t7, t8, t9, t10⟩ := id hI
  have hev : tw_EV lo hi T_lacks S_top R_rowSizes E_node E_scope ∧ R_nowRow = E_scope + 1 := by
    rcases hnow with ⟨a, b, c⟩ | ⟨a, -⟩
    · exact ⟨a, c⟩
    · omega
  obtain ⟨⟨ev1, ev2, ev3, ev4, ev5, ev6⟩, enr⟩ := hev
  have nd := t10 E_node (by omega) (by omega)
  obtain ⟨a1, a2, a3, a4, a5, a6, a7, a8, a9, -⟩ := id nd
  have rr := tw_rs_r hsc ev3 ev4
  have w0 := hw.1
  have w1 := hw.2.1
  have w2 := hw.2.2.1
  have sc1 := hsc.1
  have sc2 := hsc.2.1
  have sc4 := hsc.2.2.2.1
  obtain ⟨p1, p2⟩ := tw_payS (st := M_steps) (ms := M_mostSteps) (n := 1) hs1 hs2 hs3 (by omega) (by omega)
  rw [if_neg hp] at p1 p2
  refine ⟨-1, E_value, M_steps, M_memory, 4, E_node, R_come, R_values, V_top, V_kinds, V_numbers, V_parts, V_links, W_depth, W_most, W_nodes, W_scopes, W_functions, R_valueKinds, R_valueNumbers, R_nodeOf, R_rowOf, R_given, R_waitKinds, R_waitNodes, R_waitOf, ?_, ?_, by omega, by omega, by omega, by omega, by omega, by omega, Or.inl (by omega)⟩
  · unfold f_Evaluator_evaluateNode
    refine tw_ob3_t p1 ?_
    (first | refine tw_ite_t (by first | omega | (simp only [tw_gq]; omega)) ?_ | refine tw_ite_f (by first | omega | (simp only [tw_gq]; omega)) ?_); (first | refine tw_ite_t (by first | omega | (simp only [tw_gq]; omega)) ?_ | refine tw_ite_f (by first | omega | (simp only [tw_gq]; omega)) ?_); rfl
  · unfold f_Mod_evaluate
    refine tw_ob3_t p2 ?_
    (first | refine tw_ite_t (by first | omega | (simp only [tw_gq]; omega)) ?_ | refine tw_ite_f (by first | omega | (simp only [tw_gq]; omega)) ?_); (first | refine tw_ite_t (by first | omega | (simp only [tw_gq]; omega)) ?_ | refine tw_ite_f (by first | omega | (simp only [tw_gq]; omega)) ?_); rfl
set_option maxRecDepth 100000 in
theorem tw_ev_0 {N : Nat} {R_constants : Int → Int} {cs : Int → Prop} {ps : Int → Int} {nc : Int} {R_values : Int} {R_nodeOf : Int → Int} {R_rowOf : Int → Int} {D_top : Int} {D_nodes : Int → Int} {R_dataEnd : Int} {VB_top : Int} {VB_row : Int → Int} {R_textEnd : Int} {R_texts : Int → Int} {D_forms : Int → Int} {D_counts : Int → Int} {D_numbers : Int → Int} {R_forms : Int → Int} {R_tags : Int → Int} {R_counts : Int → Int} {R_textsAt : Int → Int} {V_top : Int} {V_kinds : Int → Int} {V_numbers : Int → Int} {V_parts : Int → Int} {V_links : Int → Int} {R_valueKinds : Int → Int} {R_valueNumbers : Int → Int} {R_from : Int → Int} {R_length : Int → Int} {R_given : Int → Int} {R_firstGiven : Int → Int} {R_secondGiven : Int → Int} {D_depths : Int → Int} {D_weights : Int → Int} {S_top : Int} {S_bound : Int → Int} {S_outer : Int → Int} {R_rowEnd : Int} {R_rows : Int → Int} {R_rowBegins : Int → Int} {R_rowSizes : Int → Int} {lo : Int} {hi : Int} {T_lacks : Int → Int} {T_kinds : Int → Int} {W_depth : Int} {W_most : Int} {W_nodes : Int → Int} {W_scopes : Int → Int} {W_functions : Int → Int} {R_waitKinds : Int → Int} {R_waitNodes : Int → Int} {R_waitOf : Int → Int} {E_node : Int} {E_scope : Int} {E_value : Int} {R_nowRow : Int} {R_come : Int} {M_steps : Int} {M_memory : Int} {M_mostSteps : Int} {M_mostMemory : Int} {T_nodes : Int} {T_count : Int} {T_args : Int → Int} {T_firsts : Int → Int} {TB_row : Int → Int} {R_used : Int} {R_many : Int} {R_kinds : Int → Int} {R_numbers : Int → Int} {R_firsts : Int → Int} {R_seconds : Int → Int} {R_sizes : Int → Int} {R_nodeTexts : Int → Int} {R_terms : Int → Int} (hN : 300 ≤ N) (ht : tw_TOK T_nodes T_count T_kinds T_args T_firsts T_lacks TB_row R_used R_many R_kinds R_numbers R_firsts R_seconds R_sizes R_nodeTexts R_terms lo hi cs ps R_constants) (h : tw_RUN cs ps nc R_values R_nodeOf R_rowOf D_top D_nodes R_dataEnd VB_top VB_row R_textEnd R_texts D_forms D_counts D_numbers R_forms R_tags R_counts R_textsAt V_top V_kinds V_numbers V_parts V_links R_valueKinds R_valueNumbers R_from R_length R_given R_firstGiven R_secondGiven D_depths D_weights S_top S_bound S_outer R_rowEnd R_rows R_rowBegins R_rowSizes lo hi T_lacks T_kinds W_depth W_most W_nodes W_scopes W_functions R_waitKinds R_waitNodes R_waitOf E_node E_scope E_value R_nowRow R_come M_steps M_memory M_mostSteps M_mostMemory) (hn : 0 ≤ E_node) (hp : 1 ≤ M_mostSteps - M_steps) (hk : T_kinds E_node = 0) : tw_EvS N R_constants cs ps nc R_values R_nodeOf R_rowOf D_top D_nodes R_dataEnd VB_top VB_row R_textEnd R_texts D_forms D_counts D_numbers R_forms R_tags R_counts R_textsAt V_top V_kinds V_numbers V_parts V_links R_valueKinds R_valueNumbers R_from R_length R_given R_firstGiven R_secondGiven D_depths D_weights S_top S_bound S_outer R_rowEnd R_rows R_rowBegins R_rowSizes lo hi T_lacks T_kinds W_depth W_most W_nodes W_scopes W_functions R_waitKinds R_waitNodes R_waitOf E_node E_scope E_value R_nowRow R_come M_steps M_memory M_mostSteps M_mostMemory T_nodes T_count T_args T_firsts TB_row R_used R_many R_kinds R_numbers R_firsts R_seconds R_sizes R_nodeTexts R_terms := by
  obtain ⟨hx, hT, hsc, hsm, hw, hnow, hs1, hs2, hs3, hm1, hm2, hm3⟩ := id h
  have tr := tw_TOPS_r hx hT
  obtain ⟨hI, hM, hlo, hhi, hcs⟩ := ht
  obtain ⟨t1, t2, t3, t4, t5, t6, t7, t8, t9, t10⟩ := id hI
  have hev : tw_EV lo hi T_lacks S_top R_rowSizes E_node E_scope ∧ R_nowRow = E_scope + 1 := by
    rcases hnow with ⟨a, b, c⟩ | ⟨a, -⟩
    · exact ⟨a, c⟩
    · omega
  obtain ⟨⟨ev1, ev2, ev3, ev4, ev5, ev6⟩, enr⟩ := hev
  have nd := t10 E_node (by omega) (by omega)
  obtain ⟨a1, a2, a3, a4, a5, a6, a7, a8, a9, -⟩ := id nd
  have rr := tw_rs_r hsc ev3 ev4
  have w0 := hw.1
  have w1 := hw.2.1
  have w2 := hw.2.2.1
  have sc1 := hsc.1
  have sc2 := hsc.2.1
  have sc4 := hsc.2.2.2.1
  obtain ⟨p1, p2⟩ := tw_payS (st := M_steps) (ms := M_mostSteps) (n := 1) hs1 hs2 hs3 (by omega) (by omega)
  rw [if_pos hp] at p1 p2
  have ar0 := nd.2.2.2.2.2.2.2.2.2.1 hk
  have la := (nd.2.2.2.2.2.2.2.2.2.2.2.2.2.2.2.2.2 (by omega)).2.2.2
  rw [if_pos hk] at la
  obtain ⟨v, f1, f2, f3⟩ := tw_find_ok (i := T_args E_node) hN hsc ev3 ev4 (by omega) (by omega)
  refine ⟨-1, v, M_steps + 1, M_memory, 0, -1, ps v, R_values, V_top, V_kinds, V_numbers, V_parts, V_links, W_depth, W_most, W_nodes, W_scopes, W_functions, R_valueKinds, R_valueNumbers, R_nodeOf, R_rowOf, R_given, R_waitKinds, R_waitNodes, R_waitOf, ?_, ?_, by omega, by omega, by omega, by omega, by omega, by omega, Or.inr ⟨rfl, rfl, ⟨hx, hT, hsc, by omega, hw, Or.inr ⟨rfl, f2, rfl⟩, by omega, by omega, hs3, by omega, by omega, hm3⟩, (by unfold tw_PHI; omega)⟩⟩
  · unfold f_Evaluator_evaluateNode
    refine tw_ob3_t p1 ?_
    (first | refine tw_ite_t (by first | omega | (simp only [tw_gq]; omega)) ?_ | refine tw_ite_f (by first | omega | (simp only [tw_gq]; omega)) ?_); (first | refine tw_ite_t (by first | omega | (simp only [tw_gq]; omega)) ?_ | refine tw_ite_f (by first | omega | (simp only [tw_gq]; omega)) ?_)
    refine tw_bind_t (tw_tKind (by omega) (by omega) (by omega)) ?_
    (first | refine tw_ite_t (by first | omega | (simp only [tw_gq]; omega)) ?_ | refine tw_ite_f (by first | omega | (simp only [tw_gq]; omega)) ?_); (first | refine tw_ite_t (by first | omega | (simp only [tw_gq]; omega)) ?_ | refine tw_ite_f (by first | omega | (simp only [tw_gq]; omega)) ?_)
    refine tw_bind_t (tw_tArg (by omega) (by omega) (by omega)) ?_
    refine tw_bind_t f1 ?_
    rfl
  · unfold f_Mod_evaluate
    refine tw_ob3_t p2 ?_
    (first | refine tw_ite_t (by first | omega | (simp only [tw_gq]; omega)) ?_ | refine tw_ite_f (by first | omega | (simp only [tw_gq]; omega)) ?_); (first | refine tw_ite_t (by first | omega | (simp only [tw_gq]; omega)) ?_ | refine tw_ite_f (by first | omega | (simp only [tw_gq]; omega)) ?_)
    rw [a1]
    rw [a2, enr]
    (first | refine tw_ite_t (by first | omega | (simp only [tw_gq]; omega)) ?_ | refine tw_ite_f (by first | omega | (simp only [tw_gq]; omega)) ?_); (first | refine tw_ite_t (by first | omega | (simp only [tw_gq]; omega)) ?_ | refine tw_ite_f (by first | omega | (simp only [tw_gq]; omega)) ?_); (first | refine tw_ite_t (by first | omega | (simp only [tw_gq]; omega)) ?_ | refine tw_ite_f (by first | omega | (simp only [tw_gq]; omega)) ?_); (first | refine tw_ite_t (by first | omega | (simp only [tw_gq]; omega)) ?_ | refine tw_ite_f (by first | omega | (simp only [tw_gq]; omega)) ?_); (first | refine tw_ite_t (by first | omega | (simp only [tw_gq]; omega)) ?_ | refine tw_ite_f (by first | omega | (simp only [tw_gq]; omega)) ?_); (first | refine tw_ite_t (by first | omega | (simp only [tw_gq]; omega)) ?_ | refine tw_ite_f (by first | omega | (simp only [tw_gq]; omega)) ?_); (first | refine tw_ite_t (by first | omega | (simp only [tw_gq]; omega)) ?_ | refine tw_ite_f (by first | omega | (simp only [tw_gq]; omega)) ?_)
    rw [← f3]
    rfl
set_option maxRecDepth 100000 in
theorem tw_ev_5 {N : Nat} {R_constants : Int → Int} {cs : Int → Prop} {ps : Int → Int} {nc : Int} {R_values : Int} {R_nodeOf : Int → Int} {R_rowOf : Int → Int} {D_top : Int} {D_nodes : Int → Int} {R_dataEnd : Int} {VB_top : Int} {VB_row : Int → Int} {R_textEnd : Int} {R_texts : Int → Int} {D_forms : Int → Int} {D_counts : Int → Int} {D_numbers : Int → Int} {R_forms : Int → Int} {R_tags : Int → Int} {R_counts : Int → Int} {R_textsAt : Int → Int} {V_top : Int} {V_kinds : Int → Int} {V_numbers : Int → Int} {V_parts : Int → Int} {V_links : Int → Int} {R_valueKinds : Int → Int} {R_valueNumbers : Int → Int} {R_from : Int → Int} {R_length : Int → Int} {R_given : Int → Int} {R_firstGiven : Int → Int} {R_secondGiven : Int → Int} {D_depths : Int → Int} {D_weights : Int → Int} {S_top : Int} {S_bound : Int → Int} {S_outer : Int → Int} {R_rowEnd : Int} {R_rows : Int → Int} {R_rowBegins : Int → Int} {R_rowSizes : Int → Int} {lo : Int} {hi : Int} {T_lacks : Int → Int} {T_kinds : Int → Int} {W_depth : Int} {W_most : Int} {W_nodes : Int → Int} {W_scopes : Int → Int} {W_functions : Int → Int} {R_waitKinds : Int → Int} {R_waitNodes : Int → Int} {R_waitOf : Int → Int} {E_node : Int} {E_scope : Int} {E_value : Int} {R_nowRow : Int} {R_come : Int} {M_steps : Int} {M_memory : Int} {M_mostSteps : Int} {M_mostMemory : Int} {T_nodes : Int} {T_count : Int} {T_args : Int → Int} {T_firsts : Int → Int} {TB_row : Int → Int} {R_used : Int} {R_many : Int} {R_kinds : Int → Int} {R_numbers : Int → Int} {R_firsts : Int → Int} {R_seconds : Int → Int} {R_sizes : Int → Int} {R_nodeTexts : Int → Int} {R_terms : Int → Int} (hN : 300 ≤ N) (ht : tw_TOK T_nodes T_count T_kinds T_args T_firsts T_lacks TB_row R_used R_many R_kinds R_numbers R_firsts R_seconds R_sizes R_nodeTexts R_terms lo hi cs ps R_constants) (h : tw_RUN cs ps nc R_values R_nodeOf R_rowOf D_top D_nodes R_dataEnd VB_top VB_row R_textEnd R_texts D_forms D_counts D_numbers R_forms R_tags R_counts R_textsAt V_top V_kinds V_numbers V_parts V_links R_valueKinds R_valueNumbers R_from R_length R_given R_firstGiven R_secondGiven D_depths D_weights S_top S_bound S_outer R_rowEnd R_rows R_rowBegins R_rowSizes lo hi T_lacks T_kinds W_depth W_most W_nodes W_scopes W_functions R_waitKinds R_waitNodes R_waitOf E_node E_scope E_value R_nowRow R_come M_steps M_memory M_mostSteps M_mostMemory) (hn : 0 ≤ E_node) (hp : 1 ≤ M_mostSteps - M_steps) (hk : T_kinds E_node = 5) : tw_EvS N R_constants cs ps nc R_values R_nodeOf R_rowOf D_top D_nodes R_dataEnd VB_top VB_row R_textEnd R_texts D_forms D_counts D_numbers R_forms R_tags R_counts R_textsAt V_top V_kinds V_numbers V_parts V_links R_valueKinds R_valueNumbers R_from R_length R_given R_firstGiven R_secondGiven D_depths D_weights S_top S_bound S_outer R_rowEnd R_rows R_rowBegins R_rowSizes lo hi T_lacks T_kinds W_depth W_most W_nodes W_scopes W_functions R_waitKinds R_waitNodes R_waitOf E_node E_scope E_value R_nowRow R_come M_steps M_memory M_mostSteps M_mostMemory T_nodes T_count T_args T_firsts TB_row R_used R_many R_kinds R_numbers R_firsts R_seconds R_sizes R_nodeTexts R_terms := by
  obtain ⟨hx, hT, hsc, hsm, hw, hnow, hs1, hs2, hs3, hm1, hm2, hm3⟩ := id h
  have tr := tw_TOPS_r hx hT
  obtain ⟨hI, hM, hlo, hhi, hcs⟩ := ht
  obtain ⟨t1, t2, t3, t4, t5, t6, t7, t8, t9, t10⟩ := id hI
  have hev : tw_EV lo hi T_lacks S_top R_rowSizes E_node E_scope ∧ R_nowRow = E_scope + 1 := by
    rcases hnow with ⟨a, b, c⟩ | ⟨a, -⟩
    · exact ⟨a, c⟩
    · omega
  obtain ⟨⟨ev1, ev2, ev3, ev4, ev5, ev6⟩, enr⟩ := hev
  have nd := t10 E_node (by omega) (by omega)
  obtain ⟨a1, a2, a3, a4, a5, a6, a7, a8, a9, -⟩ := id nd
  have rr := tw_rs_r hsc ev3 ev4
  have w0 := hw.1
  have w1 := hw.2.1
  have w2 := hw.2.2.1
  have sc1 := hsc.1
  have sc2 := hsc.2.1
  have sc4 := hsc.2.2.2.1
  obtain ⟨p1, p2⟩ := tw_payS (st := M_steps) (ms := M_mostSteps) (n := 1) hs1 hs2 hs3 (by omega) (by omega)
  rw [if_pos hp] at p1 p2
  refine ⟨-1, E_value, M_steps + 1, M_memory, 1, E_node, R_come, R_values, V_top, V_kinds, V_numbers, V_parts, V_links, W_depth, W_most, W_nodes, W_scopes, W_functions, R_valueKinds, R_valueNumbers, R_nodeOf, R_rowOf, R_given, R_waitKinds, R_waitNodes, R_waitOf, ?_, ?_, by omega, by omega, by omega, by omega, by omega, by omega, Or.inl (by omega)⟩
  · unfold f_Evaluator_evaluateNode
    refine tw_ob3_t p1 ?_
    (first | refine tw_ite_t (by first | omega | (simp only [tw_gq]; omega)) ?_ | refine tw_ite_f (by first | omega | (simp only [tw_gq]; omega)) ?_); (first | refine tw_ite_t (by first | omega | (simp only [tw_gq]; omega)) ?_ | refine tw_ite_f (by first | omega | (simp only [tw_gq]; omega)) ?_)
    refine tw_bind_t (tw_tKind (by omega) (by omega) (by omega)) ?_
    (first | refine tw_ite_t (by first | omega | (simp only [tw_gq]; omega)) ?_ | refine tw_ite_f (by first | omega | (simp only [tw_gq]; omega)) ?_); (first | refine tw_ite_t (by first | omega | (simp only [tw_gq]; omega)) ?_ | refine tw_ite_f (by first | omega | (simp only [tw_gq]; omega)) ?_); (first | refine tw_ite_t (by first | omega | (simp only [tw_gq]; omega)) ?_ | refine tw_ite_f (by first | omega | (simp only [tw_gq]; omega)) ?_); (first | refine tw_ite_t (by first | omega | (simp only [tw_gq]; omega)) ?_ | refine tw_ite_f (by first | omega | (simp only [tw_gq]; omega)) ?_); (first | refine tw_ite_t (by first | omega | (simp only [tw_gq]; omega)) ?_ | refine tw_ite_f (by first | omega | (simp only [tw_gq]; omega)) ?_); (first | refine tw_ite_t (by first | omega | (simp only [tw_gq]; omega)) ?_ | refine tw_ite_f (by first | omega | (simp only [tw_gq]; omega)) ?_); (first | refine tw_ite_t (by first | omega | (simp only [tw_gq]; omega)) ?_ | refine tw_ite_f (by first | omega | (simp only [tw_gq]; omega)) ?_)
    rfl
  · unfold f_Mod_evaluate
    refine tw_ob3_t p2 ?_
    (first | refine tw_ite_t (by first | omega | (simp only [tw_gq]; omega)) ?_ | refine tw_ite_f (by first | omega | (simp only [tw_gq]; omega)) ?_); (first | refine tw_ite_t (by first | omega | (simp only [tw_gq]; omega)) ?_ | refine tw_ite_f (by first | omega | (simp only [tw_gq]; omega)) ?_)
    rw [a1]
    (first | refine tw_ite_t (by first | omega | (simp only [tw_gq]; omega)) ?_ | refine tw_ite_f (by first | omega | (simp only [tw_gq]; omega)) ?_); (first | refine tw_ite_t (by first | omega | (simp only [tw_gq]; omega)) ?_ | refine tw_ite_f (by first | omega | (simp only [tw_gq]; omega)) ?_); (first | refine tw_ite_t (by first | omega | (simp only [tw_gq]; omega)) ?_ | refine tw_ite_f (by first | omega | (simp only [tw_gq]; omega)) ?_); (first | refine tw_ite_t (by first | omega | (simp only [tw_gq]; omega)) ?_ | refine tw_ite_f (by first | omega | (simp only [tw_gq]; omega)) ?_); (first | refine tw_ite_t (by first | omega | (simp only [tw_gq]; omega)) ?_ | refine tw_ite_f (by first | omega | (simp only [tw_gq]; omega)) ?_); (first | refine tw_ite_t (by first | omega | (simp only [tw_gq]; omega)) ?_ | refine tw_ite_f (by first | omega | (simp only [tw_gq]; omega)) ?_); (first | refine tw_ite_t (by first | omega | (simp only [tw_gq]; omega)) ?_ | refine tw_ite_f (by first | omega | (simp only [tw_gq]; omega)) ?_); (first | refine tw_ite_t (by first | omega | (simp only [tw_gq]; omega)) ?_ | refine tw_ite_f (by first | omega | (simp only [tw_gq]; omega)) ?_); (first | refine tw_ite_t (by first | omega | (simp only [tw_gq]; omega)) ?_ | refine tw_ite_f (by first | omega | (simp only [tw_gq]; omega)) ?_); (first | refine tw_ite_t (by first | omega | (simp only [tw_gq]; omega)) ?_ | refine tw_ite_f (by first | omega | (simp only [tw_gq]; omega)) ?_); (first | refine tw_ite_t (by first | omega | (simp only [tw_gq]; omega)) ?_ | refine tw_ite_f (by first | omega | (simp only [tw_gq]; omega)) ?_); (first | refine tw_ite_t (by first | omega | (simp only [tw_gq]; omega)) ?_ | refine tw_ite_f (by first | omega | (simp only [tw_gq]; omega)) ?_); (first | refine tw_ite_t (by first | omega | (simp only [tw_gq]; omega)) ?_ | refine tw_ite_f (by first | omega | (simp only [tw_gq]; omega)) ?_); (first | refine tw_ite_t (by first | omega | (simp only [tw_gq]; omega)) ?_ | refine tw_ite_f (by first | omega | (simp only [tw_gq]; omega)) ?_); (first | refine tw_ite_t (by first | omega | (simp only [tw_gq]; omega)) ?_ | refine tw_ite_f (by first | omega | (simp only [tw_gq]; omega)) ?_)
    exact tw_ob2_t (tw_fail_ok rfl) rfl
set_option maxRecDepth 100000 in
theorem tw_ev_c {N : Nat} {R_constants : Int → Int} {cs : Int → Prop} {ps : Int → Int} {nc : Int} {R_values : Int} {R_nodeOf : Int → Int} {R_rowOf : Int → Int} {D_top : Int} {D_nodes : Int → Int} {R_dataEnd : Int} {VB_top : Int} {VB_row : Int → Int} {R_textEnd : Int} {R_texts : Int → Int} {D_forms : Int → Int} {D_counts : Int → Int} {D_numbers : Int → Int} {R_forms : Int → Int} {R_tags : Int → Int} {R_counts : Int → Int} {R_textsAt : Int → Int} {V_top : Int} {V_kinds : Int → Int} {V_numbers : Int → Int} {V_parts : Int → Int} {V_links : Int → Int} {R_valueKinds : Int → Int} {R_valueNumbers : Int → Int} {R_from : Int → Int} {R_length : Int → Int} {R_given : Int → Int} {R_firstGiven : Int → Int} {R_secondGiven : Int → Int} {D_depths : Int → Int} {D_weights : Int → Int} {S_top : Int} {S_bound : Int → Int} {S_outer : Int → Int} {R_rowEnd : Int} {R_rows : Int → Int} {R_rowBegins : Int → Int} {R_rowSizes : Int → Int} {lo : Int} {hi : Int} {T_lacks : Int → Int} {T_kinds : Int → Int} {W_depth : Int} {W_most : Int} {W_nodes : Int → Int} {W_scopes : Int → Int} {W_functions : Int → Int} {R_waitKinds : Int → Int} {R_waitNodes : Int → Int} {R_waitOf : Int → Int} {E_node : Int} {E_scope : Int} {E_value : Int} {R_nowRow : Int} {R_come : Int} {M_steps : Int} {M_memory : Int} {M_mostSteps : Int} {M_mostMemory : Int} {T_nodes : Int} {T_count : Int} {T_args : Int → Int} {T_firsts : Int → Int} {TB_row : Int → Int} {R_used : Int} {R_many : Int} {R_kinds : Int → Int} {R_numbers : Int → Int} {R_firsts : Int → Int} {R_seconds : Int → Int} {R_sizes : Int → Int} {R_nodeTexts : Int → Int} {R_terms : Int → Int} (hN : 300 ≤ N) (ht : tw_TOK T_nodes T_count T_kinds T_args T_firsts T_lacks TB_row R_used R_many R_kinds R_numbers R_firsts R_seconds R_sizes R_nodeTexts R_terms lo hi cs ps R_constants) (h : tw_RUN cs ps nc R_values R_nodeOf R_rowOf D_top D_nodes R_dataEnd VB_top VB_row R_textEnd R_texts D_forms D_counts D_numbers R_forms R_tags R_counts R_textsAt V_top V_kinds V_numbers V_parts V_links R_valueKinds R_valueNumbers R_from R_length R_given R_firstGiven R_secondGiven D_depths D_weights S_top S_bound S_outer R_rowEnd R_rows R_rowBegins R_rowSizes lo hi T_lacks T_kinds W_depth W_most W_nodes W_scopes W_functions R_waitKinds R_waitNodes R_waitOf E_node E_scope E_value R_nowRow R_come M_steps M_memory M_mostSteps M_mostMemory) (hn : 0 ≤ E_node) (hp : 1 ≤ M_mostSteps - M_steps) (hk : 7 ≤ T_kinds E_node) : tw_EvS N R_constants cs ps nc R_values R_nodeOf R_rowOf D_top D_nodes R_dataEnd VB_top VB_row R_textEnd R_texts D_forms D_counts D_numbers R_forms R_tags R_counts R_textsAt V_top V_kinds V_numbers V_parts V_links R_valueKinds R_valueNumbers R_from R_length R_given R_firstGiven R_secondGiven D_depths D_weights S_top S_bound S_outer R_rowEnd R_rows R_rowBegins R_rowSizes lo hi T_lacks T_kinds W_depth W_most W_nodes W_scopes W_functions R_waitKinds R_waitNodes R_waitOf E_node E_scope E_value R_nowRow R_come M_steps M_memory M_mostSteps M_mostMemory T_nodes T_count T_args T_firsts TB_row R_used R_many R_kinds R_numbers R_firsts R_seconds R_sizes R_nodeTexts R_terms := by
  obtain ⟨hx, hT, hsc, hsm, hw, hnow, hs1, hs2, hs3, hm1, hm2, hm3⟩ := id h
  have tr := tw_TOPS_r hx hT
  obtain ⟨hI, hM, hlo, hhi, hcs⟩ := ht
  obtain ⟨t1, t2, t3, t4, t5, t6, t7, t8, t9, t10⟩ := id hI
  have hev : tw_EV lo hi T_lacks S_top R_rowSizes E_node E_scope ∧ R_nowRow = E_scope + 1 := by
    rcases hnow with ⟨a, b, c⟩ | ⟨a, -⟩
    · exact ⟨a, c⟩
    · omega
  obtain ⟨⟨ev1, ev2, ev3, ev4, ev5, ev6⟩, enr⟩ := hev
  have nd := t10 E_node (by omega) (by omega)
  obtain ⟨a1, a2, a3, a4, a5, a6, a7, a8, a9, -⟩ := id nd
  have rr := tw_rs_r hsc ev3 ev4
  have w0 := hw.1
  have w1 := hw.2.1
  have w2 := hw.2.2.1
  have sc1 := hsc.1
  have sc2 := hsc.2.1
  have sc4 := hsc.2.2.2.1
  obtain ⟨p1, p2⟩ := tw_payS (st := M_steps) (ms := M_mostSteps) (n := 1) hs1 hs2 hs3 (by omega) (by omega)
  rw [if_pos hp] at p1 p2
  obtain ⟨c1, c2⟩ := hcs E_node ev1 ev2 hk
  refine ⟨-1, E_node, M_steps + 1, M_memory, 0, -1, ps E_node, R_values, V_top, V_kinds, V_numbers, V_parts, V_links, W_depth, W_most, W_nodes, W_scopes, W_functions, R_valueKinds, R_valueNumbers, R_nodeOf, R_rowOf, R_given, R_waitKinds, R_waitNodes, R_waitOf, ?_, ?_, by omega, by omega, by omega, by omega, by omega, by omega, Or.inr ⟨rfl, rfl, ⟨hx, hT, hsc, by omega, hw, Or.inr ⟨rfl, ⟨hn, by omega, fun _ => c1⟩, rfl⟩, by omega, by omega, hs3, by omega, by omega, hm3⟩, (by unfold tw_PHI; omega)⟩⟩
  · unfold f_Evaluator_evaluateNode
    refine tw_ob3_t p1 ?_
    (first | refine tw_ite_t (by first | omega | (simp only [tw_gq]; omega)) ?_ | refine tw_ite_f (by first | omega | (simp only [tw_gq]; omega)) ?_); (first | refine tw_ite_t (by first | omega | (simp only [tw_gq]; omega)) ?_ | refine tw_ite_f (by first | omega | (simp only [tw_gq]; omega)) ?_)
    refine tw_bind_t (tw_tKind (by omega) (by omega) (by omega)) ?_
    (repeat (first | refine tw_ite_t (by first | omega | (simp only [tw_gq]; omega)) ?_ | refine tw_ite_f (by first | omega | (simp only [tw_gq]; omega)) ?_))
    rfl
  · unfold f_Mod_evaluate
    refine tw_ob3_t p2 ?_
    (first | refine tw_ite_t (by first | omega | (simp only [tw_gq]; omega)) ?_ | refine tw_ite_f (by first | omega | (simp only [tw_gq]; omega)) ?_); (first | refine tw_ite_t (by first | omega | (simp only [tw_gq]; omega)) ?_ | refine tw_ite_f (by first | omega | (simp only [tw_gq]; omega)) ?_)
    rw [a1]
    (repeat (first | refine tw_ite_t (by first | omega | (simp only [tw_gq]; omega)) ?_ | refine tw_ite_f (by first | omega | (simp only [tw_gq]; omega)) ?_))
    rw [← c2]
    rfl
set_option maxRecDepth 100000 in
theorem tw_ev_2 {N : Nat} {R_constants : Int → Int} {cs : Int → Prop} {ps : Int → Int} {nc : Int} {R_values : Int} {R_nodeOf : Int → Int} {R_rowOf : Int → Int} {D_top : Int} {D_nodes : Int → Int} {R_dataEnd : Int} {VB_top : Int} {VB_row : Int → Int} {R_textEnd : Int} {R_texts : Int → Int} {D_forms : Int → Int} {D_counts : Int → Int} {D_numbers : Int → Int} {R_forms : Int → Int} {R_tags : Int → Int} {R_counts : Int → Int} {R_textsAt : Int → Int} {V_top : Int} {V_kinds : Int → Int} {V_numbers : Int → Int} {V_parts : Int → Int} {V_links : Int → Int} {R_valueKinds : Int → Int} {R_valueNumbers : Int → Int} {R_from : Int → Int} {R_length : Int → Int} {R_given : Int → Int} {R_firstGiven : Int → Int} {R_secondGiven : Int → Int} {D_depths : Int → Int} {D_weights : Int → Int} {S_top : Int} {S_bound : Int → Int} {S_outer : Int → Int} {R_rowEnd : Int} {R_rows : Int → Int} {R_rowBegins : Int → Int} {R_rowSizes : Int → Int} {lo : Int} {hi : Int} {T_lacks : Int → Int} {T_kinds : Int → Int} {W_depth : Int} {W_most : Int} {W_nodes : Int → Int} {W_scopes : Int → Int} {W_functions : Int → Int} {R_waitKinds : Int → Int} {R_waitNodes : Int → Int} {R_waitOf : Int → Int} {E_node : Int} {E_scope : Int} {E_value : Int} {R_nowRow : Int} {R_come : Int} {M_steps : Int} {M_memory : Int} {M_mostSteps : Int} {M_mostMemory : Int} {T_nodes : Int} {T_count : Int} {T_args : Int → Int} {T_firsts : Int → Int} {TB_row : Int → Int} {R_used : Int} {R_many : Int} {R_kinds : Int → Int} {R_numbers : Int → Int} {R_firsts : Int → Int} {R_seconds : Int → Int} {R_sizes : Int → Int} {R_nodeTexts : Int → Int} {R_terms : Int → Int} (hN : 300 ≤ N) (ht : tw_TOK T_nodes T_count T_kinds T_args T_firsts T_lacks TB_row R_used R_many R_kinds R_numbers R_firsts R_seconds R_sizes R_nodeTexts R_terms lo hi cs ps R_constants) (h : tw_RUN cs ps nc R_values R_nodeOf R_rowOf D_top D_nodes R_dataEnd VB_top VB_row R_textEnd R_texts D_forms D_counts D_numbers R_forms R_tags R_counts R_textsAt V_top V_kinds V_numbers V_parts V_links R_valueKinds R_valueNumbers R_from R_length R_given R_firstGiven R_secondGiven D_depths D_weights S_top S_bound S_outer R_rowEnd R_rows R_rowBegins R_rowSizes lo hi T_lacks T_kinds W_depth W_most W_nodes W_scopes W_functions R_waitKinds R_waitNodes R_waitOf E_node E_scope E_value R_nowRow R_come M_steps M_memory M_mostSteps M_mostMemory) (hn : 0 ≤ E_node) (hp : 1 ≤ M_mostSteps - M_steps) (hk : T_kinds E_node = 2) : tw_EvS N R_constants cs ps nc R_values R_nodeOf R_rowOf D_top D_nodes R_dataEnd VB_top VB_row R_textEnd R_texts D_forms D_counts D_numbers R_forms R_tags R_counts R_textsAt V_top V_kinds V_numbers V_parts V_links R_valueKinds R_valueNumbers R_from R_length R_given R_firstGiven R_secondGiven D_depths D_weights S_top S_bound S_outer R_rowEnd R_rows R_rowBegins R_rowSizes lo hi T_lacks T_kinds W_depth W_most W_nodes W_scopes W_functions R_waitKinds R_waitNodes R_waitOf E_node E_scope E_value R_nowRow R_come M_steps M_memory M_mostSteps M_mostMemory T_nodes T_count T_args T_firsts TB_row R_used R_many R_kinds R_numbers R_firsts R_seconds R_sizes R_nodeTexts R_terms := by
  obtain ⟨hx, hT, hsc, hsm, hw, hnow, hs1, hs2, hs3, hm1, hm2, hm3⟩ := id h
  have tr := tw_TOPS_r hx hT
  obtain ⟨hI, hM, hlo, hhi, hcs⟩ := ht
  obtain ⟨t1, t2, t3, t4, t5, t6, t7, t8, t9, t10⟩ := id hI
  have hev : tw_EV lo hi T_lacks S_top R_rowSizes E_node E_scope ∧ R_nowRow = E_scope + 1 := by
    rcases hnow with ⟨a, b, c⟩ | ⟨a, -⟩
    · exact ⟨a, c⟩
    · omega
  obtain ⟨⟨ev1, ev2, ev3, ev4, ev5, ev6⟩, enr⟩ := hev
  have nd := t10 E_node (by omega) (by omega)
  obtain ⟨a1, a2, a3, a4, a5, a6, a7, a8, a9, -⟩ := id nd
  have rr := tw_rs_r hsc ev3 ev4
  have w0 := hw.1
  have w1 := hw.2.1
  have w2 := hw.2.2.1
  have sc1 := hsc.1
  have sc2 := hsc.2.1
  have sc4 := hsc.2.2.2.1
  obtain ⟨p1, p2⟩ := tw_payS (st := M_steps) (ms := M_mostSteps) (n := 1) hs1 hs2 hs3 (by omega) (by omega)
  rw [if_pos hp] at p1 p2
  have nf := tw_nod_first hI hM (n := E_node) (by omega) (by omega)
  obtain ⟨z1, z2, z3, z4, z5, z6, z7⟩ := nd.2.2.2.2.2.2.2.2.2.2.2.2.2.2.2.1 hk
  have nf1 := nf.1 hk
  clear nf
  have m1 : T_lacks (T_firsts (E_node - 1) - 1) ≤ T_lacks E_node ∧ T_lacks (E_node - 1) ≤ T_lacks E_node := by omega
  by_cases cw : W_depth < 400
  · have em : ∃ wm, wm = max W_most (W_depth + 1) := ⟨_, rfl⟩
    obtain ⟨wm, em⟩ := em
    have fp : f_Waiting_push W_depth W_most W_nodes W_scopes W_functions E_node E_scope = some (1, W_depth + 1, wm, upZ W_nodes W_depth E_node, upZ W_scopes W_depth E_scope, upZ W_functions W_depth (-1)) := by
      unfold f_Waiting_push
      (repeat (first | refine tw_ite_t (by first | omega | (simp only [tw_gq]; omega)) ?_ | refine tw_ite_f (by first | omega | (simp only [tw_gq]; omega)) ?_))
      rw [em]
    have rp : f_Mod_wait W_depth W_most R_waitKinds R_waitNodes R_waitOf 0 (E_node - 1) R_nowRow = some (W_depth + 1, wm, upZ R_waitKinds W_depth 0, upZ R_waitNodes W_depth (E_node - 1), upZ R_waitOf W_depth R_nowRow) := by
      unfold f_Mod_wait
      by_cases cm : W_depth + 1 ≤ W_most
      · (repeat (first | refine tw_ite_t (by first | omega | (simp only [tw_gq]; omega)) ?_ | refine tw_ite_f (by first | omega | (simp only [tw_gq]; omega)) ?_))
        rw [show wm = W_most by omega]
      · (repeat (first | refine tw_ite_t (by first | omega | (simp only [tw_gq]; omega)) ?_ | refine tw_ite_f (by first | omega | (simp only [tw_gq]; omega)) ?_))
        rw [show wm = W_depth + 1 by omega]
    refine ⟨(T_firsts (E_node - 1) - 1), E_value, M_steps + 1, M_memory, 0, (T_firsts (E_node - 1) - 1), R_come, R_values, V_top, V_kinds, V_numbers, V_parts, V_links, W_depth + 1, wm, upZ W_nodes W_depth E_node, upZ W_scopes W_depth E_scope, upZ W_functions W_depth (-1), R_valueKinds, R_valueNumbers, R_nodeOf, R_rowOf, R_given, upZ R_waitKinds W_depth 0, upZ R_waitNodes W_depth (E_node - 1), upZ R_waitOf W_depth R_nowRow, ?_, ?_, by omega, by omega, by omega, by omega, by omega, by omega, Or.inr ?_⟩
    · unfold f_Evaluator_evaluateNode
      refine tw_ob3_t p1 ?_
      (first | refine tw_ite_t (by first | omega | (simp only [tw_gq]; omega)) ?_ | refine tw_ite_f (by first | omega | (simp only [tw_gq]; omega)) ?_); (first | refine tw_ite_t (by first | omega | (simp only [tw_gq]; omega)) ?_ | refine tw_ite_f (by first | omega | (simp only [tw_gq]; omega)) ?_)
      refine tw_bind_t (tw_tKind (by omega) (by omega) (by omega)) ?_
      (repeat (first | refine tw_ite_t (by first | omega | (simp only [tw_gq]; omega)) ?_ | refine tw_ite_f (by first | omega | (simp only [tw_gq]; omega)) ?_))
      refine tw_bind_t (tw_tFunc (by omega) (by omega) (by omega)) ?_
      unfold f_Evaluator_await
      refine tw_ob7_t (a1 := (T_firsts (E_node - 1) - 1)) (a2 := 0) (a3 := W_depth + 1) (a4 := wm) (a5 := upZ W_nodes W_depth E_node) (a6 := upZ W_scopes W_depth E_scope) (a7 := upZ W_functions W_depth (-1)) ?_ rfl
      refine tw_ob6_t fp ?_
      (first | refine tw_ite_t (by first | omega | (simp only [tw_gq]; omega)) ?_ | refine tw_ite_f (by first | omega | (simp only [tw_gq]; omega)) ?_); (first | refine tw_ite_t (by first | omega | (simp only [tw_gq]; omega)) ?_ | refine tw_ite_f (by first | omega | (simp only [tw_gq]; omega)) ?_); rfl
    · unfold f_Mod_evaluate
      refine tw_ob3_t p2 ?_
      (first | refine tw_ite_t (by first | omega | (simp only [tw_gq]; omega)) ?_ | refine tw_ite_f (by first | omega | (simp only [tw_gq]; omega)) ?_); (first | refine tw_ite_t (by first | omega | (simp only [tw_gq]; omega)) ?_ | refine tw_ite_f (by first | omega | (simp only [tw_gq]; omega)) ?_)
      rw [a1, z5, z6]
      (repeat (first | refine tw_ite_t (by first | omega | (simp only [tw_gq]; omega)) ?_ | refine tw_ite_f (by first | omega | (simp only [tw_gq]; omega)) ?_))
      refine tw_ob5_t rp ?_
      (repeat (first | refine tw_ite_t (by first | omega | (simp only [tw_gq]; omega)) ?_ | refine tw_ite_f (by first | omega | (simp only [tw_gq]; omega)) ?_))
      rfl
    ·
      refine ⟨rfl, rfl, ⟨hx, hT, hsc, by omega, ⟨by omega, by omega, by omega, fun i i0 i1 => ?_⟩, Or.inl ⟨⟨by omega, by omega, ev3, ev4, by omega, by omega⟩, by omega, enr⟩, by omega, by omega, hs3, by omega, by omega, hm3⟩, ?_⟩
      · by_cases ei : i = W_depth
        · subst ei
          refine ⟨by rw [tw_upS]; omega, by rw [tw_upS]; omega, ?_⟩
          rw [tw_upS, tw_upS, tw_upS, tw_upS, tw_upS, tw_upS]
          exact Or.inl ⟨rfl, rfl, hk, rfl, enr, ⟨by omega, by omega, ev3, ev4, by omega, by omega⟩⟩
        · have old := hw.2.2.2 i i0 (by omega)
          unfold tw_WE at old ⊢
          rw [tw_upN _ ei, tw_upN _ ei, tw_upN _ ei, tw_upN _ ei, tw_upN _ ei, tw_upN _ ei]
          exact old
      · unfold tw_PHI
        rw [show (W_depth + 1).toNat = W_depth.toNat + 1 by omega]
        show 4 * (M_mostSteps - (M_steps + 1)) + (tw_wsum (upZ R_waitKinds W_depth 0) W_depth.toNat + (if upZ R_waitKinds W_depth 0 (W_depth.toNat : Int) = 0 then 2 else 1)) + 1 ≤ 4 * (M_mostSteps - M_steps) + tw_wsum R_waitKinds W_depth.toNat
        rw [tw_wsum_up _ (by omega)]
        split <;> omega
  · refine ⟨-1, E_value, M_steps + 1, M_memory, 6, E_node, R_come, R_values, V_top, V_kinds, V_numbers, V_parts, V_links, W_depth, W_most, W_nodes, W_scopes, W_functions, R_valueKinds, R_valueNumbers, R_nodeOf, R_rowOf, R_given, R_waitKinds, R_waitNodes, R_waitOf, ?_, ?_, by omega, by omega, by omega, by omega, by omega, by omega, Or.inl (by omega)⟩
    · unfold f_Evaluator_evaluateNode
      refine tw_ob3_t p1 ?_
      (first | refine tw_ite_t (by first | omega | (simp only [tw_gq]; omega)) ?_ | refine tw_ite_f (by first | omega | (simp only [tw_gq]; omega)) ?_); (first | refine tw_ite_t (by first | omega | (simp only [tw_gq]; omega)) ?_ | refine tw_ite_f (by first | omega | (simp only [tw_gq]; omega)) ?_)
      refine tw_bind_t (tw_tKind (by omega) (by omega) (by omega)) ?_
      (repeat (first | refine tw_ite_t (by first | omega | (simp only [tw_gq]; omega)) ?_ | refine tw_ite_f (by first | omega | (simp only [tw_gq]; omega)) ?_))
      refine tw_bind_t (tw_tFunc (by omega) (by omega) (by omega)) ?_
      unfold f_Evaluator_await
      refine tw_ob7_t (a1 := -1) (a2 := 6) (a3 := W_depth) (a4 := W_most) (a5 := W_nodes) (a6 := W_scopes) (a7 := W_functions) ?_ rfl
      refine tw_ob6_t (a1 := 0) (a2 := W_depth) (a3 := W_most) (a4 := W_nodes) (a5 := W_scopes) (a6 := W_functions) ?_ ?_
      · unfold f_Waiting_push; (first | refine tw_ite_t (by first | omega | (simp only [tw_gq]; omega)) ?_ | refine tw_ite_f (by first | omega | (simp only [tw_gq]; omega)) ?_); (first | refine tw_ite_t (by first | omega | (simp only [tw_gq]; omega)) ?_ | refine tw_ite_f (by first | omega | (simp only [tw_gq]; omega)) ?_); rfl
      · (first | refine tw_ite_t (by first | omega | (simp only [tw_gq]; omega)) ?_ | refine tw_ite_f (by first | omega | (simp only [tw_gq]; omega)) ?_); (first | refine tw_ite_t (by first | omega | (simp only [tw_gq]; omega)) ?_ | refine tw_ite_f (by first | omega | (simp only [tw_gq]; omega)) ?_); rfl
    · unfold f_Mod_evaluate
      refine tw_ob3_t p2 ?_
      (first | refine tw_ite_t (by first | omega | (simp only [tw_gq]; omega)) ?_ | refine tw_ite_f (by first | omega | (simp only [tw_gq]; omega)) ?_); (first | refine tw_ite_t (by first | omega | (simp only [tw_gq]; omega)) ?_ | refine tw_ite_f (by first | omega | (simp only [tw_gq]; omega)) ?_)
      rw [a1]
      (repeat (first | refine tw_ite_t (by first | omega | (simp only [tw_gq]; omega)) ?_ | refine tw_ite_f (by first | omega | (simp only [tw_gq]; omega)) ?_))
      exact tw_ob2_t (tw_fail_ok rfl) rfl
set_option maxRecDepth 100000 in
theorem tw_ev_4 {N : Nat} {R_constants : Int → Int} {cs : Int → Prop} {ps : Int → Int} {nc : Int} {R_values : Int} {R_nodeOf : Int → Int} {R_rowOf : Int → Int} {D_top : Int} {D_nodes : Int → Int} {R_dataEnd : Int} {VB_top : Int} {VB_row : Int → Int} {R_textEnd : Int} {R_texts : Int → Int} {D_forms : Int → Int} {D_counts : Int → Int} {D_numbers : Int → Int} {R_forms : Int → Int} {R_tags : Int → Int} {R_counts : Int → Int} {R_textsAt : Int → Int} {V_top : Int} {V_kinds : Int → Int} {V_numbers : Int → Int} {V_parts : Int → Int} {V_links : Int → Int} {R_valueKinds : Int → Int} {R_valueNumbers : Int → Int} {R_from : Int → Int} {R_length : Int → Int} {R_given : Int → Int} {R_firstGiven : Int → Int} {R_secondGiven : Int → Int} {D_depths : Int → Int} {D_weights : Int → Int} {S_top : Int} {S_bound : Int → Int} {S_outer : Int → Int} {R_rowEnd : Int} {R_rows : Int → Int} {R_rowBegins : Int → Int} {R_rowSizes : Int → Int} {lo : Int} {hi : Int} {T_lacks : Int → Int} {T_kinds : Int → Int} {W_depth : Int} {W_most : Int} {W_nodes : Int → Int} {W_scopes : Int → Int} {W_functions : Int → Int} {R_waitKinds : Int → Int} {R_waitNodes : Int → Int} {R_waitOf : Int → Int} {E_node : Int} {E_scope : Int} {E_value : Int} {R_nowRow : Int} {R_come : Int} {M_steps : Int} {M_memory : Int} {M_mostSteps : Int} {M_mostMemory : Int} {T_nodes : Int} {T_count : Int} {T_args : Int → Int} {T_firsts : Int → Int} {TB_row : Int → Int} {R_used : Int} {R_many : Int} {R_kinds : Int → Int} {R_numbers : Int → Int} {R_firsts : Int → Int} {R_seconds : Int → Int} {R_sizes : Int → Int} {R_nodeTexts : Int → Int} {R_terms : Int → Int} (hN : 300 ≤ N) (ht : tw_TOK T_nodes T_count T_kinds T_args T_firsts T_lacks TB_row R_used R_many R_kinds R_numbers R_firsts R_seconds R_sizes R_nodeTexts R_terms lo hi cs ps R_constants) (h : tw_RUN cs ps nc R_values R_nodeOf R_rowOf D_top D_nodes R_dataEnd VB_top VB_row R_textEnd R_texts D_forms D_counts D_numbers R_forms R_tags R_counts R_textsAt V_top V_kinds V_numbers V_parts V_links R_valueKinds R_valueNumbers R_from R_length R_given R_firstGiven R_secondGiven D_depths D_weights S_top S_bound S_outer R_rowEnd R_rows R_rowBegins R_rowSizes lo hi T_lacks T_kinds W_depth W_most W_nodes W_scopes W_functions R_waitKinds R_waitNodes R_waitOf E_node E_scope E_value R_nowRow R_come M_steps M_memory M_mostSteps M_mostMemory) (hn : 0 ≤ E_node) (hp : 1 ≤ M_mostSteps - M_steps) (hk : T_kinds E_node = 4) : tw_EvS N R_constants cs ps nc R_values R_nodeOf R_rowOf D_top D_nodes R_dataEnd VB_top VB_row R_textEnd R_texts D_forms D_counts D_numbers R_forms R_tags R_counts R_textsAt V_top V_kinds V_numbers V_parts V_links R_valueKinds R_valueNumbers R_from R_length R_given R_firstGiven R_secondGiven D_depths D_weights S_top S_bound S_outer R_rowEnd R_rows R_rowBegins R_rowSizes lo hi T_lacks T_kinds W_depth W_most W_nodes W_scopes W_functions R_waitKinds R_waitNodes R_waitOf E_node E_scope E_value R_nowRow R_come M_steps M_memory M_mostSteps M_mostMemory T_nodes T_count T_args T_firsts TB_row R_used R_many R_kinds R_numbers R_firsts R_seconds R_sizes R_nodeTexts R_terms := by
  obtain ⟨hx, hT, hsc, hsm, hw, hnow, hs1, hs2, hs3, hm1, hm2, hm3⟩ := id h
  have tr := tw_TOPS_r hx hT
  obtain ⟨hI, hM, hlo, hhi, hcs⟩ := ht
  obtain ⟨t1, t2, t3, t4, t5, t6, t7, t8, t9, t10⟩ := id hI
  have hev : tw_EV lo hi T_lacks S_top R_rowSizes E_node E_scope ∧ R_nowRow = E_scope + 1 := by
    rcases hnow with ⟨a, b, c⟩ | ⟨a, -⟩
    · exact ⟨a, c⟩
    · omega
  obtain ⟨⟨ev1, ev2, ev3, ev4, ev5, ev6⟩, enr⟩ := hev
  have nd := t10 E_node (by omega) (by omega)
  obtain ⟨a1, a2, a3, a4, a5, a6, a7, a8, a9, -⟩ := id nd
  have rr := tw_rs_r hsc ev3 ev4
  have w0 := hw.1
  have w1 := hw.2.1
  have w2 := hw.2.2.1
  have sc1 := hsc.1
  have sc2 := hsc.2.1
  have sc4 := hsc.2.2.2.1
  obtain ⟨p1, p2⟩ := tw_payS (st := M_steps) (ms := M_mostSteps) (n := 1) hs1 hs2 hs3 (by omega) (by omega)
  rw [if_pos hp] at p1 p2
  have nf := tw_nod_first hI hM (n := E_node) (by omega) (by omega)
  obtain ⟨z1, z4, z6, z5, z7⟩ := nd.2.2.2.2.2.2.2.2.2.2.2.2.2.2.2.2.1 (by omega)
  rw [if_neg (by omega)] at z7
  have nf1 := nf.2 (by omega)
  clear nf
  by_cases cw : W_depth < 400
  · have em : ∃ wm, wm = max W_most (W_depth + 1) := ⟨_, rfl⟩
    obtain ⟨wm, em⟩ := em
    have fp : f_Waiting_push W_depth W_most W_nodes W_scopes W_functions E_node E_scope = some (1, W_depth + 1, wm, upZ W_nodes W_depth E_node, upZ W_scopes W_depth E_scope, upZ W_functions W_depth (-1)) := by
      unfold f_Waiting_push
      (repeat (first | refine tw_ite_t (by first | omega | (simp only [tw_gq]; omega)) ?_ | refine tw_ite_f (by first | omega | (simp only [tw_gq]; omega)) ?_))
      rw [em]
    have rp : f_Mod_wait W_depth W_most R_waitKinds R_waitNodes R_waitOf 2 (-1) R_nowRow = some (W_depth + 1, wm, upZ R_waitKinds W_depth 2, upZ R_waitNodes W_depth (-1), upZ R_waitOf W_depth R_nowRow) := by
      unfold f_Mod_wait
      by_cases cm : W_depth + 1 ≤ W_most
      · (repeat (first | refine tw_ite_t (by first | omega | (simp only [tw_gq]; omega)) ?_ | refine tw_ite_f (by first | omega | (simp only [tw_gq]; omega)) ?_))
        rw [show wm = W_most by omega]
      · (repeat (first | refine tw_ite_t (by first | omega | (simp only [tw_gq]; omega)) ?_ | refine tw_ite_f (by first | omega | (simp only [tw_gq]; omega)) ?_))
        rw [show wm = W_depth + 1 by omega]
    refine ⟨(E_node - 1), E_value, M_steps + 1, M_memory, 0, (E_node - 1), R_come, R_values, V_top, V_kinds, V_numbers, V_parts, V_links, W_depth + 1, wm, upZ W_nodes W_depth E_node, upZ W_scopes W_depth E_scope, upZ W_functions W_depth (-1), R_valueKinds, R_valueNumbers, R_nodeOf, R_rowOf, R_given, upZ R_waitKinds W_depth 2, upZ R_waitNodes W_depth (-1), upZ R_waitOf W_depth R_nowRow, ?_, ?_, by omega, by omega, by omega, by omega, by omega, by omega, Or.inr ?_⟩
    · unfold f_Evaluator_evaluateNode
      refine tw_ob3_t p1 ?_
      (first | refine tw_ite_t (by first | omega | (simp only [tw_gq]; omega)) ?_ | refine tw_ite_f (by first | omega | (simp only [tw_gq]; omega)) ?_); (first | refine tw_ite_t (by first | omega | (simp only [tw_gq]; omega)) ?_ | refine tw_ite_f (by first | omega | (simp only [tw_gq]; omega)) ?_)
      refine tw_bind_t (tw_tKind (by omega) (by omega) (by omega)) ?_
      (repeat (first | refine tw_ite_t (by first | omega | (simp only [tw_gq]; omega)) ?_ | refine tw_ite_f (by first | omega | (simp only [tw_gq]; omega)) ?_))
      refine tw_bind_t (r := E_node - 1) rfl ?_
      unfold f_Evaluator_await
      refine tw_ob7_t (a1 := (E_node - 1)) (a2 := 0) (a3 := W_depth + 1) (a4 := wm) (a5 := upZ W_nodes W_depth E_node) (a6 := upZ W_scopes W_depth E_scope) (a7 := upZ W_functions W_depth (-1)) ?_ rfl
      refine tw_ob6_t fp ?_
      (first | refine tw_ite_t (by first | omega | (simp only [tw_gq]; omega)) ?_ | refine tw_ite_f (by first | omega | (simp only [tw_gq]; omega)) ?_); (first | refine tw_ite_t (by first | omega | (simp only [tw_gq]; omega)) ?_ | refine tw_ite_f (by first | omega | (simp only [tw_gq]; omega)) ?_); rfl
    · unfold f_Mod_evaluate
      refine tw_ob3_t p2 ?_
      (first | refine tw_ite_t (by first | omega | (simp only [tw_gq]; omega)) ?_ | refine tw_ite_f (by first | omega | (simp only [tw_gq]; omega)) ?_); (first | refine tw_ite_t (by first | omega | (simp only [tw_gq]; omega)) ?_ | refine tw_ite_f (by first | omega | (simp only [tw_gq]; omega)) ?_)
      rw [a1, z5, z6]
      (repeat (first | refine tw_ite_t (by first | omega | (simp only [tw_gq]; omega)) ?_ | refine tw_ite_f (by first | omega | (simp only [tw_gq]; omega)) ?_))
      refine tw_ob5_t rp ?_
      (repeat (first | refine tw_ite_t (by first | omega | (simp only [tw_gq]; omega)) ?_ | refine tw_ite_f (by first | omega | (simp only [tw_gq]; omega)) ?_))
      rfl
    ·
      refine ⟨rfl, rfl, ⟨hx, hT, hsc, by omega, ⟨by omega, by omega, by omega, fun i i0 i1 => ?_⟩, Or.inl ⟨⟨by omega, by omega, ev3, ev4, by omega, by omega⟩, by omega, enr⟩, by omega, by omega, hs3, by omega, by omega, hm3⟩, ?_⟩
      · by_cases ei : i = W_depth
        · subst ei
          refine ⟨by rw [tw_upS]; omega, by rw [tw_upS]; omega, ?_⟩
          rw [tw_upS, tw_upS, tw_upS, tw_upS, tw_upS, tw_upS]
          exact Or.inr (Or.inr ⟨rfl, hk, rfl⟩)
        · have old := hw.2.2.2 i i0 (by omega)
          unfold tw_WE at old ⊢
          rw [tw_upN _ ei, tw_upN _ ei, tw_upN _ ei, tw_upN _ ei, tw_upN _ ei, tw_upN _ ei]
          exact old
      · unfold tw_PHI
        rw [show (W_depth + 1).toNat = W_depth.toNat + 1 by omega]
        show 4 * (M_mostSteps - (M_steps + 1)) + (tw_wsum (upZ R_waitKinds W_depth 2) W_depth.toNat + (if upZ R_waitKinds W_depth 2 (W_depth.toNat : Int) = 0 then 2 else 1)) + 1 ≤ 4 * (M_mostSteps - M_steps) + tw_wsum R_waitKinds W_depth.toNat
        rw [tw_wsum_up _ (by omega)]
        split <;> omega
  · refine ⟨-1, E_value, M_steps + 1, M_memory, 6, E_node, R_come, R_values, V_top, V_kinds, V_numbers, V_parts, V_links, W_depth, W_most, W_nodes, W_scopes, W_functions, R_valueKinds, R_valueNumbers, R_nodeOf, R_rowOf, R_given, R_waitKinds, R_waitNodes, R_waitOf, ?_, ?_, by omega, by omega, by omega, by omega, by omega, by omega, Or.inl (by omega)⟩
    · unfold f_Evaluator_evaluateNode
      refine tw_ob3_t p1 ?_
      (first | refine tw_ite_t (by first | omega | (simp only [tw_gq]; omega)) ?_ | refine tw_ite_f (by first | omega | (simp only [tw_gq]; omega)) ?_); (first | refine tw_ite_t (by first | omega | (simp only [tw_gq]; omega)) ?_ | refine tw_ite_f (by first | omega | (simp only [tw_gq]; omega)) ?_)
      refine tw_bind_t (tw_tKind (by omega) (by omega) (by omega)) ?_
      (repeat (first | refine tw_ite_t (by first | omega | (simp only [tw_gq]; omega)) ?_ | refine tw_ite_f (by first | omega | (simp only [tw_gq]; omega)) ?_))
      refine tw_bind_t (r := E_node - 1) rfl ?_
      unfold f_Evaluator_await
      refine tw_ob7_t (a1 := -1) (a2 := 6) (a3 := W_depth) (a4 := W_most) (a5 := W_nodes) (a6 := W_scopes) (a7 := W_functions) ?_ rfl
      refine tw_ob6_t (a1 := 0) (a2 := W_depth) (a3 := W_most) (a4 := W_nodes) (a5 := W_scopes) (a6 := W_functions) ?_ ?_
      · unfold f_Waiting_push; (first | refine tw_ite_t (by first | omega | (simp only [tw_gq]; omega)) ?_ | refine tw_ite_f (by first | omega | (simp only [tw_gq]; omega)) ?_); (first | refine tw_ite_t (by first | omega | (simp only [tw_gq]; omega)) ?_ | refine tw_ite_f (by first | omega | (simp only [tw_gq]; omega)) ?_); rfl
      · (first | refine tw_ite_t (by first | omega | (simp only [tw_gq]; omega)) ?_ | refine tw_ite_f (by first | omega | (simp only [tw_gq]; omega)) ?_); (first | refine tw_ite_t (by first | omega | (simp only [tw_gq]; omega)) ?_ | refine tw_ite_f (by first | omega | (simp only [tw_gq]; omega)) ?_); rfl
    · unfold f_Mod_evaluate
      refine tw_ob3_t p2 ?_
      (first | refine tw_ite_t (by first | omega | (simp only [tw_gq]; omega)) ?_ | refine tw_ite_f (by first | omega | (simp only [tw_gq]; omega)) ?_); (first | refine tw_ite_t (by first | omega | (simp only [tw_gq]; omega)) ?_ | refine tw_ite_f (by first | omega | (simp only [tw_gq]; omega)) ?_)
      rw [a1]
      (repeat (first | refine tw_ite_t (by first | omega | (simp only [tw_gq]; omega)) ?_ | refine tw_ite_f (by first | omega | (simp only [tw_gq]; omega)) ?_))
      exact tw_ob2_t (tw_fail_ok rfl) rfl
set_option maxRecDepth 100000 in
theorem tw_ev_1 {N : Nat} {R_constants : Int → Int} {cs : Int → Prop} {ps : Int → Int} {nc : Int} {R_values : Int} {R_nodeOf : Int → Int} {R_rowOf : Int → Int} {D_top : Int} {D_nodes : Int → Int} {R_dataEnd : Int} {VB_top : Int} {VB_row : Int → Int} {R_textEnd : Int} {R_texts : Int → Int} {D_forms : Int → Int} {D_counts : Int → Int} {D_numbers : Int → Int} {R_forms : Int → Int} {R_tags : Int → Int} {R_counts : Int → Int} {R_textsAt : Int → Int} {V_top : Int} {V_kinds : Int → Int} {V_numbers : Int → Int} {V_parts : Int → Int} {V_links : Int → Int} {R_valueKinds : Int → Int} {R_valueNumbers : Int → Int} {R_from : Int → Int} {R_length : Int → Int} {R_given : Int → Int} {R_firstGiven : Int → Int} {R_secondGiven : Int → Int} {D_depths : Int → Int} {D_weights : Int → Int} {S_top : Int} {S_bound : Int → Int} {S_outer : Int → Int} {R_rowEnd : Int} {R_rows : Int → Int} {R_rowBegins : Int → Int} {R_rowSizes : Int → Int} {lo : Int} {hi : Int} {T_lacks : Int → Int} {T_kinds : Int → Int} {W_depth : Int} {W_most : Int} {W_nodes : Int → Int} {W_scopes : Int → Int} {W_functions : Int → Int} {R_waitKinds : Int → Int} {R_waitNodes : Int → Int} {R_waitOf : Int → Int} {E_node : Int} {E_scope : Int} {E_value : Int} {R_nowRow : Int} {R_come : Int} {M_steps : Int} {M_memory : Int} {M_mostSteps : Int} {M_mostMemory : Int} {T_nodes : Int} {T_count : Int} {T_args : Int → Int} {T_firsts : Int → Int} {TB_row : Int → Int} {R_used : Int} {R_many : Int} {R_kinds : Int → Int} {R_numbers : Int → Int} {R_firsts : Int → Int} {R_seconds : Int → Int} {R_sizes : Int → Int} {R_nodeTexts : Int → Int} {R_terms : Int → Int} (hN : 300 ≤ N) (ht : tw_TOK T_nodes T_count T_kinds T_args T_firsts T_lacks TB_row R_used R_many R_kinds R_numbers R_firsts R_seconds R_sizes R_nodeTexts R_terms lo hi cs ps R_constants) (h : tw_RUN cs ps nc R_values R_nodeOf R_rowOf D_top D_nodes R_dataEnd VB_top VB_row R_textEnd R_texts D_forms D_counts D_numbers R_forms R_tags R_counts R_textsAt V_top V_kinds V_numbers V_parts V_links R_valueKinds R_valueNumbers R_from R_length R_given R_firstGiven R_secondGiven D_depths D_weights S_top S_bound S_outer R_rowEnd R_rows R_rowBegins R_rowSizes lo hi T_lacks T_kinds W_depth W_most W_nodes W_scopes W_functions R_waitKinds R_waitNodes R_waitOf E_node E_scope E_value R_nowRow R_come M_steps M_memory M_mostSteps M_mostMemory) (hn : 0 ≤ E_node) (hp : 1 ≤ M_mostSteps - M_steps) (hk : T_kinds E_node = 1) : tw_EvS N R_constants cs ps nc R_values R_nodeOf R_rowOf D_top D_nodes R_dataEnd VB_top VB_row R_textEnd R_texts D_forms D_counts D_numbers R_forms R_tags R_counts R_textsAt V_top V_kinds V_numbers V_parts V_links R_valueKinds R_valueNumbers R_from R_length R_given R_firstGiven R_secondGiven D_depths D_weights S_top S_bound S_outer R_rowEnd R_rows R_rowBegins R_rowSizes lo hi T_lacks T_kinds W_depth W_most W_nodes W_scopes W_functions R_waitKinds R_waitNodes R_waitOf E_node E_scope E_value R_nowRow R_come M_steps M_memory M_mostSteps M_mostMemory T_nodes T_count T_args T_firsts TB_row R_used R_many R_kinds R_numbers R_firsts R_seconds R_sizes R_nodeTexts R_terms := by
  obtain ⟨hx, hT, hsc, hsm, hw, hnow, hs1, hs2, hs3, hm1, hm2, hm3⟩ := id h
  have tr := tw_TOPS_r hx hT
  obtain ⟨hI, hM, hlo, hhi, hcs⟩ := ht
  obtain ⟨t1, t2, t3, t4, t5, t6, t7, t8, t9, t10⟩ := id hI
  have hev : tw_EV lo hi T_lacks S_top R_rowSizes E_node E_scope ∧ R_nowRow = E_scope + 1 := by
    rcases hnow with ⟨a, b, c⟩ | ⟨a, -⟩
    · exact ⟨a, c⟩
    · omega
  obtain ⟨⟨ev1, ev2, ev3, ev4, ev5, ev6⟩, enr⟩ := hev
  have nd := t10 E_node (by omega) (by omega)
  obtain ⟨a1, a2, a3, a4, a5, a6, a7, a8, a9, -⟩ := id nd
  have rr := tw_rs_r hsc ev3 ev4
  have w0 := hw.1
  have w1 := hw.2.1
  have w2 := hw.2.2.1
  have sc1 := hsc.1
  have sc2 := hsc.2.1
  have sc4 := hsc.2.2.2.1
  obtain ⟨p1, p2⟩ := tw_payS (st := M_steps) (ms := M_mostSteps) (n := 1) hs1 hs2 hs3 (by omega) (by omega)
  rw [if_pos hp] at p1 p2
  obtain ⟨q1, q2⟩ := tw_payM (st := M_memory) (ms := M_mostMemory) (n := 1) hm1 hm2 hm3 (by omega) (by omega)
  have nf := tw_nod_first hI hM (n := E_node) (by omega) (by omega)
  obtain ⟨z1, z4, z6, z5, z7⟩ := nd.2.2.2.2.2.2.2.2.2.2.2.2.2.2.2.2.1 (by omega)
  have nf1 := nf.2 (by omega)
  clear nf
  rw [if_pos hk] at z7
  by_cases cm : 1 ≤ M_mostMemory - M_memory
  · rw [if_pos cm] at q1 q2
    refine ⟨-1, V_top, M_steps + 1, M_memory + 1, 0, -1, R_values, R_values + 1, V_top + 1, upZ V_kinds V_top 5, upZ V_numbers V_top 0, upZ V_parts V_top (E_node - 1), upZ V_links V_top E_scope, W_depth, W_most, W_nodes, W_scopes, W_functions, upZ R_valueKinds R_values 5, upZ R_valueNumbers R_values 0, upZ R_nodeOf R_values (E_node - 1), upZ R_rowOf R_values R_nowRow, upZ R_given R_values 0, R_waitKinds, R_waitNodes, R_waitOf, ?_, ?_, by omega, by omega, by omega, by omega, by omega, by omega, Or.inr ?_⟩
    · unfold f_Evaluator_evaluateNode
      refine tw_ob3_t p1 ?_
      (first | refine tw_ite_t (by first | omega | (simp only [tw_gq]; omega)) ?_ | refine tw_ite_f (by first | omega | (simp only [tw_gq]; omega)) ?_); (first | refine tw_ite_t (by first | omega | (simp only [tw_gq]; omega)) ?_ | refine tw_ite_f (by first | omega | (simp only [tw_gq]; omega)) ?_)
      refine tw_bind_t (tw_tKind (by omega) (by omega) (by omega)) ?_
      (repeat (first | refine tw_ite_t (by first | omega | (simp only [tw_gq]; omega)) ?_ | refine tw_ite_f (by first | omega | (simp only [tw_gq]; omega)) ?_))
      refine tw_ob8_t (a1 := V_top) (a2 := V_top + 1) (a3 := upZ V_kinds V_top 5) (a4 := upZ V_numbers V_top 0) (a5 := upZ V_parts V_top (E_node - 1)) (a6 := upZ V_links V_top E_scope) (a7 := M_memory + 1) (a8 := 0) ?_ rfl
      unfold f_Evaluator_hold
      refine tw_ob3_t q1 ?_
      (first | refine tw_ite_t (by first | omega | (simp only [tw_gq]; omega)) ?_ | refine tw_ite_f (by first | omega | (simp only [tw_gq]; omega)) ?_); (first | refine tw_ite_t (by first | omega | (simp only [tw_gq]; omega)) ?_ | refine tw_ite_f (by first | omega | (simp only [tw_gq]; omega)) ?_)
      refine tw_bind_t (r := E_node - 1) rfl ?_
      exact tw_ob6_t (tw_ob6_t (tw_vmake (by omega) (by omega)) rfl) rfl
    · unfold f_Mod_evaluate
      refine tw_ob3_t p2 ?_
      (first | refine tw_ite_t (by first | omega | (simp only [tw_gq]; omega)) ?_ | refine tw_ite_f (by first | omega | (simp only [tw_gq]; omega)) ?_); (first | refine tw_ite_t (by first | omega | (simp only [tw_gq]; omega)) ?_ | refine tw_ite_f (by first | omega | (simp only [tw_gq]; omega)) ?_)
      rw [a1, z6]
      (repeat (first | refine tw_ite_t (by first | omega | (simp only [tw_gq]; omega)) ?_ | refine tw_ite_f (by first | omega | (simp only [tw_gq]; omega)) ?_))
      refine tw_ob3_t q2 ?_
      (repeat (first | refine tw_ite_t (by first | omega | (simp only [tw_gq]; omega)) ?_ | refine tw_ite_f (by first | omega | (simp only [tw_gq]; omega)) ?_))
      refine tw_ob5_t (tw_rmake (by omega) (by omega)) ?_
      (repeat (first | refine tw_ite_t (by first | omega | (simp only [tw_gq]; omega)) ?_ | refine tw_ite_f (by first | omega | (simp only [tw_gq]; omega)) ?_))
      rfl
    · have h10 := hx.2.2.2.2.2.2.2.2.2.1
      have h8 := hx.2.2.2.2.2.2.2.1
      have h11 := hx.2.2.2.2.2.2.2.2.2.2 V_top (by omega)
      have ep : ps V_top = R_values := by omega
      obtain ⟨y1, y2, y3, y4⟩ := tw_XV_new (k := 5) (n := 0) (a := (E_node - 1)) (b := E_scope) (n2 := 0) (R_from' := R_from) (R_length' := R_length) (R_nodeOf' := upZ R_nodeOf R_values (E_node - 1)) (R_rowOf' := upZ R_rowOf R_values R_nowRow) (R_given' := upZ R_given R_values 0) (R_firstGiven' := R_firstGiven) (R_secondGiven' := R_secondGiven) hx tw_GR_refl tw_GR_refl (tw_GR_up (by omega)) (tw_GR_up (by omega)) (tw_GR_up (by omega)) tw_GR_refl tw_GR_refl (by
          unfold tw_VR tw_OB
          simp only [ep, tw_upS]
          refine ⟨by omega, by omega, ⟨trivial, by omega, by omega, by omega, fun z => by omega, fun z => by omega, fun z => by omega, fun z => by omega, fun z => by omega⟩, fun _ => ⟨trivial, enr, ?_⟩, fun z => by omega⟩
          exact ⟨by omega, by omega, ev3, ev4, fun z => by omega, fun z => by omega⟩)
      obtain ⟨u1, u2, u3, u4, u5, u6, u7⟩ := hT
      exact ⟨rfl, rfl, ⟨y1, ⟨by omega, by omega, by omega, by omega, by omega, by omega, by omega⟩, tw_SC_mono hsc (by omega), by omega, tw_WT_mono hw (by omega) (Int.le_refl _) tw_GR_refl, Or.inr ⟨rfl, y3, y4.symm⟩, by omega, by omega, hs3, by omega, by omega, hm3⟩, by unfold tw_PHI; omega⟩
  · rw [if_neg cm] at q1 q2
    refine ⟨-1, -1, M_steps + 1, M_memory, 5, E_node, R_come, R_values, V_top, V_kinds, V_numbers, V_parts, V_links, W_depth, W_most, W_nodes, W_scopes, W_functions, R_valueKinds, R_valueNumbers, R_nodeOf, R_rowOf, R_given, R_waitKinds, R_waitNodes, R_waitOf, ?_, ?_, by omega, by omega, by omega, by omega, by omega, by omega, Or.inl (by omega)⟩
    · unfold f_Evaluator_evaluateNode
      refine tw_ob3_t p1 ?_
      (first | refine tw_ite_t (by first | omega | (simp only [tw_gq]; omega)) ?_ | refine tw_ite_f (by first | omega | (simp only [tw_gq]; omega)) ?_); (first | refine tw_ite_t (by first | omega | (simp only [tw_gq]; omega)) ?_ | refine tw_ite_f (by first | omega | (simp only [tw_gq]; omega)) ?_)
      refine tw_bind_t (tw_tKind (by omega) (by omega) (by omega)) ?_
      (repeat (first | refine tw_ite_t (by first | omega | (simp only [tw_gq]; omega)) ?_ | refine tw_ite_f (by first | omega | (simp only [tw_gq]; omega)) ?_))
      refine tw_ob8_t (a1 := -1) (a2 := V_top) (a3 := V_kinds) (a4 := V_numbers) (a5 := V_parts) (a6 := V_links) (a7 := M_memory) (a8 := 5) ?_ rfl
      unfold f_Evaluator_hold
      refine tw_ob3_t q1 ?_
      (first | refine tw_ite_t (by first | omega | (simp only [tw_gq]; omega)) ?_ | refine tw_ite_f (by first | omega | (simp only [tw_gq]; omega)) ?_); (first | refine tw_ite_t (by first | omega | (simp only [tw_gq]; omega)) ?_ | refine tw_ite_f (by first | omega | (simp only [tw_gq]; omega)) ?_); rfl
    · unfold f_Mod_evaluate
      refine tw_ob3_t p2 ?_
      (first | refine tw_ite_t (by first | omega | (simp only [tw_gq]; omega)) ?_ | refine tw_ite_f (by first | omega | (simp only [tw_gq]; omega)) ?_); (first | refine tw_ite_t (by first | omega | (simp only [tw_gq]; omega)) ?_ | refine tw_ite_f (by first | omega | (simp only [tw_gq]; omega)) ?_)
      rw [a1]
      (repeat (first | refine tw_ite_t (by first | omega | (simp only [tw_gq]; omega)) ?_ | refine tw_ite_f (by first | omega | (simp only [tw_gq]; omega)) ?_))
      refine tw_ob3_t q2 ?_
      (first | refine tw_ite_t (by first | omega | (simp only [tw_gq]; omega)) ?_ | refine tw_ite_f (by first | omega | (simp only [tw_gq]; omega)) ?_); (first | refine tw_ite_t (by first | omega | (simp only [tw_gq]; omega)) ?_ | refine tw_ite_f (by first | omega | (simp only [tw_gq]; omega)) ?_); rfl
set_option maxRecDepth 100000 in
theorem tw_ev_3 {N : Nat} {R_constants : Int → Int} {cs : Int → Prop} {ps : Int → Int} {nc : Int} {R_values : Int} {R_nodeOf : Int → Int} {R_rowOf : Int → Int} {D_top : Int} {D_nodes : Int → Int} {R_dataEnd : Int} {VB_top : Int} {VB_row : Int → Int} {R_textEnd : Int} {R_texts : Int → Int} {D_forms : Int → Int} {D_counts : Int → Int} {D_numbers : Int → Int} {R_forms : Int → Int} {R_tags : Int → Int} {R_counts : Int → Int} {R_textsAt : Int → Int} {V_top : Int} {V_kinds : Int → Int} {V_numbers : Int → Int} {V_parts : Int → Int} {V_links : Int → Int} {R_valueKinds : Int → Int} {R_valueNumbers : Int → Int} {R_from : Int → Int} {R_length : Int → Int} {R_given : Int → Int} {R_firstGiven : Int → Int} {R_secondGiven : Int → Int} {D_depths : Int → Int} {D_weights : Int → Int} {S_top : Int} {S_bound : Int → Int} {S_outer : Int → Int} {R_rowEnd : Int} {R_rows : Int → Int} {R_rowBegins : Int → Int} {R_rowSizes : Int → Int} {lo : Int} {hi : Int} {T_lacks : Int → Int} {T_kinds : Int → Int} {W_depth : Int} {W_most : Int} {W_nodes : Int → Int} {W_scopes : Int → Int} {W_functions : Int → Int} {R_waitKinds : Int → Int} {R_waitNodes : Int → Int} {R_waitOf : Int → Int} {E_node : Int} {E_scope : Int} {E_value : Int} {R_nowRow : Int} {R_come : Int} {M_steps : Int} {M_memory : Int} {M_mostSteps : Int} {M_mostMemory : Int} {T_nodes : Int} {T_count : Int} {T_args : Int → Int} {T_firsts : Int → Int} {TB_row : Int → Int} {R_used : Int} {R_many : Int} {R_kinds : Int → Int} {R_numbers : Int → Int} {R_firsts : Int → Int} {R_seconds : Int → Int} {R_sizes : Int → Int} {R_nodeTexts : Int → Int} {R_terms : Int → Int} (hN : 300 ≤ N) (ht : tw_TOK T_nodes T_count T_kinds T_args T_firsts T_lacks TB_row R_used R_many R_kinds R_numbers R_firsts R_seconds R_sizes R_nodeTexts R_terms lo hi cs ps R_constants) (h : tw_RUN cs ps nc R_values R_nodeOf R_rowOf D_top D_nodes R_dataEnd VB_top VB_row R_textEnd R_texts D_forms D_counts D_numbers R_forms R_tags R_counts R_textsAt V_top V_kinds V_numbers V_parts V_links R_valueKinds R_valueNumbers R_from R_length R_given R_firstGiven R_secondGiven D_depths D_weights S_top S_bound S_outer R_rowEnd R_rows R_rowBegins R_rowSizes lo hi T_lacks T_kinds W_depth W_most W_nodes W_scopes W_functions R_waitKinds R_waitNodes R_waitOf E_node E_scope E_value R_nowRow R_come M_steps M_memory M_mostSteps M_mostMemory) (hn : 0 ≤ E_node) (hp : 1 ≤ M_mostSteps - M_steps) (hk : T_kinds E_node = 3) : tw_EvS N R_constants cs ps nc R_values R_nodeOf R_rowOf D_top D_nodes R_dataEnd VB_top VB_row R_textEnd R_texts D_forms D_counts D_numbers R_forms R_tags R_counts R_textsAt V_top V_kinds V_numbers V_parts V_links R_valueKinds R_valueNumbers R_from R_length R_given R_firstGiven R_secondGiven D_depths D_weights S_top S_bound S_outer R_rowEnd R_rows R_rowBegins R_rowSizes lo hi T_lacks T_kinds W_depth W_most W_nodes W_scopes W_functions R_waitKinds R_waitNodes R_waitOf E_node E_scope E_value R_nowRow R_come M_steps M_memory M_mostSteps M_mostMemory T_nodes T_count T_args T_firsts TB_row R_used R_many R_kinds R_numbers R_firsts R_seconds R_sizes R_nodeTexts R_terms := by
  obtain ⟨hx, hT, hsc, hsm, hw, hnow, hs1, hs2, hs3, hm1, hm2, hm3⟩ := id h
  have tr := tw_TOPS_r hx hT
  obtain ⟨hI, hM, hlo, hhi, hcs⟩ := ht
  obtain ⟨t1, t2, t3, t4, t5, t6, t7, t8, t9, t10⟩ := id hI
  have hev : tw_EV lo hi T_lacks S_top R_rowSizes E_node E_scope ∧ R_nowRow = E_scope + 1 := by
    rcases hnow with ⟨a, b, c⟩ | ⟨a, -⟩
    · exact ⟨a, c⟩
    · omega
  obtain ⟨⟨ev1, ev2, ev3, ev4, ev5, ev6⟩, enr⟩ := hev
  have nd := t10 E_node (by omega) (by omega)
  obtain ⟨a1, a2, a3, a4, a5, a6, a7, a8, a9, -⟩ := id nd
  have rr := tw_rs_r hsc ev3 ev4
  have w0 := hw.1
  have w1 := hw.2.1
  have w2 := hw.2.2.1
  have sc1 := hsc.1
  have sc2 := hsc.2.1
  have sc4 := hsc.2.2.2.1
  obtain ⟨p1, p2⟩ := tw_payS (st := M_steps) (ms := M_mostSteps) (n := 1) hs1 hs2 hs3 (by omega) (by omega)
  rw [if_pos hp] at p1 p2
  obtain ⟨q1, q2⟩ := tw_payM (st := M_memory) (ms := M_mostMemory) (n := 1) hm1 hm2 hm3 (by omega) (by omega)
  have nf := tw_nod_first hI hM (n := E_node) (by omega) (by omega)
  obtain ⟨z1, z4, z6, z5, z7⟩ := nd.2.2.2.2.2.2.2.2.2.2.2.2.2.2.2.2.1 (by omega)
  have nf1 := nf.2 (by omega)
  clear nf
  rw [if_neg (by omega)] at z7
  by_cases cm : 1 ≤ M_mostMemory - M_memory
  · rw [if_pos cm] at q1 q2
    refine ⟨-1, V_top, M_steps + 1, M_memory + 1, 0, -1, R_values, R_values + 1, V_top + 1, upZ V_kinds V_top 6, upZ V_numbers V_top 0, upZ V_parts V_top (E_node - 1), upZ V_links V_top E_scope, W_depth, W_most, W_nodes, W_scopes, W_functions, upZ R_valueKinds R_values 6, upZ R_valueNumbers R_values 0, upZ R_nodeOf R_values (E_node - 1), upZ R_rowOf R_values R_nowRow, upZ R_given R_values 0, R_waitKinds, R_waitNodes, R_waitOf, ?_, ?_, by omega, by omega, by omega, by omega, by omega, by omega, Or.inr ?_⟩
    · unfold f_Evaluator_evaluateNode
      refine tw_ob3_t p1 ?_
      (first | refine tw_ite_t (by first | omega | (simp only [tw_gq]; omega)) ?_ | refine tw_ite_f (by first | omega | (simp only [tw_gq]; omega)) ?_); (first | refine tw_ite_t (by first | omega | (simp only [tw_gq]; omega)) ?_ | refine tw_ite_f (by first | omega | (simp only [tw_gq]; omega)) ?_)
      refine tw_bind_t (tw_tKind (by omega) (by omega) (by omega)) ?_
      (repeat (first | refine tw_ite_t (by first | omega | (simp only [tw_gq]; omega)) ?_ | refine tw_ite_f (by first | omega | (simp only [tw_gq]; omega)) ?_))
      refine tw_ob8_t (a1 := V_top) (a2 := V_top + 1) (a3 := upZ V_kinds V_top 6) (a4 := upZ V_numbers V_top 0) (a5 := upZ V_parts V_top (E_node - 1)) (a6 := upZ V_links V_top E_scope) (a7 := M_memory + 1) (a8 := 0) ?_ rfl
      unfold f_Evaluator_hold
      refine tw_ob3_t q1 ?_
      (first | refine tw_ite_t (by first | omega | (simp only [tw_gq]; omega)) ?_ | refine tw_ite_f (by first | omega | (simp only [tw_gq]; omega)) ?_); (first | refine tw_ite_t (by first | omega | (simp only [tw_gq]; omega)) ?_ | refine tw_ite_f (by first | omega | (simp only [tw_gq]; omega)) ?_)
      refine tw_bind_t (r := E_node - 1) rfl ?_
      exact tw_ob6_t (tw_ob6_t (tw_vmake (by omega) (by omega)) rfl) rfl
    · unfold f_Mod_evaluate
      refine tw_ob3_t p2 ?_
      (first | refine tw_ite_t (by first | omega | (simp only [tw_gq]; omega)) ?_ | refine tw_ite_f (by first | omega | (simp only [tw_gq]; omega)) ?_); (first | refine tw_ite_t (by first | omega | (simp only [tw_gq]; omega)) ?_ | refine tw_ite_f (by first | omega | (simp only [tw_gq]; omega)) ?_)
      rw [a1, z6]
      (repeat (first | refine tw_ite_t (by first | omega | (simp only [tw_gq]; omega)) ?_ | refine tw_ite_f (by first | omega | (simp only [tw_gq]; omega)) ?_))
      refine tw_ob3_t q2 ?_
      (repeat (first | refine tw_ite_t (by first | omega | (simp only [tw_gq]; omega)) ?_ | refine tw_ite_f (by first | omega | (simp only [tw_gq]; omega)) ?_))
      refine tw_ob5_t (tw_rmake (by omega) (by omega)) ?_
      (repeat (first | refine tw_ite_t (by first | omega | (simp only [tw_gq]; omega)) ?_ | refine tw_ite_f (by first | omega | (simp only [tw_gq]; omega)) ?_))
      rfl
    · have h10 := hx.2.2.2.2.2.2.2.2.2.1
      have h8 := hx.2.2.2.2.2.2.2.1
      have h11 := hx.2.2.2.2.2.2.2.2.2.2 V_top (by omega)
      have ep : ps V_top = R_values := by omega
      obtain ⟨y1, y2, y3, y4⟩ := tw_XV_new (k := 6) (n := 0) (a := (E_node - 1)) (b := E_scope) (n2 := 0) (R_from' := R_from) (R_length' := R_length) (R_nodeOf' := upZ R_nodeOf R_values (E_node - 1)) (R_rowOf' := upZ R_rowOf R_values R_nowRow) (R_given' := upZ R_given R_values 0) (R_firstGiven' := R_firstGiven) (R_secondGiven' := R_secondGiven) hx tw_GR_refl tw_GR_refl (tw_GR_up (by omega)) (tw_GR_up (by omega)) (tw_GR_up (by omega)) tw_GR_refl tw_GR_refl (by
          unfold tw_VR tw_OB
          simp only [ep, tw_upS]
          refine ⟨by omega, by omega, ⟨trivial, by omega, by omega, by omega, fun z => by omega, fun z => by omega, fun z => by omega, fun z => by omega, fun z => by omega⟩, fun _ => ⟨trivial, enr, ?_⟩, fun z => by omega⟩
          exact ⟨by omega, by omega, ev3, ev4, fun z => by omega, fun z => by omega⟩)
      obtain ⟨u1, u2, u3, u4, u5, u6, u7⟩ := hT
      exact ⟨rfl, rfl, ⟨y1, ⟨by omega, by omega, by omega, by omega, by omega, by omega, by omega⟩, tw_SC_mono hsc (by omega), by omega, tw_WT_mono hw (by omega) (Int.le_refl _) tw_GR_refl, Or.inr ⟨rfl, y3, y4.symm⟩, by omega, by omega, hs3, by omega, by omega, hm3⟩, by unfold tw_PHI; omega⟩
  · rw [if_neg cm] at q1 q2
    refine ⟨-1, -1, M_steps + 1, M_memory, 5, E_node, R_come, R_values, V_top, V_kinds, V_numbers, V_parts, V_links, W_depth, W_most, W_nodes, W_scopes, W_functions, R_valueKinds, R_valueNumbers, R_nodeOf, R_rowOf, R_given, R_waitKinds, R_waitNodes, R_waitOf, ?_, ?_, by omega, by omega, by omega, by omega, by omega, by omega, Or.inl (by omega)⟩
    · unfold f_Evaluator_evaluateNode
      refine tw_ob3_t p1 ?_
      (first | refine tw_ite_t (by first | omega | (simp only [tw_gq]; omega)) ?_ | refine tw_ite_f (by first | omega | (simp only [tw_gq]; omega)) ?_); (first | refine tw_ite_t (by first | omega | (simp only [tw_gq]; omega)) ?_ | refine tw_ite_f (by first | omega | (simp only [tw_gq]; omega)) ?_)
      refine tw_bind_t (tw_tKind (by omega) (by omega) (by omega)) ?_
      (repeat (first | refine tw_ite_t (by first | omega | (simp only [tw_gq]; omega)) ?_ | refine tw_ite_f (by first | omega | (simp only [tw_gq]; omega)) ?_))
      refine tw_ob8_t (a1 := -1) (a2 := V_top) (a3 := V_kinds) (a4 := V_numbers) (a5 := V_parts) (a6 := V_links) (a7 := M_memory) (a8 := 5) ?_ rfl
      unfold f_Evaluator_hold
      refine tw_ob3_t q1 ?_
      (first | refine tw_ite_t (by first | omega | (simp only [tw_gq]; omega)) ?_ | refine tw_ite_f (by first | omega | (simp only [tw_gq]; omega)) ?_); (first | refine tw_ite_t (by first | omega | (simp only [tw_gq]; omega)) ?_ | refine tw_ite_f (by first | omega | (simp only [tw_gq]; omega)) ?_); rfl
    · unfold f_Mod_evaluate
      refine tw_ob3_t p2 ?_
      (first | refine tw_ite_t (by first | omega | (simp only [tw_gq]; omega)) ?_ | refine tw_ite_f (by first | omega | (simp only [tw_gq]; omega)) ?_); (first | refine tw_ite_t (by first | omega | (simp only [tw_gq]; omega)) ?_ | refine tw_ite_f (by first | omega | (simp only [tw_gq]; omega)) ?_)
      rw [a1]
      (repeat (first | refine tw_ite_t (by first | omega | (simp only [tw_gq]; omega)) ?_ | refine tw_ite_f (by first | omega | (simp only [tw_gq]; omega)) ?_))
      refine tw_ob3_t q2 ?_
      (first | refine tw_ite_t (by first | omega | (simp only [tw_gq]; omega)) ?_ | refine tw_ite_f (by first | omega | (simp only [tw_gq]; omega)) ?_); (first | refine tw_ite_t (by first | omega | (simp only [tw_gq]; omega)) ?_ | refine tw_ite_f (by first | omega | (simp only [tw_gq]; omega)) ?_); rfl
set_option maxRecDepth 100000 in
theorem tw_ev_6 {N : Nat} {R_constants : Int → Int} {cs : Int → Prop} {ps : Int → Int} {nc : Int} {R_values : Int} {R_nodeOf : Int → Int} {R_rowOf : Int → Int} {D_top : Int} {D_nodes : Int → Int} {R_dataEnd : Int} {VB_top : Int} {VB_row : Int → Int} {R_textEnd : Int} {R_texts : Int → Int} {D_forms : Int → Int} {D_counts : Int → Int} {D_numbers : Int → Int} {R_forms : Int → Int} {R_tags : Int → Int} {R_counts : Int → Int} {R_textsAt : Int → Int} {V_top : Int} {V_kinds : Int → Int} {V_numbers : Int → Int} {V_parts : Int → Int} {V_links : Int → Int} {R_valueKinds : Int → Int} {R_valueNumbers : Int → Int} {R_from : Int → Int} {R_length : Int → Int} {R_given : Int → Int} {R_firstGiven : Int → Int} {R_secondGiven : Int → Int} {D_depths : Int → Int} {D_weights : Int → Int} {S_top : Int} {S_bound : Int → Int} {S_outer : Int → Int} {R_rowEnd : Int} {R_rows : Int → Int} {R_rowBegins : Int → Int} {R_rowSizes : Int → Int} {lo : Int} {hi : Int} {T_lacks : Int → Int} {T_kinds : Int → Int} {W_depth : Int} {W_most : Int} {W_nodes : Int → Int} {W_scopes : Int → Int} {W_functions : Int → Int} {R_waitKinds : Int → Int} {R_waitNodes : Int → Int} {R_waitOf : Int → Int} {E_node : Int} {E_scope : Int} {E_value : Int} {R_nowRow : Int} {R_come : Int} {M_steps : Int} {M_memory : Int} {M_mostSteps : Int} {M_mostMemory : Int} {T_nodes : Int} {T_count : Int} {T_args : Int → Int} {T_firsts : Int → Int} {TB_row : Int → Int} {R_used : Int} {R_many : Int} {R_kinds : Int → Int} {R_numbers : Int → Int} {R_firsts : Int → Int} {R_seconds : Int → Int} {R_sizes : Int → Int} {R_nodeTexts : Int → Int} {R_terms : Int → Int} (hN : 300 ≤ N) (ht : tw_TOK T_nodes T_count T_kinds T_args T_firsts T_lacks TB_row R_used R_many R_kinds R_numbers R_firsts R_seconds R_sizes R_nodeTexts R_terms lo hi cs ps R_constants) (h : tw_RUN cs ps nc R_values R_nodeOf R_rowOf D_top D_nodes R_dataEnd VB_top VB_row R_textEnd R_texts D_forms D_counts D_numbers R_forms R_tags R_counts R_textsAt V_top V_kinds V_numbers V_parts V_links R_valueKinds R_valueNumbers R_from R_length R_given R_firstGiven R_secondGiven D_depths D_weights S_top S_bound S_outer R_rowEnd R_rows R_rowBegins R_rowSizes lo hi T_lacks T_kinds W_depth W_most W_nodes W_scopes W_functions R_waitKinds R_waitNodes R_waitOf E_node E_scope E_value R_nowRow R_come M_steps M_memory M_mostSteps M_mostMemory) (hn : 0 ≤ E_node) (hp : 1 ≤ M_mostSteps - M_steps) (hk : T_kinds E_node = 6) : tw_EvS N R_constants cs ps nc R_values R_nodeOf R_rowOf D_top D_nodes R_dataEnd VB_top VB_row R_textEnd R_texts D_forms D_counts D_numbers R_forms R_tags R_counts R_textsAt V_top V_kinds V_numbers V_parts V_links R_valueKinds R_valueNumbers R_from R_length R_given R_firstGiven R_secondGiven D_depths D_weights S_top S_bound S_outer R_rowEnd R_rows R_rowBegins R_rowSizes lo hi T_lacks T_kinds W_depth W_most W_nodes W_scopes W_functions R_waitKinds R_waitNodes R_waitOf E_node E_scope E_value R_nowRow R_come M_steps M_memory M_mostSteps M_mostMemory T_nodes T_count T_args T_firsts TB_row R_used R_many R_kinds R_numbers R_firsts R_seconds R_sizes R_nodeTexts R_terms := by
  obtain ⟨hx, hT, hsc, hsm, hw, hnow, hs1, hs2, hs3, hm1, hm2, hm3⟩ := id h
  have tr := tw_TOPS_r hx hT
  obtain ⟨hI, hM, hlo, hhi, hcs⟩ := ht
  obtain ⟨t1, t2, t3, t4, t5, t6, t7, t8, t9, t10⟩ := id hI
  have hev : tw_EV lo hi T_lacks S_top R_rowSizes E_node E_scope ∧ R_nowRow = E_scope + 1 := by
    rcases hnow with ⟨a, b, c⟩ | ⟨a, -⟩
    · exact ⟨a, c⟩
    · omega
  obtain ⟨⟨ev1, ev2, ev3, ev4, ev5, ev6⟩, enr⟩ := hev
  have nd := t10 E_node (by omega) (by omega)
  obtain ⟨a1, a2, a3, a4, a5, a6, a7, a8, a9, -⟩ := id nd
  have rr := tw_rs_r hsc ev3 ev4
  have w0 := hw.1
  have w1 := hw.2.1
  have w2 := hw.2.2.1
  have sc1 := hsc.1
  have sc2 := hsc.2.1
  have sc4 := hsc.2.2.2.1
  obtain ⟨p1, p2⟩ := tw_payS (st := M_steps) (ms := M_mostSteps) (n := 1) hs1 hs2 hs3 (by omega) (by omega)
  rw [if_pos hp] at p1 p2
  obtain ⟨q1, q2⟩ := tw_payM (st := M_memory) (ms := M_mostMemory) (n := 1) hm1 hm2 hm3 (by omega) (by omega)
  have ar6 := nd.2.2.2.2.2.2.2.2.2.2.1 hk
  have z6 := (nd.2.2.2.2.2.2.2.2.2.2.2.2.2.2.2.2.2 (by omega)).2.1
  have at6 := (tw_tk_ok ar6).2.2.2.2.1
  by_cases cm : 1 ≤ M_mostMemory - M_memory
  · rw [if_pos cm] at q1 q2
    refine ⟨-1, V_top, M_steps + 1, M_memory + 1, 0, -1, R_values, R_values + 1, V_top + 1, upZ V_kinds V_top 7, upZ V_numbers V_top (T_args E_node), upZ V_parts V_top (-1), upZ V_links V_top (-1), W_depth, W_most, W_nodes, W_scopes, W_functions, upZ R_valueKinds R_values 7, upZ R_valueNumbers R_values (T_args E_node), upZ R_nodeOf R_values (-1), upZ R_rowOf R_values R_nowRow, upZ R_given R_values 0, R_waitKinds, R_waitNodes, R_waitOf, ?_, ?_, by omega, by omega, by omega, by omega, by omega, by omega, Or.inr ?_⟩
    · unfold f_Evaluator_evaluateNode
      refine tw_ob3_t p1 ?_
      (first | refine tw_ite_t (by first | omega | (simp only [tw_gq]; omega)) ?_ | refine tw_ite_f (by first | omega | (simp only [tw_gq]; omega)) ?_); (first | refine tw_ite_t (by first | omega | (simp only [tw_gq]; omega)) ?_ | refine tw_ite_f (by first | omega | (simp only [tw_gq]; omega)) ?_)
      refine tw_bind_t (tw_tKind (by omega) (by omega) (by omega)) ?_
      (repeat (first | refine tw_ite_t (by first | omega | (simp only [tw_gq]; omega)) ?_ | refine tw_ite_f (by first | omega | (simp only [tw_gq]; omega)) ?_))
      refine tw_ob3_t q1 ?_
      (first | refine tw_ite_t (by first | omega | (simp only [tw_gq]; omega)) ?_ | refine tw_ite_f (by first | omega | (simp only [tw_gq]; omega)) ?_); (first | refine tw_ite_t (by first | omega | (simp only [tw_gq]; omega)) ?_ | refine tw_ite_f (by first | omega | (simp only [tw_gq]; omega)) ?_)
      refine tw_bind_t (tw_tArg (by omega) (by omega) (by omega)) ?_
      exact tw_ob6_t (tw_ob6_t (tw_vmake (by omega) (by omega)) rfl) rfl
    · unfold f_Mod_evaluate
      refine tw_ob3_t p2 ?_
      (first | refine tw_ite_t (by first | omega | (simp only [tw_gq]; omega)) ?_ | refine tw_ite_f (by first | omega | (simp only [tw_gq]; omega)) ?_); (first | refine tw_ite_t (by first | omega | (simp only [tw_gq]; omega)) ?_ | refine tw_ite_f (by first | omega | (simp only [tw_gq]; omega)) ?_)
      rw [a1, a2, z6]
      (repeat (first | refine tw_ite_t (by first | omega | (simp only [tw_gq]; omega)) ?_ | refine tw_ite_f (by first | omega | (simp only [tw_gq]; omega)) ?_))
      refine tw_ob3_t q2 ?_
      (repeat (first | refine tw_ite_t (by first | omega | (simp only [tw_gq]; omega)) ?_ | refine tw_ite_f (by first | omega | (simp only [tw_gq]; omega)) ?_))
      refine tw_ob5_t (tw_rmake (by omega) (by omega)) ?_
      (repeat (first | refine tw_ite_t (by first | omega | (simp only [tw_gq]; omega)) ?_ | refine tw_ite_f (by first | omega | (simp only [tw_gq]; omega)) ?_))
      rfl
    · have h10 := hx.2.2.2.2.2.2.2.2.2.1
      have h8 := hx.2.2.2.2.2.2.2.1
      have h11 := hx.2.2.2.2.2.2.2.2.2.2 V_top (by omega)
      have ep : ps V_top = R_values := by omega
      obtain ⟨y1, y2, y3, y4⟩ := tw_XV_new (k := 7) (n := (T_args E_node)) (a := (-1)) (b := (-1)) (n2 := (T_args E_node)) (R_from' := R_from) (R_length' := R_length) (R_nodeOf' := upZ R_nodeOf R_values (-1)) (R_rowOf' := upZ R_rowOf R_values R_nowRow) (R_given' := upZ R_given R_values 0) (R_firstGiven' := R_firstGiven) (R_secondGiven' := R_secondGiven) hx tw_GR_refl tw_GR_refl (tw_GR_up (by omega)) (tw_GR_up (by omega)) (tw_GR_up (by omega)) tw_GR_refl tw_GR_refl (by
          unfold tw_VR tw_OB
          simp only [ep, tw_upS]
          refine ⟨by omega, by omega, ⟨trivial, by omega, by omega, by omega, fun _ => trivial, fun z => by omega, fun _ => ar6, fun z => by omega, fun z => by omega⟩, fun z => by omega, fun _ => ⟨Or.inl ⟨tw_upS _ _ _, tw_upS _ _ _⟩, by omega, by omega⟩⟩)
      obtain ⟨u1, u2, u3, u4, u5, u6, u7⟩ := hT
      exact ⟨rfl, rfl, ⟨y1, ⟨by omega, by omega, by omega, by omega, by omega, by omega, by omega⟩, tw_SC_mono hsc (by omega), by omega, tw_WT_mono hw (by omega) (Int.le_refl _) tw_GR_refl, Or.inr ⟨rfl, y3, y4.symm⟩, by omega, by omega, hs3, by omega, by omega, hm3⟩, by unfold tw_PHI; omega⟩
  · rw [if_neg cm] at q1 q2
    refine ⟨-1, -1, M_steps + 1, M_memory, 5, E_node, R_come, R_values, V_top, V_kinds, V_numbers, V_parts, V_links, W_depth, W_most, W_nodes, W_scopes, W_functions, R_valueKinds, R_valueNumbers, R_nodeOf, R_rowOf, R_given, R_waitKinds, R_waitNodes, R_waitOf, ?_, ?_, by omega, by omega, by omega, by omega, by omega, by omega, Or.inl (by omega)⟩
    · unfold f_Evaluator_evaluateNode
      refine tw_ob3_t p1 ?_
      (first | refine tw_ite_t (by first | omega | (simp only [tw_gq]; omega)) ?_ | refine tw_ite_f (by first | omega | (simp only [tw_gq]; omega)) ?_); (first | refine tw_ite_t (by first | omega | (simp only [tw_gq]; omega)) ?_ | refine tw_ite_f (by first | omega | (simp only [tw_gq]; omega)) ?_)
      refine tw_bind_t (tw_tKind (by omega) (by omega) (by omega)) ?_
      (repeat (first | refine tw_ite_t (by first | omega | (simp only [tw_gq]; omega)) ?_ | refine tw_ite_f (by first | omega | (simp only [tw_gq]; omega)) ?_))
      refine tw_ob3_t q1 ?_
      (first | refine tw_ite_t (by first | omega | (simp only [tw_gq]; omega)) ?_ | refine tw_ite_f (by first | omega | (simp only [tw_gq]; omega)) ?_); (first | refine tw_ite_t (by first | omega | (simp only [tw_gq]; omega)) ?_ | refine tw_ite_f (by first | omega | (simp only [tw_gq]; omega)) ?_); rfl
    · unfold f_Mod_evaluate
      refine tw_ob3_t p2 ?_
      (first | refine tw_ite_t (by first | omega | (simp only [tw_gq]; omega)) ?_ | refine tw_ite_f (by first | omega | (simp only [tw_gq]; omega)) ?_); (first | refine tw_ite_t (by first | omega | (simp only [tw_gq]; omega)) ?_ | refine tw_ite_f (by first | omega | (simp only [tw_gq]; omega)) ?_)
      rw [a1]
      (repeat (first | refine tw_ite_t (by first | omega | (simp only [tw_gq]; omega)) ?_ | refine tw_ite_f (by first | omega | (simp only [tw_gq]; omega)) ?_))
      refine tw_ob3_t q2 ?_
      (first | refine tw_ite_t (by first | omega | (simp only [tw_gq]; omega)) ?_ | refine tw_ite_f (by first | omega | (simp only [tw_gq]; omega)) ?_); (first | refine tw_ite_t (by first | omega | (simp only [tw_gq]; omega)) ?_ | refine tw_ite_f (by first | omega | (simp only [tw_gq]; omega)) ?_); rfl
set_option maxRecDepth 100000 in
theorem tw_ev_step {N : Nat} {R_constants : Int → Int} {cs : Int → Prop} {ps : Int → Int} {nc : Int} {R_values : Int} {R_nodeOf : Int → Int} {R_rowOf : Int → Int} {D_top : Int} {D_nodes : Int → Int} {R_dataEnd : Int} {VB_top : Int} {VB_row : Int → Int} {R_textEnd : Int} {R_texts : Int → Int} {D_forms : Int → Int} {D_counts : Int → Int} {D_numbers : Int → Int} {R_forms : Int → Int} {R_tags : Int → Int} {R_counts : Int → Int} {R_textsAt : Int → Int} {V_top : Int} {V_kinds : Int → Int} {V_numbers : Int → Int} {V_parts : Int → Int} {V_links : Int → Int} {R_valueKinds : Int → Int} {R_valueNumbers : Int → Int} {R_from : Int → Int} {R_length : Int → Int} {R_given : Int → Int} {R_firstGiven : Int → Int} {R_secondGiven : Int → Int} {D_depths : Int → Int} {D_weights : Int → Int} {S_top : Int} {S_bound : Int → Int} {S_outer : Int → Int} {R_rowEnd : Int} {R_rows : Int → Int} {R_rowBegins : Int → Int} {R_rowSizes : Int → Int} {lo : Int} {hi : Int} {T_lacks : Int → Int} {T_kinds : Int → Int} {W_depth : Int} {W_most : Int} {W_nodes : Int → Int} {W_scopes : Int → Int} {W_functions : Int → Int} {R_waitKinds : Int → Int} {R_waitNodes : Int → Int} {R_waitOf : Int → Int} {E_node : Int} {E_scope : Int} {E_value : Int} {R_nowRow : Int} {R_come : Int} {M_steps : Int} {M_memory : Int} {M_mostSteps : Int} {M_mostMemory : Int} {T_nodes : Int} {T_count : Int} {T_args : Int → Int} {T_firsts : Int → Int} {TB_row : Int → Int} {R_used : Int} {R_many : Int} {R_kinds : Int → Int} {R_numbers : Int → Int} {R_firsts : Int → Int} {R_seconds : Int → Int} {R_sizes : Int → Int} {R_nodeTexts : Int → Int} {R_terms : Int → Int} (hN : 300 ≤ N) (ht : tw_TOK T_nodes T_count T_kinds T_args T_firsts T_lacks TB_row R_used R_many R_kinds R_numbers R_firsts R_seconds R_sizes R_nodeTexts R_terms lo hi cs ps R_constants) (h : tw_RUN cs ps nc R_values R_nodeOf R_rowOf D_top D_nodes R_dataEnd VB_top VB_row R_textEnd R_texts D_forms D_counts D_numbers R_forms R_tags R_counts R_textsAt V_top V_kinds V_numbers V_parts V_links R_valueKinds R_valueNumbers R_from R_length R_given R_firstGiven R_secondGiven D_depths D_weights S_top S_bound S_outer R_rowEnd R_rows R_rowBegins R_rowSizes lo hi T_lacks T_kinds W_depth W_most W_nodes W_scopes W_functions R_waitKinds R_waitNodes R_waitOf E_node E_scope E_value R_nowRow R_come M_steps M_memory M_mostSteps M_mostMemory) (hn : 0 ≤ E_node) : tw_EvS N R_constants cs ps nc R_values R_nodeOf R_rowOf D_top D_nodes R_dataEnd VB_top VB_row R_textEnd R_texts D_forms D_counts D_numbers R_forms R_tags R_counts R_textsAt V_top V_kinds V_numbers V_parts V_links R_valueKinds R_valueNumbers R_from R_length R_given R_firstGiven R_secondGiven D_depths D_weights S_top S_bound S_outer R_rowEnd R_rows R_rowBegins R_rowSizes lo hi T_lacks T_kinds W_depth W_most W_nodes W_scopes W_functions R_waitKinds R_waitNodes R_waitOf E_node E_scope E_value R_nowRow R_come M_steps M_memory M_mostSteps M_mostMemory T_nodes T_count T_args T_firsts TB_row R_used R_many R_kinds R_numbers R_firsts R_seconds R_sizes R_nodeTexts R_terms := by
  have hk : 0 ≤ T_kinds E_node ∧ T_kinds E_node ≤ 11 := by
    obtain ⟨hI, hM, hlo, hhi, hcs⟩ := id ht
    obtain ⟨-, -, -, -, -, hnow, -⟩ := id h
    rcases hnow with ⟨⟨e1, e2, -⟩, b, c⟩ | ⟨a, -⟩
    · obtain ⟨-, -, -, -, -, -, -, a8, a9, -⟩ := hI.2.2.2.2.2.2.2.2.2 E_node hn (by omega)
      exact ⟨a8, a9⟩
    · omega
  by_cases hp : 1 ≤ M_mostSteps - M_steps
  · have hc : T_kinds E_node = 0 ∨ T_kinds E_node = 1 ∨ T_kinds E_node = 2 ∨ T_kinds E_node = 3 ∨ T_kinds E_node = 4 ∨ T_kinds E_node = 5 ∨ T_kinds E_node = 6 ∨ 7 ≤ T_kinds E_node := by omega
    rcases hc with e | e | e | e | e | e | e | e
    · exact tw_ev_0 hN ht h hn hp e
    · exact tw_ev_1 hN ht h hn hp e
    · exact tw_ev_2 hN ht h hn hp e
    · exact tw_ev_3 hN ht h hn hp e
    · exact tw_ev_4 hN ht h hn hp e
    · exact tw_ev_5 hN ht h hn hp e
    · exact tw_ev_6 hN ht h hn hp e
    · exact tw_ev_c hN ht h hn hp e
  · exact tw_ev_pay hN ht h hn hp
