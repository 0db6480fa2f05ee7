set_option maxRecDepth 100000 in
def tw_ar (op : Int) : Int := if op = 13 ∨ op = 16 then 3 else if op < 11 ∨ op = 12 ∨ op = 14 ∨ op = 15 ∨ op = 17 ∨ op = 21 ∨ op = 28 then 2 else 1
set_option maxRecDepth 100000 in
def tw_BB (VB_top : Int) (VB_row : Int → Int) (R_textEnd : Int) (R_texts : Int → Int) (a b n : Int) : Prop := 0 ≤ n ∧ n ≤ 64 ∧ 0 ≤ a ∧ a + n ≤ VB_top ∧ 0 ≤ b ∧ b + n ≤ R_textEnd ∧ ∀ k, 0 ≤ k → k < n → VB_row (a + k) = R_texts (b + k) ∧ -128 ≤ VB_row (a + k) ∧ VB_row (a + k) ≤ 127
set_option maxRecDepth 100000 in
def tw_NR (VB_top : Int) (VB_row : Int → Int) (R_textEnd : Int) (R_texts : Int → Int) (D_forms : Int → Int) (D_counts : Int → Int) (D_numbers : Int → Int) (R_forms : Int → Int) (R_tags : Int → Int) (R_counts : Int → Int) (R_textsAt : Int → Int) (q d : Int) : Prop := R_forms d = D_forms q ∧ R_counts d = D_counts q ∧ (-9223372036854775808 ≤ D_numbers q ∧ D_numbers q ≤ 9223372036854775807) ∧ (D_forms q = 0 → 0 ≤ D_numbers q ∧ D_numbers q ≤ 127) ∧ (D_forms q = 4 → R_tags d = 0 ∧ tw_BB VB_top VB_row R_textEnd R_texts (D_numbers q) (R_textsAt d) (D_counts q)) ∧ (¬ D_forms q = 4 → R_tags d = D_numbers q)
set_option maxRecDepth 100000 in
def tw_DD (D_top : Int) (D_nodes : Int → Int) (R_dataEnd : Int) (VB_top : Int) (VB_row : Int → Int) (R_textEnd : Int) (R_texts : Int → Int) (D_forms : Int → Int) (D_counts : Int → Int) (D_numbers : Int → Int) (R_forms : Int → Int) (R_tags : Int → Int) (R_counts : Int → Int) (R_textsAt : Int → Int) (q d : Int) : Prop := 0 ≤ q ∧ q < D_top ∧ 0 ≤ d ∧ d + D_nodes q ≤ R_dataEnd ∧ ∀ k, 0 ≤ k → k < D_nodes q → tw_NR VB_top VB_row R_textEnd R_texts D_forms D_counts D_numbers R_forms R_tags R_counts R_textsAt (q + k) (d + k)
set_option maxRecDepth 100000 in
def tw_vok (cs : Int → Prop) (V_top : Int) (p : Int) : Prop := 0 ≤ p ∧ p < V_top ∧ (p < 200 → cs p)
set_option maxRecDepth 100000 in
def tw_BU (cs : Int → Prop) (ps : Int → Int) (V_top : Int) (V_parts : Int → Int) (V_links : Int → Int) (R_given : Int → Int) (R_firstGiven : Int → Int) (R_secondGiven : Int → Int) (p v : Int) : Prop :=
  (R_given v = 0 ∧ V_links p = -1)
  ∨ (R_given v = 1 ∧ tw_vok cs V_top (V_links p) ∧ V_links (V_links p) = -1 ∧ tw_vok cs V_top (V_parts p) ∧ R_firstGiven v = ps (V_parts p))
  ∨ (R_given v = 2 ∧ tw_vok cs V_top (V_links p) ∧ tw_vok cs V_top (V_links (V_links p)) ∧ V_links (V_links (V_links p)) = -1 ∧ tw_vok cs V_top (V_parts (V_links p)) ∧ tw_vok cs V_top (V_parts p) ∧ R_firstGiven v = ps (V_parts (V_links p)) ∧ R_secondGiven v = ps (V_parts p))
set_option maxRecDepth 100000 in
def tw_OB (D_top : Int) (D_nodes : Int → Int) (R_dataEnd : Int) (VB_top : Int) (VB_row : Int → Int) (R_textEnd : Int) (R_texts : Int → Int) (D_forms : Int → Int) (D_counts : Int → Int) (D_numbers : Int → Int) (R_forms : Int → Int) (R_tags : Int → Int) (R_counts : Int → Int) (R_textsAt : Int → Int) (V_top : Int) (V_kinds : Int → Int) (V_numbers : Int → Int) (V_parts : Int → Int) (V_links : Int → Int) (R_valueKinds : Int → Int) (R_valueNumbers : Int → Int) (R_from : Int → Int) (R_length : Int → Int) (p v : Int) : Prop :=
  V_kinds p = R_valueKinds v ∧ 0 ≤ V_kinds p ∧ V_kinds p ≤ 7 ∧ (-9223372036854775808 ≤ V_numbers p ∧ V_numbers p ≤ 9223372036854775807)
  ∧ (V_kinds p = 0 ∨ V_kinds p = 2 ∨ V_kinds p = 7 → V_numbers p = R_valueNumbers v) ∧ (V_kinds p = 2 → V_numbers p = 0 ∨ V_numbers p = 1) ∧ (V_kinds p = 7 → 0 ≤ V_numbers p ∧ V_numbers p ≤ 31)
  ∧ (V_kinds p = 1 → V_links p = R_length v ∧ R_valueNumbers v = R_length v ∧ tw_BB VB_top VB_row R_textEnd R_texts (V_parts p) (R_from v) (R_length v))
  ∧ (V_kinds p = 4 → R_length v = D_nodes (V_parts p) ∧ tw_DD D_top D_nodes R_dataEnd VB_top VB_row R_textEnd R_texts D_forms D_counts D_numbers R_forms R_tags R_counts R_textsAt (V_parts p) (R_from v))
set_option maxRecDepth 100000 in
def tw_VR (ok : Int → Int → Int → Prop) (cs : Int → Prop) (ps : Int → Int) (R_values : Int) (R_nodeOf : Int → Int) (R_rowOf : Int → Int) (D_top : Int) (D_nodes : Int → Int) (R_dataEnd : Int) (VB_top : Int) (VB_row : Int → Int) (R_textEnd : Int) (R_texts : Int → Int) (D_forms : Int → Int) (D_counts : Int → Int) (D_numbers : Int → Int) (R_forms : Int → Int) (R_tags : Int → Int) (R_counts : Int → Int) (R_textsAt : Int → Int) (V_top : Int) (V_kinds : Int → Int) (V_numbers : Int → Int) (V_parts : Int → Int) (V_links : Int → Int) (R_valueKinds : Int → Int) (R_valueNumbers : Int → Int) (R_from : Int → Int) (R_length : Int → Int) (R_given : Int → Int) (R_firstGiven : Int → Int) (R_secondGiven : Int → Int) (p : Int) : Prop :=
  0 ≤ ps p ∧ ps p < R_values ∧ tw_OB D_top D_nodes R_dataEnd VB_top VB_row R_textEnd R_texts D_forms D_counts D_numbers R_forms R_tags R_counts R_textsAt V_top V_kinds V_numbers V_parts V_links R_valueKinds R_valueNumbers R_from R_length p (ps p)
  ∧ (V_kinds p = 5 ∨ V_kinds p = 6 → R_nodeOf (ps p) = V_parts p ∧ R_rowOf (ps p) = V_links p + 1 ∧ ok (V_kinds p) (V_parts p) (V_links p))
  ∧ (V_kinds p = 7 → tw_BU cs ps V_top V_parts V_links R_given R_firstGiven R_secondGiven p (ps p) ∧ 0 ≤ R_given (ps p) ∧ R_given (ps p) < tw_ar (V_numbers p))
set_option maxRecDepth 100000 in
def tw_VAL (ok : Int → Int → Int → Prop) (cs : Int → Prop) (ps : Int → Int) (R_values : Int) (R_nodeOf : Int → Int) (R_rowOf : Int → Int) (D_top : Int) (D_nodes : Int → Int) (R_dataEnd : Int) (VB_top : Int) (VB_row : Int → Int) (R_textEnd : Int) (R_texts : Int → Int) (D_forms : Int → Int) (D_counts : Int → Int) (D_numbers : Int → Int) (R_forms : Int → Int) (R_tags : Int → Int) (R_counts : Int → Int) (R_textsAt : Int → Int) (V_top : Int) (V_kinds : Int → Int) (V_numbers : Int → Int) (V_parts : Int → Int) (V_links : Int → Int) (R_valueKinds : Int → Int) (R_valueNumbers : Int → Int) (R_from : Int → Int) (R_length : Int → Int) (R_given : Int → Int) (R_firstGiven : Int → Int) (R_secondGiven : Int → Int) : Prop := ∀ p, tw_vok cs V_top p → tw_VR ok cs ps R_values R_nodeOf R_rowOf D_top D_nodes R_dataEnd VB_top VB_row R_textEnd R_texts D_forms D_counts D_numbers R_forms R_tags R_counts R_textsAt V_top V_kinds V_numbers V_parts V_links R_valueKinds R_valueNumbers R_from R_length R_given R_firstGiven R_secondGiven p
set_option maxRecDepth 100000 in
def tw_GR (n : Int) (f g : Int → Int) : Prop := ∀ k, k < n → g k = f k
set_option maxRecDepth 100000 in
theorem tw_GR_up {n i v : Int} {f : Int → Int} (h : n ≤ i) : tw_GR n f (upZ f i v) := fun k hk => tw_upN f (by omega)
set_option maxRecDepth 100000 in
theorem tw_GR_refl {n : Int} {f : Int → Int} : tw_GR n f f := fun _ _ => rfl
set_option maxRecDepth 100000 in
theorem tw_BB_mono {VB_top : Int} {VB_row : Int → Int} {R_textEnd : Int} {R_texts : Int → Int} {VB_top' : Int} {VB_row' : Int → Int} {R_textEnd' : Int} {R_texts' : Int → Int} {a b n : Int} (h : tw_BB VB_top VB_row R_textEnd R_texts a b n) (h1 : VB_top ≤ VB_top') (h2 : R_textEnd ≤ R_textEnd') (h3 : tw_GR VB_top VB_row VB_row') (h4 : tw_GR R_textEnd R_texts R_texts') : tw_BB VB_top' VB_row' R_textEnd' R_texts' a b n := by
  obtain ⟨a1, a2, a3, a4, a5, a6, a7⟩ := h
  refine ⟨a1, a2, a3, by omega, a5, by omega, fun k k0 k1 => ?_⟩
  rw [h3 _ (by omega), h4 _ (by omega)]
  exact a7 k k0 k1
set_option maxRecDepth 100000 in
theorem tw_DD_mono {D_top : Int} {D_nodes : Int → Int} {R_dataEnd : Int} {VB_top : Int} {VB_row : Int → Int} {R_textEnd : Int} {R_texts : Int → Int} {D_forms : Int → Int} {D_counts : Int → Int} {D_numbers : Int → Int} {R_forms : Int → Int} {R_tags : Int → Int} {R_counts : Int → Int} {R_textsAt : Int → Int} {D_top' : Int} {D_nodes' : Int → Int} {R_dataEnd' : Int} {VB_top' : Int} {VB_row' : Int → Int} {R_textEnd' : Int} {R_texts' : Int → Int} {D_forms' : Int → Int} {D_counts' : Int → Int} {D_numbers' : Int → Int} {R_forms' : Int → Int} {R_tags' : Int → Int} {R_counts' : Int → Int} {R_textsAt' : Int → Int} {q d : Int} (h : tw_DD D_top D_nodes R_dataEnd VB_top VB_row R_textEnd R_texts D_forms D_counts D_numbers R_forms R_tags R_counts R_textsAt q d) (hn : ∀ q, 0 ≤ q → q < D_top → 1 ≤ D_nodes q ∧ q + D_nodes q ≤ D_top) (h1 : VB_top ≤ VB_top') (h2 : R_textEnd ≤ R_textEnd') (h3 : tw_GR VB_top VB_row VB_row') (h4 : tw_GR R_textEnd R_texts R_texts')
    (h5 : D_top ≤ D_top') (h6 : R_dataEnd ≤ R_dataEnd') (h7 : tw_GR D_top D_forms D_forms') (h8 : tw_GR D_top D_counts D_counts') (h9 : tw_GR D_top D_numbers D_numbers') (h10 : tw_GR D_top D_nodes D_nodes') (h11 : tw_GR R_dataEnd R_forms R_forms') (h12 : tw_GR R_dataEnd R_tags R_tags') (h13 : tw_GR R_dataEnd R_counts R_counts') (h14 : tw_GR R_dataEnd R_textsAt R_textsAt') : tw_DD D_top' D_nodes' R_dataEnd' VB_top' VB_row' R_textEnd' R_texts' D_forms' D_counts' D_numbers' R_forms' R_tags' R_counts' R_textsAt' q d := by
  obtain ⟨a1, a2, a3, a4, a5⟩ := h
  have n1 := hn q a1 a2
  refine ⟨a1, by omega, a3, by rw [h10 q a2]; omega, fun k k0 k1 => ?_⟩
  rw [h10 q a2] at k1
  obtain ⟨b1, b2, b3, b4, b5, b6⟩ := a5 k k0 k1
  unfold tw_NR
  rw [h7 _ (by omega), h8 _ (by omega), h9 _ (by omega), h11 _ (by omega), h12 _ (by omega), h13 _ (by omega), h14 _ (by omega)]
  exact ⟨b1, b2, b3, b4, fun z => ⟨(b5 z).1, tw_BB_mono (b5 z).2 h1 h2 h3 h4⟩, b6⟩
set_option maxRecDepth 100000 in
theorem tw_vok_mono {cs : Int → Prop} {V_top : Int} {V_top' : Int} {p : Int} (h : tw_vok cs V_top p) (h1 : V_top ≤ V_top') : tw_vok cs V_top' p := ⟨h.1, by have := h.2.1; omega, h.2.2⟩
set_option maxRecDepth 100000 in
theorem tw_BU_mono {cs : Int → Prop} {ps : Int → Int} {V_top : Int} {V_parts : Int → Int} {V_links : Int → Int} {R_given : Int → Int} {R_firstGiven : Int → Int} {R_secondGiven : Int → Int} {v w : Int} {V_top' : Int} {V_parts' : Int → Int} {V_links' : Int → Int} {R_given' : Int → Int} {R_firstGiven' : Int → Int} {R_secondGiven' : Int → Int} {p : Int} (h : tw_BU cs ps V_top V_parts V_links R_given R_firstGiven R_secondGiven p v) (hp : p < V_top) (hv : v < w) (h1 : V_top ≤ V_top') (h2 : tw_GR V_top V_parts V_parts') (h3 : tw_GR V_top V_links V_links') (h4 : tw_GR w R_given R_given') (h5 : tw_GR w R_firstGiven R_firstGiven') (h6 : tw_GR w R_secondGiven R_secondGiven') : tw_BU cs ps V_top' V_parts' V_links' R_given' R_firstGiven' R_secondGiven' p v := by
  have e1 := h3 p hp
  have e2 := h2 p hp
  have e4 := h4 v hv
  have e5 := h5 v hv
  have e6 := h6 v hv
  rcases h with ⟨a1, a2⟩ | ⟨a1, a2, a3, a4, a5⟩ | ⟨a1, a2, a3, a4, a5, a6, a7, a8⟩
  · exact Or.inl ⟨by rw [e4]; exact a1, by rw [e1]; exact a2⟩
  · refine Or.inr (Or.inl ⟨by rw [e4]; exact a1, by rw [e1]; exact tw_vok_mono a2 h1, ?_, by rw [e2]; exact tw_vok_mono a4 h1, by rw [e5, e2]; exact a5⟩)
    rw [e1, h3 _ a2.2.1]; exact a3
  · have f1 := h3 _ a2.2.1
    have f2 := h2 _ a2.2.1
    have f3 := h3 _ a3.2.1
    refine Or.inr (Or.inr ⟨by rw [e4]; exact a1, by rw [e1]; exact tw_vok_mono a2 h1, by rw [e1, f1]; exact tw_vok_mono a3 h1, by rw [e1, f1, f3]; exact a4, by rw [e1, f2]; exact tw_vok_mono a5 h1, by rw [e2]; exact tw_vok_mono a6 h1, by rw [e5, e1, f2]; exact a7, by rw [e6, e2]; exact a8⟩)
set_option maxRecDepth 100000 in
def tw_GRV (R_values : Int) (R_nodeOf : Int → Int) (R_rowOf : Int → Int) (D_top : Int) (D_nodes : Int → Int) (R_dataEnd : Int) (VB_top : Int) (VB_row : Int → Int) (R_textEnd : Int) (R_texts : Int → Int) (D_forms : Int → Int) (D_counts : Int → Int) (D_numbers : Int → Int) (R_forms : Int → Int) (R_tags : Int → Int) (R_counts : Int → Int) (R_textsAt : Int → Int) (V_top : Int) (V_kinds : Int → Int) (V_numbers : Int → Int) (V_parts : Int → Int) (V_links : Int → Int) (R_valueKinds : Int → Int) (R_valueNumbers : Int → Int) (R_from : Int → Int) (R_length : Int → Int) (R_given : Int → Int) (R_firstGiven : Int → Int) (R_secondGiven : Int → Int) (R_values' : Int) (R_nodeOf' : Int → Int) (R_rowOf' : Int → Int) (D_top' : Int) (D_nodes' : Int → Int) (R_dataEnd' : Int) (VB_top' : Int) (VB_row' : Int → Int) (R_textEnd' : Int) (R_texts' : Int → Int) (D_forms' : Int → Int) (D_counts' : Int → Int) (D_numbers' : Int → Int) (R_forms' : Int → Int) (R_tags' : Int → Int) (R_counts' : Int → Int) (R_textsAt' : Int → Int) (V_top' : Int) (V_kinds' : Int → Int) (V_numbers' : Int → Int) (V_parts' : Int → Int) (V_links' : Int → Int) (R_valueKinds' : Int → Int) (R_valueNumbers' : Int → Int) (R_from' : Int → Int) (R_length' : Int → Int) (R_given' : Int → Int) (R_firstGiven' : Int → Int) (R_secondGiven' : Int → Int) : Prop :=
  VB_top ≤ VB_top' ∧ R_textEnd ≤ R_textEnd' ∧ tw_GR VB_top VB_row VB_row' ∧ tw_GR R_textEnd R_texts R_texts' ∧ D_top ≤ D_top' ∧ R_dataEnd ≤ R_dataEnd' ∧ tw_GR D_top D_forms D_forms' ∧ tw_GR D_top D_counts D_counts' ∧ tw_GR D_top D_numbers D_numbers' ∧ tw_GR D_top D_nodes D_nodes' ∧ tw_GR R_dataEnd R_forms R_forms' ∧ tw_GR R_dataEnd R_tags R_tags' ∧ tw_GR R_dataEnd R_counts R_counts' ∧ tw_GR R_dataEnd R_textsAt R_textsAt'
  ∧ V_top ≤ V_top' ∧ tw_GR V_top V_kinds V_kinds' ∧ tw_GR V_top V_numbers V_numbers' ∧ tw_GR V_top V_parts V_parts' ∧ tw_GR V_top V_links V_links' ∧ R_values ≤ R_values' ∧ tw_GR R_values R_valueKinds R_valueKinds' ∧ tw_GR R_values R_valueNumbers R_valueNumbers' ∧ tw_GR R_values R_from R_from' ∧ tw_GR R_values R_length R_length' ∧ tw_GR R_values R_nodeOf R_nodeOf' ∧ tw_GR R_values R_rowOf R_rowOf' ∧ tw_GR R_values R_given R_given' ∧ tw_GR R_values R_firstGiven R_firstGiven' ∧ tw_GR R_values R_secondGiven R_secondGiven'
set_option maxRecDepth 100000 in
theorem tw_OB_mono {R_values : Int} {R_nodeOf : Int → Int} {R_rowOf : Int → Int} {D_top : Int} {D_nodes : Int → Int} {R_dataEnd : Int} {VB_top : Int} {VB_row : Int → Int} {R_textEnd : Int} {R_texts : Int → Int} {D_forms : Int → Int} {D_counts : Int → Int} {D_numbers : Int → Int} {R_forms : Int → Int} {R_tags : Int → Int} {R_counts : Int → Int} {R_textsAt : Int → Int} {V_top : Int} {V_kinds : Int → Int} {V_numbers : Int → Int} {V_parts : Int → Int} {V_links : Int → Int} {R_valueKinds : Int → Int} {R_valueNumbers : Int → Int} {R_from : Int → Int} {R_length : Int → Int} {R_given : Int → Int} {R_firstGiven : Int → Int} {R_secondGiven : Int → Int} {R_values' : Int} {R_nodeOf' : Int → Int} {R_rowOf' : Int → Int} {D_top' : Int} {D_nodes' : Int → Int} {R_dataEnd' : Int} {VB_top' : Int} {VB_row' : Int → Int} {R_textEnd' : Int} {R_texts' : Int → Int} {D_forms' : Int → Int} {D_counts' : Int → Int} {D_numbers' : Int → Int} {R_forms' : Int → Int} {R_tags' : Int → Int} {R_counts' : Int → Int} {R_textsAt' : Int → Int} {V_top' : Int} {V_kinds' : Int → Int} {V_numbers' : Int → Int} {V_parts' : Int → Int} {V_links' : Int → Int} {R_valueKinds' : Int → Int} {R_valueNumbers' : Int → Int} {R_from' : Int → Int} {R_length' : Int → Int} {R_given' : Int → Int} {R_firstGiven' : Int → Int} {R_secondGiven' : Int → Int} {p v : Int} (hv : v < R_values) (hp : p < V_top) (h : tw_OB D_top D_nodes R_dataEnd VB_top VB_row R_textEnd R_texts D_forms D_counts D_numbers R_forms R_tags R_counts R_textsAt V_top V_kinds V_numbers V_parts V_links R_valueKinds R_valueNumbers R_from R_length p v) (hn : ∀ q, 0 ≤ q → q < D_top → 1 ≤ D_nodes q ∧ q + D_nodes q ≤ D_top)
    (g : tw_GRV R_values R_nodeOf R_rowOf D_top D_nodes R_dataEnd VB_top VB_row R_textEnd R_texts D_forms D_counts D_numbers R_forms R_tags R_counts R_textsAt V_top V_kinds V_numbers V_parts V_links R_valueKinds R_valueNumbers R_from R_length R_given R_firstGiven R_secondGiven R_values' R_nodeOf' R_rowOf' D_top' D_nodes' R_dataEnd' VB_top' VB_row' R_textEnd' R_texts' D_forms' D_counts' D_numbers' R_forms' R_tags' R_counts' R_textsAt' V_top' V_kinds' V_numbers' V_parts' V_links' R_valueKinds' R_valueNumbers' R_from' R_length' R_given' R_firstGiven' R_secondGiven') : tw_OB D_top' D_nodes' R_dataEnd' VB_top' VB_row' R_textEnd' R_texts' D_forms' D_counts' D_numbers' R_forms' R_tags' R_counts' R_textsAt' V_top' V_kinds' V_numbers' V_parts' V_links' R_valueKinds' R_valueNumbers' R_from' R_length' p v := by
  obtain ⟨tw_g1, tw_g2, g3, g4, g5, g6, g7, g8, g9, g10, g11, g12, g13, g14, g15, g16, g17, g18, g19, g20, g21, g22, g23, g24, g25, g26, g27, g28, g29⟩ := g
  obtain ⟨a1, a2, a3, a4, a5, a6, a7, a8, a9⟩ := h
  unfold tw_OB
  rw [g16 p hp, g17 p hp, g18 p hp, g19 p hp, g21 v hv, g22 v hv, g23 v hv, g24 v hv]
  refine ⟨a1, a2, a3, a4, a5, a6, a7, fun z => ⟨(a8 z).1, (a8 z).2.1, tw_BB_mono (a8 z).2.2 tw_g1 tw_g2 g3 g4⟩, fun z => ?_⟩
  have w := (a9 z).2
  rw [g10 _ w.2.1]
  exact ⟨(a9 z).1, tw_DD_mono w hn tw_g1 tw_g2 g3 g4 g5 g6 g7 g8 g9 g10 g11 g12 g13 g14⟩
set_option maxRecDepth 100000 in
theorem tw_VR_mono {ok : Int → Int → Int → Prop} {cs : Int → Prop} {ps : Int → Int} {R_values : Int} {R_nodeOf : Int → Int} {R_rowOf : Int → Int} {D_top : Int} {D_nodes : Int → Int} {R_dataEnd : Int} {VB_top : Int} {VB_row : Int → Int} {R_textEnd : Int} {R_texts : Int → Int} {D_forms : Int → Int} {D_counts : Int → Int} {D_numbers : Int → Int} {R_forms : Int → Int} {R_tags : Int → Int} {R_counts : Int → Int} {R_textsAt : Int → Int} {V_top : Int} {V_kinds : Int → Int} {V_numbers : Int → Int} {V_parts : Int → Int} {V_links : Int → Int} {R_valueKinds : Int → Int} {R_valueNumbers : Int → Int} {R_from : Int → Int} {R_length : Int → Int} {R_given : Int → Int} {R_firstGiven : Int → Int} {R_secondGiven : Int → Int} {R_values' : Int} {R_nodeOf' : Int → Int} {R_rowOf' : Int → Int} {D_top' : Int} {D_nodes' : Int → Int} {R_dataEnd' : Int} {VB_top' : Int} {VB_row' : Int → Int} {R_textEnd' : Int} {R_texts' : Int → Int} {D_forms' : Int → Int} {D_counts' : Int → Int} {D_numbers' : Int → Int} {R_forms' : Int → Int} {R_tags' : Int → Int} {R_counts' : Int → Int} {R_textsAt' : Int → Int} {V_top' : Int} {V_kinds' : Int → Int} {V_numbers' : Int → Int} {V_parts' : Int → Int} {V_links' : Int → Int} {R_valueKinds' : Int → Int} {R_valueNumbers' : Int → Int} {R_from' : Int → Int} {R_length' : Int → Int} {R_given' : Int → Int} {R_firstGiven' : Int → Int} {R_secondGiven' : Int → Int} {ok' : Int → Int → Int → Prop} {p : Int} (hp : tw_vok cs V_top p) (h : tw_VR ok cs ps R_values R_nodeOf R_rowOf D_top D_nodes R_dataEnd VB_top VB_row R_textEnd R_texts D_forms D_counts D_numbers R_forms R_tags R_counts R_textsAt V_top V_kinds V_numbers V_parts V_links R_valueKinds R_valueNumbers R_from R_length R_given R_firstGiven R_secondGiven p) (hn : ∀ q, 0 ≤ q → q < D_top → 1 ≤ D_nodes q ∧ q + D_nodes q ≤ D_top)
    (g : tw_GRV R_values R_nodeOf R_rowOf D_top D_nodes R_dataEnd VB_top VB_row R_textEnd R_texts D_forms D_counts D_numbers R_forms R_tags R_counts R_textsAt V_top V_kinds V_numbers V_parts V_links R_valueKinds R_valueNumbers R_from R_length R_given R_firstGiven R_secondGiven R_values' R_nodeOf' R_rowOf' D_top' D_nodes' R_dataEnd' VB_top' VB_row' R_textEnd' R_texts' D_forms' D_counts' D_numbers' R_forms' R_tags' R_counts' R_textsAt' V_top' V_kinds' V_numbers' V_parts' V_links' R_valueKinds' R_valueNumbers' R_from' R_length' R_given' R_firstGiven' R_secondGiven') (ho : ∀ a b c, ok a b c → ok' a b c) : tw_VR ok' cs ps R_values' R_nodeOf' R_rowOf' D_top' D_nodes' R_dataEnd' VB_top' VB_row' R_textEnd' R_texts' D_forms' D_counts' D_numbers' R_forms' R_tags' R_counts' R_textsAt' V_top' V_kinds' V_numbers' V_parts' V_links' R_valueKinds' R_valueNumbers' R_from' R_length' R_given' R_firstGiven' R_secondGiven' p := by
  obtain ⟨a1, a2, a3, a4, a5⟩ := h
  have o := tw_OB_mono a2 hp.2.1 a3 hn g
  obtain ⟨tw_g1, tw_g2, g3, g4, g5, g6, g7, g8, g9, g10, g11, g12, g13, g14, g15, g16, g17, g18, g19, g20, g21, g22, g23, g24, g25, g26, g27, g28, g29⟩ := g
  refine ⟨a1, by omega, o, ?_, ?_⟩
  · rw [g16 p hp.2.1, g18 p hp.2.1, g19 p hp.2.1, g25 _ a2, g26 _ a2]
    exact fun z => ⟨(a4 z).1, (a4 z).2.1, ho _ _ _ (a4 z).2.2⟩
  · rw [g16 p hp.2.1, g17 p hp.2.1, g27 _ a2]
    exact fun z => ⟨tw_BU_mono (a5 z).1 hp.2.1 a2 g15 g18 g19 g27 g28 g29, (a5 z).2⟩
set_option maxRecDepth 100000 in
theorem tw_VAL_mono {ok : Int → Int → Int → Prop} {cs : Int → Prop} {ps : Int → Int} {R_values : Int} {R_nodeOf : Int → Int} {R_rowOf : Int → Int} {D_top : Int} {D_nodes : Int → Int} {R_dataEnd : Int} {VB_top : Int} {VB_row : Int → Int} {R_textEnd : Int} {R_texts : Int → Int} {D_forms : Int → Int} {D_counts : Int → Int} {D_numbers : Int → Int} {R_forms : Int → Int} {R_tags : Int → Int} {R_counts : Int → Int} {R_textsAt : Int → Int} {V_top : Int} {V_kinds : Int → Int} {V_numbers : Int → Int} {V_parts : Int → Int} {V_links : Int → Int} {R_valueKinds : Int → Int} {R_valueNumbers : Int → Int} {R_from : Int → Int} {R_length : Int → Int} {R_given : Int → Int} {R_firstGiven : Int → Int} {R_secondGiven : Int → Int} {R_values' : Int} {R_nodeOf' : Int → Int} {R_rowOf' : Int → Int} {D_top' : Int} {D_nodes' : Int → Int} {R_dataEnd' : Int} {VB_top' : Int} {VB_row' : Int → Int} {R_textEnd' : Int} {R_texts' : Int → Int} {D_forms' : Int → Int} {D_counts' : Int → Int} {D_numbers' : Int → Int} {R_forms' : Int → Int} {R_tags' : Int → Int} {R_counts' : Int → Int} {R_textsAt' : Int → Int} {V_top' : Int} {V_kinds' : Int → Int} {V_numbers' : Int → Int} {V_parts' : Int → Int} {V_links' : Int → Int} {R_valueKinds' : Int → Int} {R_valueNumbers' : Int → Int} {R_from' : Int → Int} {R_length' : Int → Int} {R_given' : Int → Int} {R_firstGiven' : Int → Int} {R_secondGiven' : Int → Int} {ok' : Int → Int → Int → Prop} (h : tw_VAL ok cs ps R_values R_nodeOf R_rowOf D_top D_nodes R_dataEnd VB_top VB_row R_textEnd R_texts D_forms D_counts D_numbers R_forms R_tags R_counts R_textsAt V_top V_kinds V_numbers V_parts V_links R_valueKinds R_valueNumbers R_from R_length R_given R_firstGiven R_secondGiven) (hn : ∀ q, 0 ≤ q → q < D_top → 1 ≤ D_nodes q ∧ q + D_nodes q ≤ D_top)
    (g : tw_GRV R_values R_nodeOf R_rowOf D_top D_nodes R_dataEnd VB_top VB_row R_textEnd R_texts D_forms D_counts D_numbers R_forms R_tags R_counts R_textsAt V_top V_kinds V_numbers V_parts V_links R_valueKinds R_valueNumbers R_from R_length R_given R_firstGiven R_secondGiven R_values' R_nodeOf' R_rowOf' D_top' D_nodes' R_dataEnd' VB_top' VB_row' R_textEnd' R_texts' D_forms' D_counts' D_numbers' R_forms' R_tags' R_counts' R_textsAt' V_top' V_kinds' V_numbers' V_parts' V_links' R_valueKinds' R_valueNumbers' R_from' R_length' R_given' R_firstGiven' R_secondGiven') (ho : ∀ a b c, ok a b c → ok' a b c) {p : Int} (hp : tw_vok cs V_top p) : tw_VR ok' cs ps R_values' R_nodeOf' R_rowOf' D_top' D_nodes' R_dataEnd' VB_top' VB_row' R_textEnd' R_texts' D_forms' D_counts' D_numbers' R_forms' R_tags' R_counts' R_textsAt' V_top' V_kinds' V_numbers' V_parts' V_links' R_valueKinds' R_valueNumbers' R_from' R_length' R_given' R_firstGiven' R_secondGiven' p := tw_VR_mono hp (h p hp) hn g ho
set_option maxRecDepth 100000 in
def tw_XV (ok : Int → Int → Int → Prop) (cs : Int → Prop) (ps : Int → Int) (nc : Int) (R_values : Int) (R_nodeOf : Int → Int) (R_rowOf : Int → Int) (D_top : Int) (D_nodes : Int → Int) (R_dataEnd : Int) (VB_top : Int) (VB_row : Int → Int) (R_textEnd : Int) (R_texts : Int → Int) (D_forms : Int → Int) (D_counts : Int → Int) (D_numbers : Int → Int) (R_forms : Int → Int) (R_tags : Int → Int) (R_counts : Int → Int) (R_textsAt : Int → Int) (V_top : Int) (V_kinds : Int → Int) (V_numbers : Int → Int) (V_parts : Int → Int) (V_links : Int → Int) (R_valueKinds : Int → Int) (R_valueNumbers : Int → Int) (R_from : Int → Int) (R_length : Int → Int) (R_given : Int → Int) (R_firstGiven : Int → Int) (R_secondGiven : Int → Int) (D_depths : Int → Int) (D_weights : Int → Int) : Prop := tw_VAL ok cs ps R_values R_nodeOf R_rowOf D_top D_nodes R_dataEnd VB_top VB_row R_textEnd R_texts D_forms D_counts D_numbers R_forms R_tags R_counts R_textsAt V_top V_kinds V_numbers V_parts V_links R_valueKinds R_valueNumbers R_from R_length R_given R_firstGiven R_secondGiven ∧ tw_DR 12 D_top D_forms D_counts D_nodes D_depths D_weights ∧ 200 ≤ V_top ∧ 1 ≤ D_top ∧ 12800 ≤ VB_top ∧ 0 ≤ R_textEnd ∧ 0 ≤ R_dataEnd ∧ 0 ≤ nc ∧ nc ≤ 200 ∧ R_values = nc + (V_top - 200) ∧ (∀ p, 200 ≤ p → ps p = nc + (p - 200))
set_option maxRecDepth 100000 in
def tw_SZ (V_kinds : Int → Int) (V_parts : Int → Int) (V_links : Int → Int) (D_nodes : Int → Int) (D_weights : Int → Int) (p : Int) : Int := if V_kinds p = 1 then 1 + V_links p / 8 else if V_kinds p = 4 then D_nodes (V_parts p) + D_weights (V_parts p) / 8 else 1
set_option maxRecDepth 100000 in
def tw_TOPS (V_top : Int) (D_top : Int) (VB_top : Int) (R_textEnd : Int) (R_dataEnd : Int) (m : Int) : Prop := V_top ≤ 200 + m ∧ D_top ≤ 1 + m ∧ VB_top ≤ 12800 + 8 * m ∧ R_textEnd ≤ 12800 + 8 * m ∧ R_dataEnd ≤ 200 + m ∧ 0 ≤ m ∧ m ≤ 3000
set_option maxRecDepth 100000 in
theorem tw_GRV_refl {R_values : Int} {R_nodeOf : Int → Int} {R_rowOf : Int → Int} {D_top : Int} {D_nodes : Int → Int} {R_dataEnd : Int} {VB_top : Int} {VB_row : Int → Int} {R_textEnd : Int} {R_texts : Int → Int} {D_forms : Int → Int} {D_counts : Int → Int} {D_numbers : Int → Int} {R_forms : Int → Int} {R_tags : Int → Int} {R_counts : Int → Int} {R_textsAt : Int → Int} {V_top : Int} {V_kinds : Int → Int} {V_numbers : Int → Int} {V_parts : Int → Int} {V_links : Int → Int} {R_valueKinds : Int → Int} {R_valueNumbers : Int → Int} {R_from : Int → Int} {R_length : Int → Int} {R_given : Int → Int} {R_firstGiven : Int → Int} {R_secondGiven : Int → Int} : tw_GRV R_values R_nodeOf R_rowOf D_top D_nodes R_dataEnd VB_top VB_row R_textEnd R_texts D_forms D_counts D_numbers R_forms R_tags R_counts R_textsAt V_top V_kinds V_numbers V_parts V_links R_valueKinds R_valueNumbers R_from R_length R_given R_firstGiven R_secondGiven R_values R_nodeOf R_rowOf D_top D_nodes R_dataEnd VB_top VB_row R_textEnd R_texts D_forms D_counts D_numbers R_forms R_tags R_counts R_textsAt V_top V_kinds V_numbers V_parts V_links R_valueKinds R_valueNumbers R_from R_length R_given R_firstGiven R_secondGiven := by
  unfold tw_GRV; simp only [tw_GR_refl, Int.le_refl, and_self]
set_option maxRecDepth 100000 in
theorem tw_GR_trans {n m : Int} {f g h : Int → Int} (a : tw_GR n f g) (hm : n ≤ m) (b : tw_GR m g h) : tw_GR n f h := fun k hk => by rw [b k (by omega), a k hk]
set_option maxRecDepth 100000 in
theorem tw_DR_n {B top : Int} {Fm Cn Nd Dp Wt : Int → Int} (h : tw_DR B top Fm Cn Nd Dp Wt) : ∀ q, 0 ≤ q → q < top → 1 ≤ Nd q ∧ q + Nd q ≤ top := fun q q0 q1 => ⟨(h q q0 q1).1, (h q q0 q1).2.1⟩
set_option maxRecDepth 100000 in
theorem tw_XV_grow {ok : Int → Int → Int → Prop} {cs : Int → Prop} {ps : Int → Int} {nc : Int} {R_values : Int} {R_nodeOf : Int → Int} {R_rowOf : Int → Int} {D_top : Int} {D_nodes : Int → Int} {R_dataEnd : Int} {VB_top : Int} {VB_row : Int → Int} {R_textEnd : Int} {R_texts : Int → Int} {D_forms : Int → Int} {D_counts : Int → Int} {D_numbers : Int → Int} {R_forms : Int → Int} {R_tags : Int → Int} {R_counts : Int → Int} {R_textsAt : Int → Int} {V_top : Int} {V_kinds : Int → Int} {V_numbers : Int → Int} {V_parts : Int → Int} {V_links : Int → Int} {R_valueKinds : Int → Int} {R_valueNumbers : Int → Int} {R_from : Int → Int} {R_length : Int → Int} {R_given : Int → Int} {R_firstGiven : Int → Int} {R_secondGiven : Int → Int} {D_depths : Int → Int} {D_weights : Int → Int} {D_top' D_forms' D_counts' D_numbers' D_nodes' D_depths' D_weights' : _} {VB_top' VB_row' R_textEnd' R_texts' R_dataEnd' R_forms' R_tags' R_counts' R_textsAt' : _} (h : tw_XV ok cs ps nc R_values R_nodeOf R_rowOf D_top D_nodes R_dataEnd VB_top VB_row R_textEnd R_texts D_forms D_counts D_numbers R_forms R_tags R_counts R_textsAt V_top V_kinds V_numbers V_parts V_links R_valueKinds R_valueNumbers R_from R_length R_given R_firstGiven R_secondGiven D_depths D_weights)
    (hD : tw_DR 12 D_top' D_forms' D_counts' D_nodes' D_depths' D_weights') (tw_g1 : VB_top ≤ VB_top') (tw_g2 : R_textEnd ≤ R_textEnd') (g3 : tw_GR VB_top VB_row VB_row') (g4 : tw_GR R_textEnd R_texts R_texts') (g5 : D_top ≤ D_top') (g6 : R_dataEnd ≤ R_dataEnd') (g7 : tw_GR D_top D_forms D_forms') (g8 : tw_GR D_top D_counts D_counts') (g9 : tw_GR D_top D_numbers D_numbers') (g10 : tw_GR D_top D_nodes D_nodes') (g11 : tw_GR R_dataEnd R_forms R_forms') (g12 : tw_GR R_dataEnd R_tags R_tags') (g13 : tw_GR R_dataEnd R_counts R_counts') (g14 : tw_GR R_dataEnd R_textsAt R_textsAt') :
    tw_XV ok cs ps nc R_values R_nodeOf R_rowOf D_top' D_nodes' R_dataEnd' VB_top' VB_row' R_textEnd' R_texts' D_forms' D_counts' D_numbers' R_forms' R_tags' R_counts' R_textsAt' V_top V_kinds V_numbers V_parts V_links R_valueKinds R_valueNumbers R_from R_length R_given R_firstGiven R_secondGiven D_depths' D_weights'
    ∧ tw_GRV R_values R_nodeOf R_rowOf D_top D_nodes R_dataEnd VB_top VB_row R_textEnd R_texts D_forms D_counts D_numbers R_forms R_tags R_counts R_textsAt V_top V_kinds V_numbers V_parts V_links R_valueKinds R_valueNumbers R_from R_length R_given R_firstGiven R_secondGiven R_values R_nodeOf R_rowOf D_top' D_nodes' R_dataEnd' VB_top' VB_row' R_textEnd' R_texts' D_forms' D_counts' D_numbers' R_forms' R_tags' R_counts' R_textsAt' V_top V_kinds V_numbers V_parts V_links R_valueKinds R_valueNumbers R_from R_length R_given R_firstGiven R_secondGiven := by
  obtain ⟨h1, h2, h3, h4, h5, h6, h7, h8, h9, h10, h11⟩ := h
  have g : tw_GRV R_values R_nodeOf R_rowOf D_top D_nodes R_dataEnd VB_top VB_row R_textEnd R_texts D_forms D_counts D_numbers R_forms R_tags R_counts R_textsAt V_top V_kinds V_numbers V_parts V_links R_valueKinds R_valueNumbers R_from R_length R_given R_firstGiven R_secondGiven R_values R_nodeOf R_rowOf D_top' D_nodes' R_dataEnd' VB_top' VB_row' R_textEnd' R_texts' D_forms' D_counts' D_numbers' R_forms' R_tags' R_counts' R_textsAt' V_top V_kinds V_numbers V_parts V_links R_valueKinds R_valueNumbers R_from R_length R_given R_firstGiven R_secondGiven :=
    ⟨tw_g1, tw_g2, g3, g4, g5, g6, g7, g8, g9, g10, g11, g12, g13, g14, Int.le_refl _, tw_GR_refl, tw_GR_refl, tw_GR_refl, tw_GR_refl, Int.le_refl _, tw_GR_refl, tw_GR_refl, tw_GR_refl, tw_GR_refl, tw_GR_refl, tw_GR_refl, tw_GR_refl, tw_GR_refl, tw_GR_refl⟩
  exact ⟨⟨fun p hp => tw_VAL_mono h1 (tw_DR_n h2) g (fun _ _ _ z => z) hp, hD, h3, by omega, by omega, by omega, by omega, h8, h9, h10, h11⟩, g⟩
set_option maxRecDepth 100000 in
theorem tw_GRV_trans {R_values : Int} {R_nodeOf : Int → Int} {R_rowOf : Int → Int} {D_top : Int} {D_nodes : Int → Int} {R_dataEnd : Int} {VB_top : Int} {VB_row : Int → Int} {R_textEnd : Int} {R_texts : Int → Int} {D_forms : Int → Int} {D_counts : Int → Int} {D_numbers : Int → Int} {R_forms : Int → Int} {R_tags : Int → Int} {R_counts : Int → Int} {R_textsAt : Int → Int} {V_top : Int} {V_kinds : Int → Int} {V_numbers : Int → Int} {V_parts : Int → Int} {V_links : Int → Int} {R_valueKinds : Int → Int} {R_valueNumbers : Int → Int} {R_from : Int → Int} {R_length : Int → Int} {R_given : Int → Int} {R_firstGiven : Int → Int} {R_secondGiven : Int → Int} {R_values' : Int} {R_nodeOf' : Int → Int} {R_rowOf' : Int → Int} {D_top' : Int} {D_nodes' : Int → Int} {R_dataEnd' : Int} {VB_top' : Int} {VB_row' : Int → Int} {R_textEnd' : Int} {R_texts' : Int → Int} {D_forms' : Int → Int} {D_counts' : Int → Int} {D_numbers' : Int → Int} {R_forms' : Int → Int} {R_tags' : Int → Int} {R_counts' : Int → Int} {R_textsAt' : Int → Int} {V_top' : Int} {V_kinds' : Int → Int} {V_numbers' : Int → Int} {V_parts' : Int → Int} {V_links' : Int → Int} {R_valueKinds' : Int → Int} {R_valueNumbers' : Int → Int} {R_from' : Int → Int} {R_length' : Int → Int} {R_given' : Int → Int} {R_firstGiven' : Int → Int} {R_secondGiven' : Int → Int} {R_values'' R_nodeOf'' R_rowOf'' D_top'' D_nodes'' R_dataEnd'' VB_top'' VB_row'' R_textEnd'' R_texts'' D_forms'' D_counts'' D_numbers'' R_forms'' R_tags'' R_counts'' R_textsAt'' V_top'' V_kinds'' V_numbers'' V_parts'' V_links'' R_valueKinds'' R_valueNumbers'' R_from'' R_length'' R_given'' R_firstGiven'' R_secondGiven'' : _}
    (a : tw_GRV R_values R_nodeOf R_rowOf D_top D_nodes R_dataEnd VB_top VB_row R_textEnd R_texts D_forms D_counts D_numbers R_forms R_tags R_counts R_textsAt V_top V_kinds V_numbers V_parts V_links R_valueKinds R_valueNumbers R_from R_length R_given R_firstGiven R_secondGiven R_values' R_nodeOf' R_rowOf' D_top' D_nodes' R_dataEnd' VB_top' VB_row' R_textEnd' R_texts' D_forms' D_counts' D_numbers' R_forms' R_tags' R_counts' R_textsAt' V_top' V_kinds' V_numbers' V_parts' V_links' R_valueKinds' R_valueNumbers' R_from' R_length' R_given' R_firstGiven' R_secondGiven') (b : tw_GRV R_values' R_nodeOf' R_rowOf' D_top' D_nodes' R_dataEnd' VB_top' VB_row' R_textEnd' R_texts' D_forms' D_counts' D_numbers' R_forms' R_tags' R_counts' R_textsAt' V_top' V_kinds' V_numbers' V_parts' V_links' R_valueKinds' R_valueNumbers' R_from' R_length' R_given' R_firstGiven' R_secondGiven' R_values'' R_nodeOf'' R_rowOf'' D_top'' D_nodes'' R_dataEnd'' VB_top'' VB_row'' R_textEnd'' R_texts'' D_forms'' D_counts'' D_numbers'' R_forms'' R_tags'' R_counts'' R_textsAt'' V_top'' V_kinds'' V_numbers'' V_parts'' V_links'' R_valueKinds'' R_valueNumbers'' R_from'' R_length'' R_given'' R_firstGiven'' R_secondGiven'') :
    tw_GRV R_values R_nodeOf R_rowOf D_top D_nodes R_dataEnd VB_top VB_row R_textEnd R_texts D_forms D_counts D_numbers R_forms R_tags R_counts R_textsAt V_top V_kinds V_numbers V_parts V_links R_valueKinds R_valueNumbers R_from R_length R_given R_firstGiven R_secondGiven R_values'' R_nodeOf'' R_rowOf'' D_top'' D_nodes'' R_dataEnd'' VB_top'' VB_row'' R_textEnd'' R_texts'' D_forms'' D_counts'' D_numbers'' R_forms'' R_tags'' R_counts'' R_textsAt'' V_top'' V_kinds'' V_numbers'' V_parts'' V_links'' R_valueKinds'' R_valueNumbers'' R_from'' R_length'' R_given'' R_firstGiven'' R_secondGiven'' := by
  obtain ⟨a1, a2, a3, a4, a5, a6, a7, a8, a9, a10, a11, a12, a13, a14, a15, a16, a17, a18, a19, a20, a21, a22, a23, a24, a25, a26, a27, a28, a29⟩ := a
  obtain ⟨b1, b2, b3, b4, b5, b6, b7, b8, b9, b10, b11, b12, b13, b14, b15, b16, b17, b18, b19, b20, b21, b22, b23, b24, b25, b26, b27, b28, b29⟩ := b
  exact ⟨by omega, by omega, tw_GR_trans a3 a1 b3, tw_GR_trans a4 a2 b4, by omega, by omega, tw_GR_trans a7 a5 b7, tw_GR_trans a8 a5 b8, tw_GR_trans a9 a5 b9, tw_GR_trans a10 a5 b10, tw_GR_trans a11 a6 b11, tw_GR_trans a12 a6 b12, tw_GR_trans a13 a6 b13, tw_GR_trans a14 a6 b14, by omega, tw_GR_trans a16 a15 b16, tw_GR_trans a17 a15 b17, tw_GR_trans a18 a15 b18, tw_GR_trans a19 a15 b19, by omega, tw_GR_trans a21 a20 b21, tw_GR_trans a22 a20 b22, tw_GR_trans a23 a20 b23, tw_GR_trans a24 a20 b24, tw_GR_trans a25 a20 b25, tw_GR_trans a26 a20 b26, tw_GR_trans a27 a20 b27, tw_GR_trans a28 a20 b28, tw_GR_trans a29 a20 b29⟩
set_option maxRecDepth 100000 in
theorem tw_XV_new {ok : Int → Int → Int → Prop} {cs : Int → Prop} {ps : Int → Int} {nc : Int} {R_values : Int} {R_nodeOf : Int → Int} {R_rowOf : Int → Int} {D_top : Int} {D_nodes : Int → Int} {R_dataEnd : Int} {VB_top : Int} {VB_row : Int → Int} {R_textEnd : Int} {R_texts : Int → Int} {D_forms : Int → Int} {D_counts : Int → Int} {D_numbers : Int → Int} {R_forms : Int → Int} {R_tags : Int → Int} {R_counts : Int → Int} {R_textsAt : Int → Int} {V_top : Int} {V_kinds : Int → Int} {V_numbers : Int → Int} {V_parts : Int → Int} {V_links : Int → Int} {R_valueKinds : Int → Int} {R_valueNumbers : Int → Int} {R_from : Int → Int} {R_length : Int → Int} {R_given : Int → Int} {R_firstGiven : Int → Int} {R_secondGiven : Int → Int} {D_depths : Int → Int} {D_weights : Int → Int} {k n a b n2 : Int} {R_from' R_length' R_nodeOf' R_rowOf' R_given' R_firstGiven' R_secondGiven' : Int → Int} (h : tw_XV ok cs ps nc R_values R_nodeOf R_rowOf D_top D_nodes R_dataEnd VB_top VB_row R_textEnd R_texts D_forms D_counts D_numbers R_forms R_tags R_counts R_textsAt V_top V_kinds V_numbers V_parts V_links R_valueKinds R_valueNumbers R_from R_length R_given R_firstGiven R_secondGiven D_depths D_weights)
    (g23 : tw_GR R_values R_from R_from') (g24 : tw_GR R_values R_length R_length') (g25 : tw_GR R_values R_nodeOf R_nodeOf') (g26 : tw_GR R_values R_rowOf R_rowOf') (g27 : tw_GR R_values R_given R_given') (g28 : tw_GR R_values R_firstGiven R_firstGiven') (g29 : tw_GR R_values R_secondGiven R_secondGiven')
    (hv : tw_VR ok cs ps (R_values + 1) R_nodeOf' R_rowOf' D_top D_nodes R_dataEnd VB_top VB_row R_textEnd R_texts D_forms D_counts D_numbers R_forms R_tags R_counts R_textsAt (V_top + 1) (upZ V_kinds V_top k) (upZ V_numbers V_top n) (upZ V_parts V_top a) (upZ V_links V_top b) (upZ R_valueKinds R_values k) (upZ R_valueNumbers R_values n2) R_from' R_length' R_given' R_firstGiven' R_secondGiven' V_top) :
    tw_XV ok cs ps nc (R_values + 1) R_nodeOf' R_rowOf' D_top D_nodes R_dataEnd VB_top VB_row R_textEnd R_texts D_forms D_counts D_numbers R_forms R_tags R_counts R_textsAt (V_top + 1) (upZ V_kinds V_top k) (upZ V_numbers V_top n) (upZ V_parts V_top a) (upZ V_links V_top b) (upZ R_valueKinds R_values k) (upZ R_valueNumbers R_values n2) R_from' R_length' R_given' R_firstGiven' R_secondGiven' D_depths D_weights
    ∧ tw_GRV R_values R_nodeOf R_rowOf D_top D_nodes R_dataEnd VB_top VB_row R_textEnd R_texts D_forms D_counts D_numbers R_forms R_tags R_counts R_textsAt V_top V_kinds V_numbers V_parts V_links R_valueKinds R_valueNumbers R_from R_length R_given R_firstGiven R_secondGiven (R_values + 1) R_nodeOf' R_rowOf' D_top D_nodes R_dataEnd VB_top VB_row R_textEnd R_texts D_forms D_counts D_numbers R_forms R_tags R_counts R_textsAt (V_top + 1) (upZ V_kinds V_top k) (upZ V_numbers V_top n) (upZ V_parts V_top a) (upZ V_links V_top b) (upZ R_valueKinds R_values k) (upZ R_valueNumbers R_values n2) R_from' R_length' R_given' R_firstGiven' R_secondGiven'
    ∧ tw_vok cs (V_top + 1) V_top ∧ ps V_top = R_values := by
  obtain ⟨h1, h2, h3, h4, h5, h6, h7, h8, h9, h10, h11⟩ := h
  have g : tw_GRV R_values R_nodeOf R_rowOf D_top D_nodes R_dataEnd VB_top VB_row R_textEnd R_texts D_forms D_counts D_numbers R_forms R_tags R_counts R_textsAt V_top V_kinds V_numbers V_parts V_links R_valueKinds R_valueNumbers R_from R_length R_given R_firstGiven R_secondGiven (R_values + 1) R_nodeOf' R_rowOf' D_top D_nodes R_dataEnd VB_top VB_row R_textEnd R_texts D_forms D_counts D_numbers R_forms R_tags R_counts R_textsAt (V_top + 1) (upZ V_kinds V_top k) (upZ V_numbers V_top n) (upZ V_parts V_top a) (upZ V_links V_top b) (upZ R_valueKinds R_values k) (upZ R_valueNumbers R_values n2) R_from' R_length' R_given' R_firstGiven' R_secondGiven' :=
    ⟨Int.le_refl _, Int.le_refl _, tw_GR_refl, tw_GR_refl, Int.le_refl _, Int.le_refl _, tw_GR_refl, tw_GR_refl, tw_GR_refl, tw_GR_refl, tw_GR_refl, tw_GR_refl, tw_GR_refl, tw_GR_refl, by omega, tw_GR_up (by omega), tw_GR_up (by omega), tw_GR_up (by omega), tw_GR_up (by omega), by omega, tw_GR_up (by omega), tw_GR_up (by omega), g23, g24, g25, g26, g27, g28, g29⟩
  refine ⟨⟨?_, h2, by omega, h4, h5, h6, h7, h8, h9, by omega, h11⟩, g, ⟨by omega, by omega, fun z => by omega⟩, by rw [h11 _ (by omega)]; omega⟩
  intro p hp
  by_cases e : p = V_top
  · rw [e]; exact hv
  · exact tw_VAL_mono h1 (tw_DR_n h2) g (fun _ _ _ z => z) ⟨hp.1, by have := hp.2.1; omega, hp.2.2⟩
set_option maxRecDepth 100000 in
theorem tw_vmake {V_top k n a b : Int} {V_kinds V_numbers V_parts V_links : Int → Int} (h0 : 0 ≤ V_top) (h : V_top < 3201) : f_Values_make V_top V_kinds V_numbers V_parts V_links k n a b = some (V_top, V_top + 1, upZ V_kinds V_top k, upZ V_numbers V_top n, upZ V_parts V_top a, upZ V_links V_top b) := by
  unfold f_Values_make
  (first | refine tw_ite_t (by first | omega | (simp only [tw_gq]; omega)) ?_ | refine tw_ite_f (by first | omega | (simp only [tw_gq]; omega)) ?_)
  (first | refine tw_ite_t (by first | omega | (simp only [tw_gq]; omega)) ?_ | refine tw_ite_f (by first | omega | (simp only [tw_gq]; omega)) ?_)
  refine tw_ob4_t (a1 := upZ V_kinds V_top k) (a2 := upZ V_numbers V_top n) (a3 := upZ V_parts V_top a) (a4 := upZ V_links V_top b) ?_ rfl
  unfold f_Values_set
  (repeat (first | refine tw_ite_t (by first | omega | (simp only [tw_gq]; omega)) ?_ | refine tw_ite_f (by first | omega | (simp only [tw_gq]; omega)) ?_))
  rfl
set_option maxRecDepth 100000 in
theorem tw_rmake {R_values k n : Int} {R_valueKinds R_valueNumbers R_given : Int → Int} (h0 : 0 ≤ R_values) (h : R_values < 3700) : f_Mod_make R_values R_valueKinds R_valueNumbers R_given k n = some (R_values, R_values + 1, upZ R_valueKinds R_values k, upZ R_valueNumbers R_values n, upZ R_given R_values 0) := by
  unfold f_Mod_make
  (repeat (first | refine tw_ite_t (by first | omega | (simp only [tw_gq]; omega)) ?_ | refine tw_ite_f (by first | omega | (simp only [tw_gq]; omega)) ?_))
  rw [show R_values + 1 - 1 = R_values by omega]
set_option maxRecDepth 100000 in
theorem tw_new_val {ok : Int → Int → Int → Prop} {cs : Int → Prop} {ps : Int → Int} {nc : Int} {R_values : Int} {R_nodeOf : Int → Int} {R_rowOf : Int → Int} {D_top : Int} {D_nodes : Int → Int} {R_dataEnd : Int} {VB_top : Int} {VB_row : Int → Int} {R_textEnd : Int} {R_texts : Int → Int} {D_forms : Int → Int} {D_counts : Int → Int} {D_numbers : Int → Int} {R_forms : Int → Int} {R_tags : Int → Int} {R_counts : Int → Int} {R_textsAt : Int → Int} {V_top : Int} {V_kinds : Int → Int} {V_numbers : Int → Int} {V_parts : Int → Int} {V_links : Int → Int} {R_valueKinds : Int → Int} {R_valueNumbers : Int → Int} {R_from : Int → Int} {R_length : Int → Int} {R_given : Int → Int} {R_firstGiven : Int → Int} {R_secondGiven : Int → Int} {D_depths : Int → Int} {D_weights : Int → Int} {k n a b n2 : Int} {R_from' R_length' : Int → Int} (h : tw_XV ok cs ps nc R_values R_nodeOf R_rowOf D_top D_nodes R_dataEnd VB_top VB_row R_textEnd R_texts D_forms D_counts D_numbers R_forms R_tags R_counts R_textsAt V_top V_kinds V_numbers V_parts V_links R_valueKinds R_valueNumbers R_from R_length R_given R_firstGiven R_secondGiven D_depths D_weights) (g23 : tw_GR R_values R_from R_from') (g24 : tw_GR R_values R_length R_length') (hk : 0 ≤ k ∧ k ≤ 4) (hn : -9223372036854775808 ≤ n ∧ n ≤ 9223372036854775807) (c0 : k = 0 ∨ k = 2 → n = n2) (c2 : k = 2 → n = 0 ∨ n = 1)
    (c1 : k = 1 → b = R_length' R_values ∧ n2 = R_length' R_values ∧ tw_BB VB_top VB_row R_textEnd R_texts a (R_from' R_values) (R_length' R_values)) (c4 : k = 4 → R_length' R_values = D_nodes a ∧ tw_DD D_top D_nodes R_dataEnd VB_top VB_row R_textEnd R_texts D_forms D_counts D_numbers R_forms R_tags R_counts R_textsAt a (R_from' R_values)) :
    tw_XV ok cs ps nc (R_values + 1) R_nodeOf R_rowOf D_top D_nodes R_dataEnd VB_top VB_row R_textEnd R_texts D_forms D_counts D_numbers R_forms R_tags R_counts R_textsAt (V_top + 1) (upZ V_kinds V_top k) (upZ V_numbers V_top n) (upZ V_parts V_top a) (upZ V_links V_top b) (upZ R_valueKinds R_values k) (upZ R_valueNumbers R_values n2) R_from' R_length' (upZ R_given R_values 0) R_firstGiven R_secondGiven D_depths D_weights
    ∧ tw_GRV R_values R_nodeOf R_rowOf D_top D_nodes R_dataEnd VB_top VB_row R_textEnd R_texts D_forms D_counts D_numbers R_forms R_tags R_counts R_textsAt V_top V_kinds V_numbers V_parts V_links R_valueKinds R_valueNumbers R_from R_length R_given R_firstGiven R_secondGiven (R_values + 1) R_nodeOf R_rowOf D_top D_nodes R_dataEnd VB_top VB_row R_textEnd R_texts D_forms D_counts D_numbers R_forms R_tags R_counts R_textsAt (V_top + 1) (upZ V_kinds V_top k) (upZ V_numbers V_top n) (upZ V_parts V_top a) (upZ V_links V_top b) (upZ R_valueKinds R_values k) (upZ R_valueNumbers R_values n2) R_from' R_length' (upZ R_given R_values 0) R_firstGiven R_secondGiven
    ∧ tw_vok cs (V_top + 1) V_top ∧ ps V_top = R_values := by
  have h3 := h.2.2.1
  have h8 := h.2.2.2.2.2.2.2.1
  have h10 := h.2.2.2.2.2.2.2.2.2.1
  have h11 := h.2.2.2.2.2.2.2.2.2.2 V_top h3
  have ep : ps V_top = R_values := by omega
  refine tw_XV_new h g23 g24 tw_GR_refl tw_GR_refl (tw_GR_up (by omega)) tw_GR_refl tw_GR_refl ?_
  unfold tw_VR tw_OB
  simp only [ep, tw_upS]
  refine ⟨by omega, by omega, ⟨trivial, hk.1, by omega, hn, fun z => ?_, c2, fun z => by omega, c1, c4⟩, fun z => by omega, fun z => by omega⟩
  exact c0 (by omega)
set_option maxRecDepth 100000 in
theorem tw_vK {V_top p : Int} {f : Int → Int} (h0 : 0 ≤ p) (h1 : p < V_top) (ht : V_top ≤ 3201) : f_Values_kindOf V_top f p = some (f p) := by
  unfold f_Values_kindOf; (repeat (first | refine tw_ite_t (by first | omega | (simp only [tw_gq]; omega)) ?_ | refine tw_ite_f (by first | omega | (simp only [tw_gq]; omega)) ?_)); rfl
set_option maxRecDepth 100000 in
theorem tw_vN {V_top p : Int} {f : Int → Int} (h0 : 0 ≤ p) (h1 : p < V_top) (ht : V_top ≤ 3201) : f_Values_numberOf V_top f p = some (f p) := by
  unfold f_Values_numberOf; (repeat (first | refine tw_ite_t (by first | omega | (simp only [tw_gq]; omega)) ?_ | refine tw_ite_f (by first | omega | (simp only [tw_gq]; omega)) ?_)); rfl
set_option maxRecDepth 100000 in
theorem tw_vP {V_top p : Int} {f : Int → Int} (h0 : 0 ≤ p) (h1 : p < V_top) (ht : V_top ≤ 3201) : f_Values_partOf V_top f p = some (f p) := by
  unfold f_Values_partOf; (repeat (first | refine tw_ite_t (by first | omega | (simp only [tw_gq]; omega)) ?_ | refine tw_ite_f (by first | omega | (simp only [tw_gq]; omega)) ?_)); rfl
set_option maxRecDepth 100000 in
theorem tw_vL {V_top p : Int} {f : Int → Int} (h0 : 0 ≤ p) (h1 : p < V_top) (ht : V_top ≤ 3201) : f_Values_linkOf V_top f p = some (f p) := by
  unfold f_Values_linkOf; (repeat (first | refine tw_ite_t (by first | omega | (simp only [tw_gq]; omega)) ?_ | refine tw_ite_f (by first | omega | (simp only [tw_gq]; omega)) ?_)); rfl
set_option maxRecDepth 100000 in
theorem tw_vSt {V_top p : Int} {f : Int → Int} (h0 : 0 ≤ p) (h1 : p < V_top) (ht : V_top ≤ 3201) : f_Values_startOf V_top f p = some (f p) := tw_bind_t (tw_vP h0 h1 ht) rfl
set_option maxRecDepth 100000 in
theorem tw_vRo {V_top p : Int} {f : Int → Int} (h0 : 0 ≤ p) (h1 : p < V_top) (ht : V_top ≤ 3201) : f_Values_rootOf V_top f p = some (f p) := tw_bind_t (tw_vP h0 h1 ht) rfl
set_option maxRecDepth 100000 in
theorem tw_vBo {V_top p : Int} {f : Int → Int} (h0 : 0 ≤ p) (h1 : p < V_top) (ht : V_top ≤ 3201) : f_Values_bodyOf V_top f p = some (f p) := tw_bind_t (tw_vP h0 h1 ht) rfl
set_option maxRecDepth 100000 in
theorem tw_vAr {V_top p : Int} {f : Int → Int} (h0 : 0 ≤ p) (h1 : p < V_top) (ht : V_top ≤ 3201) : f_Values_argumentOf V_top f p = some (f p) := tw_bind_t (tw_vP h0 h1 ht) rfl
set_option maxRecDepth 100000 in
theorem tw_vLe {V_top p : Int} {f : Int → Int} (h0 : 0 ≤ p) (h1 : p < V_top) (ht : V_top ≤ 3201) : f_Values_lengthOf V_top f p = some (f p) := tw_bind_t (tw_vL h0 h1 ht) rfl
set_option maxRecDepth 100000 in
theorem tw_vSc {V_top p : Int} {f : Int → Int} (h0 : 0 ≤ p) (h1 : p < V_top) (ht : V_top ≤ 3201) : f_Values_scopeOf V_top f p = some (f p) := tw_bind_t (tw_vL h0 h1 ht) rfl
set_option maxRecDepth 100000 in
theorem tw_vBe {V_top p : Int} {f : Int → Int} (h0 : 0 ≤ p) (h1 : p < V_top) (ht : V_top ≤ 3201) : f_Values_beforeOf V_top f p = some (f p) := tw_bind_t (tw_vL h0 h1 ht) rfl
set_option maxRecDepth 100000 in
theorem tw_CO_DD {D_top : Int} {D_nodes : Int → Int} {R_dataEnd : Int} {VB_top : Int} {VB_row : Int → Int} {R_textEnd : Int} {R_texts : Int → Int} {D_forms : Int → Int} {D_counts : Int → Int} {D_numbers : Int → Int} {R_forms : Int → Int} {R_tags : Int → Int} {R_counts : Int → Int} {R_textsAt : Int → Int} {q d : Int} (h : tw_DD D_top D_nodes R_dataEnd VB_top VB_row R_textEnd R_texts D_forms D_counts D_numbers R_forms R_tags R_counts R_textsAt q d) (hd : R_dataEnd ≤ 5000) : tw_CO D_forms D_counts R_forms R_counts q d (D_nodes q) := by
  obtain ⟨a1, a2, a3, a4, a5⟩ := h
  exact ⟨a3, by omega, fun k k0 k1 => ⟨(a5 k k0 k1).1, (a5 k k0 k1).2.1⟩⟩
set_option maxRecDepth 100000 in
theorem tw_vSz {ok : Int → Int → Int → Prop} {cs : Int → Prop} {ps : Int → Int} {nc : Int} {R_values : Int} {R_nodeOf : Int → Int} {R_rowOf : Int → Int} {D_top : Int} {D_nodes : Int → Int} {R_dataEnd : Int} {VB_top : Int} {VB_row : Int → Int} {R_textEnd : Int} {R_texts : Int → Int} {D_forms : Int → Int} {D_counts : Int → Int} {D_numbers : Int → Int} {R_forms : Int → Int} {R_tags : Int → Int} {R_counts : Int → Int} {R_textsAt : Int → Int} {V_top : Int} {V_kinds : Int → Int} {V_numbers : Int → Int} {V_parts : Int → Int} {V_links : Int → Int} {R_valueKinds : Int → Int} {R_valueNumbers : Int → Int} {R_from : Int → Int} {R_length : Int → Int} {R_given : Int → Int} {R_firstGiven : Int → Int} {R_secondGiven : Int → Int} {D_depths : Int → Int} {D_weights : Int → Int} {p : Int} (h : tw_XV ok cs ps nc R_values R_nodeOf R_rowOf D_top D_nodes R_dataEnd VB_top VB_row R_textEnd R_texts D_forms D_counts D_numbers R_forms R_tags R_counts R_textsAt V_top V_kinds V_numbers V_parts V_links R_valueKinds R_valueNumbers R_from R_length R_given R_firstGiven R_secondGiven D_depths D_weights) (hp : tw_vok cs V_top p) (ht : V_top ≤ 3201) (hD : D_top ≤ 3201) : f_Values_sizeOf V_top V_kinds V_parts V_links D_top D_nodes D_weights p = some (tw_SZ V_kinds V_parts V_links D_nodes D_weights p) ∧ 1 ≤ tw_SZ V_kinds V_parts V_links D_nodes D_weights p ∧ tw_SZ V_kinds V_parts V_links D_nodes D_weights p ≤ 2000 := by
  obtain ⟨p0, p1, -⟩ := id hp
  obtain ⟨-, -, ⟨o1, o2, o3, o4, o5, o6, o7, o8, o9⟩, -⟩ := h.1 p hp
  unfold f_Values_sizeOf tw_SZ
  by_cases k1 : V_kinds p = 1
  · obtain ⟨b1, b2, b3⟩ := o8 k1
    have b4 := b3.1
    have b5 := b3.2.1
    clear o5 o6 o7 o8 o9
    rw [if_pos k1]
    refine ⟨?_, by omega, by omega⟩
    refine tw_bind_t (tw_vK p0 p1 ht) ?_
    (first | refine tw_ite_t (by first | omega | (simp only [tw_gq]; omega)) ?_ | refine tw_ite_f (by first | omega | (simp only [tw_gq]; omega)) ?_)
    (first | refine tw_ite_t (by first | omega | (simp only [tw_gq]; omega)) ?_ | refine tw_ite_f (by first | omega | (simp only [tw_gq]; omega)) ?_)
    refine tw_bind_t (tw_vLe p0 p1 ht) ?_
    (first | refine tw_ite_t (by first | omega | (simp only [tw_gq]; omega)) ?_ | refine tw_ite_f (by first | omega | (simp only [tw_gq]; omega)) ?_)
    rw [Int.tdiv_eq_ediv_of_nonneg (by omega)]
  · by_cases k4 : V_kinds p = 4
    · obtain ⟨b1, b2⟩ := o9 k4
      have d := h.2.1 (V_parts p) b2.1 b2.2.1
      have d1 := d.1
      have d3 := d.2.2.1
      have w0 := d.2.2.2.2.2.2.2.2.2.1
      have w1 := d.2.2.2.2.2.2.2.2.2.2.1
      clear o5 o6 o7 o8 o9
      rw [if_neg k1, if_pos k4]
      refine ⟨?_, by omega, by omega⟩
      refine tw_bind_t (tw_vK p0 p1 ht) ?_
      (first | refine tw_ite_t (by first | omega | (simp only [tw_gq]; omega)) ?_ | refine tw_ite_f (by first | omega | (simp only [tw_gq]; omega)) ?_)
      (first | refine tw_ite_t (by first | omega | (simp only [tw_gq]; omega)) ?_ | refine tw_ite_f (by first | omega | (simp only [tw_gq]; omega)) ?_)
      (first | refine tw_ite_t (by first | omega | (simp only [tw_gq]; omega)) ?_ | refine tw_ite_f (by first | omega | (simp only [tw_gq]; omega)) ?_)
      refine tw_bind_t (tw_vRo p0 p1 ht) ?_
      refine tw_bind_t (tw_dS_in b2.1 b2.2.1 hD w0 (by omega)) ?_
      rfl
    · clear o5 o6 o7 o8 o9
      rw [if_neg k1, if_neg k4]
      refine ⟨?_, by omega, by omega⟩
      refine tw_bind_t (tw_vK p0 p1 ht) ?_
      (first | refine tw_ite_t (by first | omega | (simp only [tw_gq]; omega)) ?_ | refine tw_ite_f (by first | omega | (simp only [tw_gq]; omega)) ?_)
      (first | refine tw_ite_t (by first | omega | (simp only [tw_gq]; omega)) ?_ | refine tw_ite_f (by first | omega | (simp only [tw_gq]; omega)) ?_)
      (first | refine tw_ite_t (by first | omega | (simp only [tw_gq]; omega)) ?_ | refine tw_ite_f (by first | omega | (simp only [tw_gq]; omega)) ?_)
      rfl
set_option maxRecDepth 100000 in
theorem tw_rSz {ok : Int → Int → Int → Prop} {cs : Int → Prop} {ps : Int → Int} {nc : Int} {R_values : Int} {R_nodeOf : Int → Int} {R_rowOf : Int → Int} {D_top : Int} {D_nodes : Int → Int} {R_dataEnd : Int} {VB_top : Int} {VB_row : Int → Int} {R_textEnd : Int} {R_texts : Int → Int} {D_forms : Int → Int} {D_counts : Int → Int} {D_numbers : Int → Int} {R_forms : Int → Int} {R_tags : Int → Int} {R_counts : Int → Int} {R_textsAt : Int → Int} {V_top : Int} {V_kinds : Int → Int} {V_numbers : Int → Int} {V_parts : Int → Int} {V_links : Int → Int} {R_valueKinds : Int → Int} {R_valueNumbers : Int → Int} {R_from : Int → Int} {R_length : Int → Int} {R_given : Int → Int} {R_firstGiven : Int → Int} {R_secondGiven : Int → Int} {D_depths : Int → Int} {D_weights : Int → Int} {p : Int} (h : tw_XV ok cs ps nc R_values R_nodeOf R_rowOf D_top D_nodes R_dataEnd VB_top VB_row R_textEnd R_texts D_forms D_counts D_numbers R_forms R_tags R_counts R_textsAt V_top V_kinds V_numbers V_parts V_links R_valueKinds R_valueNumbers R_from R_length R_given R_firstGiven R_secondGiven D_depths D_weights) (hp : tw_vok cs V_top p) (hv : R_values ≤ 3700) (hd : R_dataEnd ≤ 5000) {N : Nat} (hN : 201 ≤ N) : f_Mod_sizeOf N R_valueKinds R_from R_length R_forms R_counts (ps p) = some (tw_SZ V_kinds V_parts V_links D_nodes D_weights p) := by
  obtain ⟨v0, v1, ⟨o1, o2, o3, o4, o5, o6, o7, o8, o9⟩, -⟩ := h.1 p hp
  unfold f_Mod_sizeOf tw_SZ
  by_cases k1 : V_kinds p = 1
  · obtain ⟨b1, b2, b3⟩ := o8 k1
    have b4 := b3.1
    have b5 := b3.2.1
    clear o5 o6 o7 o8 o9
    rw [if_pos k1, b1]
    (first | refine tw_ite_t (by first | omega | (simp only [tw_gq]; omega)) ?_ | refine tw_ite_f (by first | omega | (simp only [tw_gq]; omega)) ?_)
    (first | refine tw_ite_t (by first | omega | (simp only [tw_gq]; omega)) ?_ | refine tw_ite_f (by first | omega | (simp only [tw_gq]; omega)) ?_)
    (first | refine tw_ite_t (by first | omega | (simp only [tw_gq]; omega)) ?_ | refine tw_ite_f (by first | omega | (simp only [tw_gq]; omega)) ?_)
    (first | refine tw_ite_t (by first | omega | (simp only [tw_gq]; omega)) ?_ | refine tw_ite_f (by first | omega | (simp only [tw_gq]; omega)) ?_)
    (first | refine tw_ite_t (by first | omega | (simp only [tw_gq]; omega)) ?_ | refine tw_ite_f (by first | omega | (simp only [tw_gq]; omega)) ?_)
    rw [Int.tdiv_eq_ediv_of_nonneg (by omega)]
  · by_cases k4 : V_kinds p = 4
    · obtain ⟨b1, b2⟩ := o9 k4
      have d := h.2.1 (V_parts p) b2.1 b2.2.1
      have w0 := d.2.2.2.2.2.2.2.2.2.1
      have w1 := d.2.2.2.2.2.2.2.2.2.2.1
      have d3 := d.2.2.1
      clear o5 o6 o7 o8 o9
      rw [if_neg k1, if_pos k4]
      (first | refine tw_ite_t (by first | omega | (simp only [tw_gq]; omega)) ?_ | refine tw_ite_f (by first | omega | (simp only [tw_gq]; omega)) ?_)
      (first | refine tw_ite_t (by first | omega | (simp only [tw_gq]; omega)) ?_ | refine tw_ite_f (by first | omega | (simp only [tw_gq]; omega)) ?_)
      (first | refine tw_ite_t (by first | omega | (simp only [tw_gq]; omega)) ?_ | refine tw_ite_f (by first | omega | (simp only [tw_gq]; omega)) ?_)
      (first | refine tw_ite_t (by first | omega | (simp only [tw_gq]; omega)) ?_ | refine tw_ite_f (by first | omega | (simp only [tw_gq]; omega)) ?_)
      (first | refine tw_ite_t (by first | omega | (simp only [tw_gq]; omega)) ?_ | refine tw_ite_f (by first | omega | (simp only [tw_gq]; omega)) ?_)
      (first | refine tw_ite_t (by first | omega | (simp only [tw_gq]; omega)) ?_ | refine tw_ite_f (by first | omega | (simp only [tw_gq]; omega)) ?_)
      (first | refine tw_ite_t (by first | omega | (simp only [tw_gq]; omega)) ?_ | refine tw_ite_f (by first | omega | (simp only [tw_gq]; omega)) ?_)
      (first | refine tw_ite_t (by first | omega | (simp only [tw_gq]; omega)) ?_ | refine tw_ite_f (by first | omega | (simp only [tw_gq]; omega)) ?_)
      (first | refine tw_ite_t (by first | omega | (simp only [tw_gq]; omega)) ?_ | refine tw_ite_f (by first | omega | (simp only [tw_gq]; omega)) ?_)
      rw [b1]
      refine tw_bind_t (tw_bytes_ok h.2.1 b2.1 b2.2.1 (tw_CO_DD b2 hd) hN) ?_
      (first | refine tw_ite_t (by first | omega | (simp only [tw_gq]; omega)) ?_ | refine tw_ite_f (by first | omega | (simp only [tw_gq]; omega)) ?_)
      rw [Int.tdiv_eq_ediv_of_nonneg w0]
    · clear o5 o6 o7 o8 o9
      rw [if_neg k1, if_neg k4]
      (first | refine tw_ite_t (by first | omega | (simp only [tw_gq]; omega)) ?_ | refine tw_ite_f (by first | omega | (simp only [tw_gq]; omega)) ?_)
      (first | refine tw_ite_t (by first | omega | (simp only [tw_gq]; omega)) ?_ | refine tw_ite_f (by first | omega | (simp only [tw_gq]; omega)) ?_)
      (first | refine tw_ite_t (by first | omega | (simp only [tw_gq]; omega)) ?_ | refine tw_ite_f (by first | omega | (simp only [tw_gq]; omega)) ?_)
      (first | refine tw_ite_t (by first | omega | (simp only [tw_gq]; omega)) ?_ | refine tw_ite_f (by first | omega | (simp only [tw_gq]; omega)) ?_)
      (first | refine tw_ite_t (by first | omega | (simp only [tw_gq]; omega)) ?_ | refine tw_ite_f (by first | omega | (simp only [tw_gq]; omega)) ?_)
      (first | refine tw_ite_t (by first | omega | (simp only [tw_gq]; omega)) ?_ | refine tw_ite_f (by first | omega | (simp only [tw_gq]; omega)) ?_)
      rfl
set_option maxRecDepth 100000 in
theorem tw_w64_eq (z : Int) : j_w64 z = (z + 9223372036854775808) % 18446744073709551616 - 9223372036854775808 := by
  unfold j_w64; rw [tw_zL_toInt, tw_bm64]
set_option maxRecDepth 100000 in
theorem tw_tm_facts (x y : Int) (hy : ¬ y = 0) : ∃ m, Int.tdiv x y * y = x - m ∧ (0 ≤ x → 0 ≤ m ∧ m ≤ x) ∧ (x ≤ 0 → x ≤ m ∧ m ≤ 0) ∧ (0 < y → -y < m ∧ m < y) ∧ (y < 0 → y < m ∧ m < -y) := by
  refine ⟨Int.tmod x y, ?_, ?_, ?_, ?_, ?_⟩
  · have := Int.tdiv_mul_add_tmod x y; omega
  · intro h
    have h1 := Int.tmod_nonneg (a := x) y h
    have h2 := Int.natAbs_tmod x y
    have h3 := Nat.mod_le x.natAbs y.natAbs
    omega
  · intro h
    have h2 := Int.natAbs_tmod x y
    have h3 := Nat.mod_le x.natAbs y.natAbs
    have h1 := Int.tmod_nonneg (a := -x) y (by omega)
    rw [Int.neg_tmod] at h1
    omega
  · intro h
    have h2 := Int.natAbs_tmod x y
    have h3 := Nat.mod_lt x.natAbs (show 0 < y.natAbs by omega)
    omega
  · intro h
    have h2 := Int.natAbs_tmod x y
    have h3 := Nat.mod_lt x.natAbs (show 0 < y.natAbs by omega)
    omega
set_option maxRecDepth 100000 in
theorem tw_td_facts (x y : Int) (hx : -9223372036854775808 ≤ x ∧ x ≤ 9223372036854775807) (hy : ¬ y = 0) : (¬ (y = 1 ∨ y = -1) → -4611686018427387904 ≤ Int.tdiv x y ∧ Int.tdiv x y ≤ 4611686018427387904) ∧ (y = 1 → Int.tdiv x y = x) ∧ (y = -1 → Int.tdiv x y = -x) := by
  refine ⟨?_, ?_, ?_⟩
  · intro h
    have h1 : (Int.tdiv x y).natAbs = x.natAbs / y.natAbs := Int.natAbs_tdiv x y
    have h2 : x.natAbs / y.natAbs ≤ x.natAbs / 2 := Nat.div_le_div_left (by omega) (by omega)
    generalize x.natAbs / y.natAbs = w at *
    generalize Int.tdiv x y = d at *
    omega
  · intro h; rw [h]; exact Int.tdiv_one x
  · intro h; rw [h, Int.tdiv_neg, Int.tdiv_one]
set_option maxRecDepth 100000 in
theorem tw_prod_iff {x y : Int} (hx : -9223372036854775808 ≤ x ∧ x ≤ 9223372036854775807) (hy : -9223372036854775808 ≤ y ∧ y ≤ 9223372036854775807) (h0 : ¬ y = 0) (h1 : ¬ y = -1) : Int.tdiv (j_w64 (x * y)) y = x ↔ (-9223372036854775808 ≤ x * y ∧ x * y ≤ 9223372036854775807) := by
  have hw := tw_w64_eq (x * y)
  constructor
  · intro h
    obtain ⟨m, e, -, -, m1, m2⟩ := tw_tm_facts (j_w64 (x * y)) y h0
    rw [h] at e
    generalize x * y = z at *
    omega
  · intro h
    have : j_w64 (x * y) = x * y := by generalize x * y = z at *; omega
    rw [this]
    exact Int.mul_tdiv_cancel x h0
set_option maxRecDepth 100000 in
theorem tw_w64_r (z : Int) : -9223372036854775808 ≤ j_w64 z ∧ j_w64 z ≤ 9223372036854775807 := by have := tw_w64_eq z; omega
set_option maxRecDepth 100000 in
theorem tw_xor_nn {x y : Int} (hx : -9223372036854775808 ≤ x ∧ x ≤ 9223372036854775807) (hy : -9223372036854775808 ≤ y ∧ y ≤ 9223372036854775807) : (0 ≤ j_lxor x y ↔ (x < 0 ↔ y < 0)) ∧ -9223372036854775808 ≤ j_lxor x y ∧ j_lxor x y ≤ 9223372036854775807 := by
  have r := fun (a : Int) (ha : -9223372036854775808 ≤ a ∧ a ≤ 9223372036854775807) => show (zL a).toInt = a by rw [tw_zL_toInt, tw_bm64]; omega
  have m := fun (a : Int) (ha : -9223372036854775808 ≤ a ∧ a ≤ 9223372036854775807) => show (zL a).toBitVec.msb = decide (a < 0) by
    rw [BitVec.msb_eq_toInt, Int64.toInt_toBitVec, r a ha]
  have z : j_lxor x y = ((zL x).toBitVec ^^^ (zL y).toBitVec).toInt := by unfold j_lxor; rw [← Int64.toInt_toBitVec, Int64.toBitVec_xor]
  have w := BitVec.msb_eq_toInt (x := (zL x).toBitVec ^^^ (zL y).toBitVec)
  rw [BitVec.msb_xor, m x hx, m y hy] at w
  have b1 := BitVec.le_toInt ((zL x).toBitVec ^^^ (zL y).toBitVec)
  have b2 := BitVec.toInt_lt (x := (zL x).toBitVec ^^^ (zL y).toBitVec)
  rw [← z] at b1 b2 w
  refine ⟨?_, by omega, by omega⟩
  by_cases c1 : x < 0 <;> by_cases c2 : y < 0 <;> simp only [c1, c2, decide_true, decide_false, Bool.xor_self, Bool.xor_false, Bool.xor_true, Bool.not_false, Bool.not_true] at w
  all_goals (have w' := w; clear w; simp at w'; simp only [c1, c2]; simp; omega)
set_option maxRecDepth 100000 in
abbrev tw_fits64 (z : Int) : Prop := -9223372036854775808 ≤ z ∧ z ≤ 9223372036854775807
set_option maxRecDepth 100000 in
def tw_flr (x y : Int) : Int := if x - Int.tdiv x y * y = 0 ∨ (x < 0 ↔ y < 0) then Int.tdiv x y else Int.tdiv x y - 1
set_option maxRecDepth 100000 in
def tw_flm (x y : Int) : Int := if x - Int.tdiv x y * y = 0 ∨ (x < 0 ↔ y < 0) then x - Int.tdiv x y * y else x - Int.tdiv x y * y + y
set_option maxRecDepth 100000 in
def tw_iop (op x y : Int) : Option (Int × Int) :=
  if op = 0 then (if tw_fits64 (x + y) then some (0, x + y) else none)
  else if op = 1 then (if tw_fits64 (x - y) then some (0, x - y) else none)
  else if op = 2 then (if tw_fits64 (x * y) then some (0, x * y) else none)
  else if op = 3 then (if y = 0 ∨ (y = -1 ∧ x = -9223372036854775808) then none else some (0, tw_flr x y))
  else if op = 4 then (if y = 0 then none else some (0, tw_flm x y))
  else if op = 5 then (if y = 0 ∨ (y = -1 ∧ x = -9223372036854775808) then none else some (0, Int.tdiv x y))
  else if op = 6 then (if y = 0 then none else some (0, x - Int.tdiv x y * y))
  else if op = 7 then some (2, if x = y then 1 else 0)
  else if op = 8 then some (2, if x < y then 1 else 0)
  else some (2, if x ≤ y then 1 else 0)
set_option maxRecDepth 100000 in
theorem tw_vOI {V_top n : Int} {V_kinds V_numbers V_parts V_links : Int → Int} (h0 : 0 ≤ V_top) (h : V_top < 3201) : f_Values_ofInteger V_top V_kinds V_numbers V_parts V_links n = some (V_top, V_top + 1, upZ V_kinds V_top 0, upZ V_numbers V_top n, upZ V_parts V_top (-1), upZ V_links V_top (-1)) := tw_ob6_t (tw_vmake h0 h) rfl
set_option maxRecDepth 100000 in
theorem tw_vOT {V_top n : Int} {V_kinds V_numbers V_parts V_links : Int → Int} (h0 : 0 ≤ V_top) (h : V_top < 3201) (hn : n = 0 ∨ n = 1) : f_Values_ofTruth V_top V_kinds V_numbers V_parts V_links n = some (V_top, V_top + 1, upZ V_kinds V_top 2, upZ V_numbers V_top n, upZ V_parts V_top (-1), upZ V_links V_top (-1)) := by
  unfold f_Values_ofTruth
  rcases hn with e | e
  · subst e; (first | refine tw_ite_t (by first | omega | (simp only [tw_gq]; omega)) ?_ | refine tw_ite_f (by first | omega | (simp only [tw_gq]; omega)) ?_); (first | refine tw_ite_t (by first | omega | (simp only [tw_gq]; omega)) ?_ | refine tw_ite_f (by first | omega | (simp only [tw_gq]; omega)) ?_); exact tw_ob6_t (tw_vmake h0 h) rfl
  · subst e; (first | refine tw_ite_t (by first | omega | (simp only [tw_gq]; omega)) ?_ | refine tw_ite_f (by first | omega | (simp only [tw_gq]; omega)) ?_); (first | refine tw_ite_t (by first | omega | (simp only [tw_gq]; omega)) ?_ | refine tw_ite_f (by first | omega | (simp only [tw_gq]; omega)) ?_); exact tw_ob6_t (tw_vmake h0 h) rfl
set_option maxRecDepth 100000 in
theorem tw_vOB {V_top a n : Int} {V_kinds V_numbers V_parts V_links : Int → Int} (h0 : 0 ≤ V_top) (h : V_top < 3201) : f_Values_ofBytes V_top V_kinds V_numbers V_parts V_links a n = some (V_top, V_top + 1, upZ V_kinds V_top 1, upZ V_numbers V_top 0, upZ V_parts V_top a, upZ V_links V_top n) := tw_ob6_t (tw_vmake h0 h) rfl
set_option maxRecDepth 100000 in
theorem tw_vOD {V_top q : Int} {V_kinds V_numbers V_parts V_links : Int → Int} (h0 : 0 ≤ V_top) (h : V_top < 3201) (hq : 0 ≤ q ∧ q < 3201) : f_Values_ofData V_top V_kinds V_numbers V_parts V_links q = some (V_top, V_top + 1, upZ V_kinds V_top 4, upZ V_numbers V_top 0, upZ V_parts V_top q, upZ V_links V_top (-1)) := by
  unfold f_Values_ofData
  (first | refine tw_ite_t (by first | omega | (simp only [tw_gq]; omega)) ?_ | refine tw_ite_f (by first | omega | (simp only [tw_gq]; omega)) ?_)
  (first | refine tw_ite_t (by first | omega | (simp only [tw_gq]; omega)) ?_ | refine tw_ite_f (by first | omega | (simp only [tw_gq]; omega)) ?_)
  exact tw_ob6_t (tw_vmake h0 h) rfl
set_option maxRecDepth 100000 in
theorem tw_vODn {V_top : Int} {V_kinds V_numbers V_parts V_links : Int → Int} : f_Values_ofData V_top V_kinds V_numbers V_parts V_links (-1) = some (-1, V_top, V_kinds, V_numbers, V_parts, V_links) := rfl
set_option maxRecDepth 100000 in
theorem tw_rTr {R_values n : Int} {R_valueKinds R_valueNumbers R_given : Int → Int} (h0 : 0 ≤ R_values) (h : R_values < 3700) (hn : n = 0 ∨ n = 1) : f_Mod_truth R_values R_valueKinds R_valueNumbers R_given n = some (R_values, R_values + 1, upZ R_valueKinds R_values 2, upZ R_valueNumbers R_values n, upZ R_given R_values 0) := by
  unfold f_Mod_truth
  rcases hn with e | e
  · subst e; (first | refine tw_ite_t (by first | omega | (simp only [tw_gq]; omega)) ?_ | refine tw_ite_f (by first | omega | (simp only [tw_gq]; omega)) ?_); (first | refine tw_ite_t (by first | omega | (simp only [tw_gq]; omega)) ?_ | refine tw_ite_f (by first | omega | (simp only [tw_gq]; omega)) ?_); exact tw_ob5_t (tw_rmake h0 h) rfl
  · subst e; (first | refine tw_ite_t (by first | omega | (simp only [tw_gq]; omega)) ?_ | refine tw_ite_f (by first | omega | (simp only [tw_gq]; omega)) ?_); (first | refine tw_ite_t (by first | omega | (simp only [tw_gq]; omega)) ?_ | refine tw_ite_f (by first | omega | (simp only [tw_gq]; omega)) ?_); exact tw_ob5_t (tw_rmake h0 h) rfl
set_option maxRecDepth 100000 in
theorem tw_fail_ok {R_fault w : Int} (h : R_fault = 0) : f_Mod_fail R_fault w = some (0, w) := by
  unfold f_Mod_fail; subst h; first | rfl | ((repeat (first | refine tw_ite_t (by first | omega | (simp only [tw_gq]; omega)) ?_ | refine tw_ite_f (by first | omega | (simp only [tw_gq]; omega)) ?_)); rfl)
set_option maxRecDepth 100000 in
theorem tw_sumF {x y : Int} (hx : tw_fits64 x) (hy : tw_fits64 y) : f_Builtins_sumFits x y = some (if tw_fits64 (x + y) then 1 else 0) := by
  unfold tw_fits64 at *; unfold f_Builtins_sumFits
  (repeat' (first | (first | refine tw_ite_t (by first | omega | (simp only [tw_gq]; omega)) ?_ | refine tw_ite_f (by first | omega | (simp only [tw_gq]; omega)) ?_) | refine tw_ite_s (fun _ => ?_) (fun _ => ?_))) <;> first | (rw [if_pos (by omega)]; done) | (rw [if_neg (by omega)]; done)
set_option maxRecDepth 100000 in
theorem tw_difF {x y : Int} (hx : tw_fits64 x) (hy : tw_fits64 y) : f_Builtins_differenceFits x y = some (if tw_fits64 (x - y) then 1 else 0) := by
  unfold tw_fits64 at *; unfold f_Builtins_differenceFits
  (repeat' (first | (first | refine tw_ite_t (by first | omega | (simp only [tw_gq]; omega)) ?_ | refine tw_ite_f (by first | omega | (simp only [tw_gq]; omega)) ?_) | refine tw_ite_s (fun _ => ?_) (fun _ => ?_))) <;> first | (rw [if_pos (by omega)]; done) | (rw [if_neg (by omega)]; done)
set_option maxRecDepth 100000 in
theorem tw_quoF {x y : Int} (hx : tw_fits64 x) (hy : tw_fits64 y) : f_Builtins_quotientFits x y = some (if y = 0 ∨ (y = -1 ∧ x = -9223372036854775808) then 0 else 1) := by
  unfold tw_fits64 at *; unfold f_Builtins_quotientFits
  (repeat' (first | (first | refine tw_ite_t (by first | omega | (simp only [tw_gq]; omega)) ?_ | refine tw_ite_f (by first | omega | (simp only [tw_gq]; omega)) ?_) | refine tw_ite_s (fun _ => ?_) (fun _ => ?_))) <;> first | (rw [if_pos (by omega)]; done) | (rw [if_neg (by omega)]; done)
set_option maxRecDepth 100000 in
theorem tw_proF {x y : Int} (hx : tw_fits64 x) (hy : tw_fits64 y) : f_Builtins_productFits x y = some (if tw_fits64 (x * y) then 1 else 0) := by
  have hp := tw_prod_iff hx hy
  have hw := tw_w64_r (x * y)
  have hx' : -9223372036854775808 ≤ x ∧ x ≤ 9223372036854775807 := hx
  have hy' : -9223372036854775808 ≤ y ∧ y ≤ 9223372036854775807 := hy
  unfold f_Builtins_productFits
  by_cases y0 : y = 0
  · have : tw_fits64 (x * y) := by rw [y0, Int.mul_zero]; unfold tw_fits64; omega
    rw [if_pos this]; (first | refine tw_ite_t (by first | omega | (simp only [tw_gq]; omega)) ?_ | refine tw_ite_f (by first | omega | (simp only [tw_gq]; omega)) ?_); (first | refine tw_ite_t (by first | omega | (simp only [tw_gq]; omega)) ?_ | refine tw_ite_f (by first | omega | (simp only [tw_gq]; omega)) ?_); rfl
  · by_cases y1 : y = -1
    · have e : x * y = -x := by rw [y1]; omega
      (first | refine tw_ite_t (by first | omega | (simp only [tw_gq]; omega)) ?_ | refine tw_ite_f (by first | omega | (simp only [tw_gq]; omega)) ?_); (first | refine tw_ite_t (by first | omega | (simp only [tw_gq]; omega)) ?_ | refine tw_ite_f (by first | omega | (simp only [tw_gq]; omega)) ?_); (first | refine tw_ite_t (by first | omega | (simp only [tw_gq]; omega)) ?_ | refine tw_ite_f (by first | omega | (simp only [tw_gq]; omega)) ?_); (first | refine tw_ite_t (by first | omega | (simp only [tw_gq]; omega)) ?_ | refine tw_ite_f (by first | omega | (simp only [tw_gq]; omega)) ?_); (first | refine tw_ite_t (by first | omega | (simp only [tw_gq]; omega)) ?_ | refine tw_ite_f (by first | omega | (simp only [tw_gq]; omega)) ?_)
      by_cases c : x = -9223372036854775808
      · refine tw_ite_t c ?_; rw [if_neg (show ¬ tw_fits64 (x * y) by unfold tw_fits64; omega)]
      · refine tw_ite_f c ?_; rw [if_pos (show tw_fits64 (x * y) by unfold tw_fits64; omega)]
    · have hq := tw_td_facts (j_w64 (x * y)) y hw y0
      have hq1 := hq.1
      (first | refine tw_ite_t (by first | omega | (simp only [tw_gq]; omega)) ?_ | refine tw_ite_f (by first | omega | (simp only [tw_gq]; omega)) ?_); (first | refine tw_ite_t (by first | omega | (simp only [tw_gq]; omega)) ?_ | refine tw_ite_f (by first | omega | (simp only [tw_gq]; omega)) ?_); (first | refine tw_ite_t (by first | omega | (simp only [tw_gq]; omega)) ?_ | refine tw_ite_f (by first | omega | (simp only [tw_gq]; omega)) ?_); (first | refine tw_ite_t (by first | omega | (simp only [tw_gq]; omega)) ?_ | refine tw_ite_f (by first | omega | (simp only [tw_gq]; omega)) ?_); (first | refine tw_ite_t (by first | omega | (simp only [tw_gq]; omega)) ?_ | refine tw_ite_f (by first | omega | (simp only [tw_gq]; omega)) ?_)
      have b : -9223372036854775808 ≤ Int.tdiv (j_w64 (x * y)) y ∧ Int.tdiv (j_w64 (x * y)) y ≤ 9223372036854775807 := by
        by_cases c : y = 1
        · have := hq.2.1 c; omega
        · have := hq1 (by omega); omega
      clear hq hq1
      (first | refine tw_ite_t (by first | omega | (simp only [tw_gq]; omega)) ?_ | refine tw_ite_f (by first | omega | (simp only [tw_gq]; omega)) ?_)
      by_cases c : Int.tdiv (j_w64 (x * y)) y = x
      · refine tw_ite_t c ?_; rw [if_pos ((hp y0 y1).1 c)]
      · refine tw_ite_f c ?_; rw [if_neg (fun z => c ((hp y0 y1).2 z))]
set_option maxRecDepth 100000 in
theorem tw_isPr {x y : Int} (hx : tw_fits64 x) (hy : tw_fits64 y) : f_Mod_isProduct x y = some (if tw_fits64 (x * y) then 1 else 0) := by
  have hp := tw_prod_iff hx hy
  have hw := tw_w64_r (x * y)
  have hww := tw_w64_eq (x * y)
  have hx' : -9223372036854775808 ≤ x ∧ x ≤ 9223372036854775807 := hx
  have hy' : -9223372036854775808 ≤ y ∧ y ≤ 9223372036854775807 := hy
  unfold f_Mod_isProduct
  by_cases x0 : x = 0
  · have : tw_fits64 (x * y) := by rw [x0, Int.zero_mul]; unfold tw_fits64; omega
    rw [if_pos this]; (first | refine tw_ite_t (by first | omega | (simp only [tw_gq]; omega)) ?_ | refine tw_ite_f (by first | omega | (simp only [tw_gq]; omega)) ?_); (first | refine tw_ite_t (by first | omega | (simp only [tw_gq]; omega)) ?_ | refine tw_ite_f (by first | omega | (simp only [tw_gq]; omega)) ?_); rfl
  by_cases y0 : y = 0
  · have : tw_fits64 (x * y) := by rw [y0, Int.mul_zero]; unfold tw_fits64; omega
    rw [if_pos this]; (first | refine tw_ite_t (by first | omega | (simp only [tw_gq]; omega)) ?_ | refine tw_ite_f (by first | omega | (simp only [tw_gq]; omega)) ?_); (first | refine tw_ite_t (by first | omega | (simp only [tw_gq]; omega)) ?_ | refine tw_ite_f (by first | omega | (simp only [tw_gq]; omega)) ?_); (first | refine tw_ite_t (by first | omega | (simp only [tw_gq]; omega)) ?_ | refine tw_ite_f (by first | omega | (simp only [tw_gq]; omega)) ?_); (first | refine tw_ite_t (by first | omega | (simp only [tw_gq]; omega)) ?_ | refine tw_ite_f (by first | omega | (simp only [tw_gq]; omega)) ?_); rfl
  have hq := tw_td_facts (j_w64 (x * y)) y hw y0
  by_cases y1 : y = -1
  · have e : x * y = -x := by rw [y1]; omega
    by_cases c : x = -9223372036854775808
    · rw [if_neg (show ¬ tw_fits64 (x * y) by unfold tw_fits64; omega)]
      clear hq hp hww
      (repeat (first | refine tw_ite_t (by first | omega | (simp only [tw_gq]; omega)) ?_ | refine tw_ite_f (by first | omega | (simp only [tw_gq]; omega)) ?_))
      rfl
    · have e2 : j_w64 (x * y) = -x := by omega
      have q := hq.2.2 y1
      rw [if_pos (show tw_fits64 (x * y) by unfold tw_fits64; omega)]
      clear hq hp hww
      rw [e2] at hw q ⊢
      rw [q]
      by_cases c1 : x = -1
      · (repeat (first | refine tw_ite_t (by first | omega | (simp only [tw_gq]; omega)) ?_ | refine tw_ite_f (by first | omega | (simp only [tw_gq]; omega)) ?_)); rfl
      · (repeat (first | refine tw_ite_t (by first | omega | (simp only [tw_gq]; omega)) ?_ | refine tw_ite_f (by first | omega | (simp only [tw_gq]; omega)) ?_)); rfl
  · have b : -9223372036854775808 ≤ Int.tdiv (j_w64 (x * y)) y ∧ Int.tdiv (j_w64 (x * y)) y ≤ 9223372036854775807 := by
      have hq1 := hq.1
      by_cases c : y = 1
      · have := hq.2.1 c; omega
      · have := hq1 (by omega); omega
    clear hq hww
    have hpp := hp y0 y1
    clear hp
    by_cases c1 : x = -1 ∧ y = -9223372036854775808
    · have e : x * y = 9223372036854775808 := by rw [c1.1, c1.2]; omega
      rw [if_neg (show ¬ tw_fits64 (x * y) by unfold tw_fits64; omega)]
      clear hpp
      (repeat (first | refine tw_ite_t (by first | omega | (simp only [tw_gq]; omega)) ?_ | refine tw_ite_f (by first | omega | (simp only [tw_gq]; omega)) ?_))
      rfl
    · by_cases c : Int.tdiv (j_w64 (x * y)) y = x
      · rw [if_pos (hpp.1 c)]
        clear hpp
        by_cases c2 : x = -1
        · (repeat (first | refine tw_ite_t (by first | omega | (simp only [tw_gq]; omega)) ?_ | refine tw_ite_f (by first | omega | (simp only [tw_gq]; omega)) ?_)); rfl
        · (repeat (first | refine tw_ite_t (by first | omega | (simp only [tw_gq]; omega)) ?_ | refine tw_ite_f (by first | omega | (simp only [tw_gq]; omega)) ?_)); rfl
      · rw [if_neg (fun z => c (hpp.2 z))]
        clear hpp
        by_cases c2 : x = -1
        · (repeat (first | refine tw_ite_t (by first | omega | (simp only [tw_gq]; omega)) ?_ | refine tw_ite_f (by first | omega | (simp only [tw_gq]; omega)) ?_)); rfl
        · (repeat (first | refine tw_ite_t (by first | omega | (simp only [tw_gq]; omega)) ?_ | refine tw_ite_f (by first | omega | (simp only [tw_gq]; omega)) ?_)); rfl
set_option maxRecDepth 100000 in
theorem tw_flD {x y : Int} (hx : tw_fits64 x) (hy : tw_fits64 y) (h0 : ¬ y = 0) : f_Math_floorDiv x y = some (tw_flr x y) := by
  have hx' : -9223372036854775808 ≤ x ∧ x ≤ 9223372036854775807 := hx
  have hy' : -9223372036854775808 ≤ y ∧ y ≤ 9223372036854775807 := hy
  obtain ⟨m, e, m1, m2, m3, m4⟩ := tw_tm_facts x y h0
  obtain ⟨s, s1, s2⟩ := tw_xor_nn hx' hy'
  unfold f_Math_floorDiv tw_flr
  rw [e, show x - (x - m) = m by omega]
  (first | refine tw_ite_t (by first | omega | (simp only [tw_gq]; omega)) ?_ | refine tw_ite_f (by first | omega | (simp only [tw_gq]; omega)) ?_)
  (first | refine tw_ite_t (by first | omega | (simp only [tw_gq]; omega)) ?_ | refine tw_ite_f (by first | omega | (simp only [tw_gq]; omega)) ?_)
  by_cases c : (x < 0 ↔ y < 0)
  · refine tw_ite_t (s.2 c) ?_
    rw [if_pos (Or.inr c)]
  · refine tw_ite_f (fun z => c (s.1 z)) ?_
    clear s
    (first | refine tw_ite_t (by first | omega | (simp only [tw_gq]; omega)) ?_ | refine tw_ite_f (by first | omega | (simp only [tw_gq]; omega)) ?_)
    by_cases c2 : m = 0
    · refine tw_ite_t (by omega) ?_; rw [if_pos (Or.inl c2)]
    · refine tw_ite_f (by omega) ?_; rw [if_neg (by omega)]
set_option maxRecDepth 100000 in
theorem tw_flM {x y : Int} (hx : tw_fits64 x) (hy : tw_fits64 y) (h0 : ¬ y = 0) : f_Math_floorMod x y = some (tw_flm x y) := by
  have hx' : -9223372036854775808 ≤ x ∧ x ≤ 9223372036854775807 := hx
  have hy' : -9223372036854775808 ≤ y ∧ y ≤ 9223372036854775807 := hy
  obtain ⟨m, e, m1, m2, m3, m4⟩ := tw_tm_facts x y h0
  obtain ⟨s, s1, s2⟩ := tw_xor_nn hx' hy'
  unfold f_Math_floorMod tw_flm
  rw [e, show x - (x - m) = m by omega]
  (first | refine tw_ite_t (by first | omega | (simp only [tw_gq]; omega)) ?_ | refine tw_ite_f (by first | omega | (simp only [tw_gq]; omega)) ?_)
  (first | refine tw_ite_t (by first | omega | (simp only [tw_gq]; omega)) ?_ | refine tw_ite_f (by first | omega | (simp only [tw_gq]; omega)) ?_)
  by_cases c : (x < 0 ↔ y < 0)
  · refine tw_ite_t (s.2 c) ?_
    rw [if_pos (Or.inr c)]
  · refine tw_ite_f (fun z => c (s.1 z)) ?_
    clear s
    (first | refine tw_ite_t (by first | omega | (simp only [tw_gq]; omega)) ?_ | refine tw_ite_f (by first | omega | (simp only [tw_gq]; omega)) ?_)
    by_cases c2 : m = 0
    · refine tw_ite_t (by omega) ?_; rw [if_pos (Or.inl c2)]
    · refine tw_ite_f (by omega) ?_; rw [if_neg (by omega)]
set_option maxRecDepth 100000 in
theorem tw_fl_r {x y : Int} (hx : tw_fits64 x) (hy : tw_fits64 y) (h0 : ¬ y = 0) : (¬ (y = -1 ∧ x = -9223372036854775808) → tw_fits64 (tw_flr x y) ∧ tw_fits64 (Int.tdiv x y)) ∧ tw_fits64 (tw_flm x y) ∧ tw_fits64 (x - Int.tdiv x y * y) := by
  have hx' : -9223372036854775808 ≤ x ∧ x ≤ 9223372036854775807 := hx
  have hy' : -9223372036854775808 ≤ y ∧ y ≤ 9223372036854775807 := hy
  obtain ⟨m, e, m1, m2, m3, m4⟩ := tw_tm_facts x y h0
  obtain ⟨q1, q2, q3⟩ := tw_td_facts x y hx' h0
  unfold tw_flr tw_flm
  rw [e, show x - (x - m) = m by omega]
  refine ⟨fun hn => ?_, ?_, ?_⟩
  · by_cases c1 : y = 1
    · have := q2 c1
      have hm : m = 0 := by have := m3 (by omega); omega
      rw [if_pos (Or.inl hm)]; unfold tw_fits64; omega
    · by_cases c2 : y = -1
      · have := q3 c2
        have hm : m = 0 := by have := m4 (by omega); omega
        rw [if_pos (Or.inl hm)]; unfold tw_fits64; omega
      · have := q1 (by omega)
        clear q1 q2 q3
        constructor
        · split <;> (unfold tw_fits64; omega)
        · unfold tw_fits64; omega
  · clear q1 q2 q3
    split
    · unfold tw_fits64; omega
    · next c =>
      unfold tw_fits64
      by_cases xs : x < 0
      · have := m2 (by omega); omega
      · have := m1 (by omega); omega
  · unfold tw_fits64
    by_cases xs : x < 0
    · have := m2 (by omega); omega
    · have := m1 (by omega); omega
set_option maxRecDepth 100000 in
theorem tw_iop_r {op x y k n : Int} (hx : tw_fits64 x) (hy : tw_fits64 y) (h : tw_iop op x y = some (k, n)) : (k = 0 ∨ k = 2) ∧ tw_fits64 n ∧ (k = 2 → n = 0 ∨ n = 1) := by
  have key : ∀ {a b : Int}, some (a, b) = some (k, n) → a = k ∧ b = n := fun z => by cases z; exact ⟨rfl, rfl⟩
  unfold tw_iop at h
  split at h
  · split at h
    · next c => obtain ⟨rfl, rfl⟩ := key h; exact ⟨Or.inl rfl, c, fun z => by omega⟩
    · cases h
  split at h
  · split at h
    · next c => obtain ⟨rfl, rfl⟩ := key h; exact ⟨Or.inl rfl, c, fun z => by omega⟩
    · cases h
  split at h
  · split at h
    · next c => obtain ⟨rfl, rfl⟩ := key h; exact ⟨Or.inl rfl, c, fun z => by omega⟩
    · cases h
  split at h
  · split at h
    · cases h
    · next c => obtain ⟨rfl, rfl⟩ := key h; exact ⟨Or.inl rfl, ((tw_fl_r hx hy (by omega)).1 (by omega)).1, fun z => by omega⟩
  split at h
  · split at h
    · cases h
    · next c => obtain ⟨rfl, rfl⟩ := key h; exact ⟨Or.inl rfl, (tw_fl_r hx hy (by omega)).2.1, fun z => by omega⟩
  split at h
  · split at h
    · cases h
    · next c => obtain ⟨rfl, rfl⟩ := key h; exact ⟨Or.inl rfl, ((tw_fl_r hx hy (by omega)).1 (by omega)).2, fun z => by omega⟩
  split at h
  · split at h
    · cases h
    · next c => obtain ⟨rfl, rfl⟩ := key h; exact ⟨Or.inl rfl, (tw_fl_r hx hy (by omega)).2.2, fun z => by omega⟩
  split at h
  · obtain ⟨rfl, rfl⟩ := key h
    refine ⟨Or.inr rfl, ?_, fun _ => ?_⟩ <;> split <;> first | (unfold tw_fits64; omega) | omega
  split at h
  · obtain ⟨rfl, rfl⟩ := key h
    refine ⟨Or.inr rfl, ?_, fun _ => ?_⟩ <;> split <;> first | (unfold tw_fits64; omega) | omega
  · obtain ⟨rfl, rfl⟩ := key h
    refine ⟨Or.inr rfl, ?_, fun _ => ?_⟩ <;> split <;> first | (unfold tw_fits64; omega) | omega
set_option maxRecDepth 100000 in
theorem tw_onInt {V_top op x y : Int} {V_kinds V_numbers V_parts V_links : Int → Int} (h0 : 0 ≤ V_top) (h : V_top < 3201) (hx : tw_fits64 x) (hy : tw_fits64 y) (ho : 0 ≤ op ∧ op ≤ 9) :
    f_Builtins_onIntegers V_top V_kinds V_numbers V_parts V_links op x y = (match tw_iop op x y with | none => some (-1, V_top, V_kinds, V_numbers, V_parts, V_links) | some r => some (V_top, V_top + 1, upZ V_kinds V_top r.1, upZ V_numbers V_top r.2, upZ V_parts V_top (-1), upZ V_links V_top (-1))) := by
  have hc : op = 0 ∨ op = 1 ∨ op = 2 ∨ op = 3 ∨ op = 4 ∨ op = 5 ∨ op = 6 ∨ op = 7 ∨ op = 8 ∨ op = 9 := by omega
  unfold f_Builtins_onIntegers
  rcases hc with e | e | e | e | e | e | e | e | e | e <;> subst e
  · refine tw_ite_t (by decide) (tw_ite_t rfl (tw_bind_t (tw_sumF hx hy) ?_))
    show _ = (match (if tw_fits64 (x + y) then some ((0 : Int), x + y) else none) with | none => _ | some r => _)
    by_cases c : tw_fits64 (x + y)
    · rw [if_pos c, if_pos c]; exact tw_ite_t (by decide) (tw_ite_f (by decide) (tw_ob6_t (tw_vOI h0 h) rfl))
    · rw [if_neg c, if_neg c]; exact tw_ite_t (by decide) (tw_ite_t rfl rfl)
  · refine tw_ite_t (by decide) (tw_ite_f (by decide) (tw_ite_t rfl (tw_bind_t (tw_difF hx hy) ?_)))
    show _ = (match (if tw_fits64 (x - y) then some ((0 : Int), x - y) else none) with | none => _ | some r => _)
    by_cases c : tw_fits64 (x - y)
    · rw [if_pos c, if_pos c]; exact tw_ite_t (by decide) (tw_ite_f (by decide) (tw_ob6_t (tw_vOI h0 h) rfl))
    · rw [if_neg c, if_neg c]; exact tw_ite_t (by decide) (tw_ite_t rfl rfl)
  · refine tw_ite_t (by decide) (tw_ite_f (by decide) (tw_ite_f (by decide) (tw_ite_t rfl (tw_bind_t (tw_proF hx hy) ?_))))
    show _ = (match (if tw_fits64 (x * y) then some ((0 : Int), x * y) else none) with | none => _ | some r => _)
    by_cases c : tw_fits64 (x * y)
    · rw [if_pos c, if_pos c]; exact tw_ite_t (by decide) (tw_ite_f (by decide) (tw_ob6_t (tw_vOI h0 h) rfl))
    · rw [if_neg c, if_neg c]; exact tw_ite_t (by decide) (tw_ite_t rfl rfl)
  · refine tw_ite_t (by decide) (tw_ite_f (by decide) (tw_ite_f (by decide) (tw_ite_f (by decide) (tw_ite_t rfl (tw_bind_t (tw_quoF hx hy) ?_)))))
    show _ = (match (if y = 0 ∨ (y = -1 ∧ x = -9223372036854775808) then none else some ((0 : Int), tw_flr x y)) with | none => _ | some r => _)
    by_cases c : y = 0 ∨ (y = -1 ∧ x = -9223372036854775808)
    · rw [if_pos c, if_pos c]; exact tw_ite_t (by decide) (tw_ite_t rfl rfl)
    · rw [if_neg c, if_neg c]; exact tw_ite_t (by decide) (tw_ite_f (by decide) (tw_bind_t (tw_flD hx hy (by omega)) (tw_ob6_t (tw_vOI h0 h) rfl)))
  · refine tw_ite_t (by decide) (tw_ite_f (by decide) (tw_ite_f (by decide) (tw_ite_f (by decide) (tw_ite_f (by decide) (tw_ite_t rfl (tw_ite_t (by unfold tw_fits64 at hx hy; (first | omega | (simp only [tw_gq]; omega))) ?_))))))
    show _ = (match (if y = 0 then none else some ((0 : Int), tw_flm x y)) with | none => _ | some r => _)
    by_cases c : y = 0
    · rw [if_pos c, if_pos c]
    · rw [if_neg c, if_neg c]; exact tw_bind_t (tw_flM hx hy c) (tw_ob6_t (tw_vOI h0 h) rfl)
  · refine tw_ite_t (by decide) (tw_ite_f (by decide) (tw_ite_f (by decide) (tw_ite_f (by decide) (tw_ite_f (by decide) (tw_ite_f (by decide) (tw_ite_t rfl (tw_bind_t (tw_quoF hx hy) ?_)))))))
    show _ = (match (if y = 0 ∨ (y = -1 ∧ x = -9223372036854775808) then none else some ((0 : Int), Int.tdiv x y)) with | none => _ | some r => _)
    by_cases c : y = 0 ∨ (y = -1 ∧ x = -9223372036854775808)
    · rw [if_pos c, if_pos c]; exact tw_ite_t (by decide) (tw_ite_t rfl rfl)
    · rw [if_neg c, if_neg c]; exact tw_ite_t (by decide) (tw_ite_f (by decide) (tw_ite_t (by unfold tw_fits64 at hx hy; (first | omega | (simp only [tw_gq]; omega))) (tw_ob6_t (tw_vOI h0 h) rfl)))
  · refine tw_ite_t (by decide) (tw_ite_f (by decide) (tw_ite_f (by decide) (tw_ite_f (by decide) (tw_ite_f (by decide) (tw_ite_f (by decide) (tw_ite_f (by decide) (tw_ite_t rfl (tw_ite_t (by unfold tw_fits64 at hx hy; (first | omega | (simp only [tw_gq]; omega))) ?_))))))))
    show _ = (match (if y = 0 then none else some ((0 : Int), x - Int.tdiv x y * y)) with | none => _ | some r => _)
    by_cases c : y = 0
    · rw [if_pos c, if_pos c]
    · rw [if_neg c, if_neg c]; exact tw_ite_t (by unfold tw_fits64 at hx hy; (first | omega | (simp only [tw_gq]; omega))) (tw_ob6_t (tw_vOI h0 h) rfl)
  · refine tw_ite_t (by decide) (tw_ite_f (by decide) (tw_ite_f (by decide) (tw_ite_f (by decide) (tw_ite_f (by decide) (tw_ite_f (by decide) (tw_ite_f (by decide) (tw_ite_f (by decide) (tw_ite_t rfl (tw_ite_t (by unfold tw_fits64 at hx hy; (first | omega | (simp only [tw_gq]; omega))) ?_)))))))))
    show _ = some (V_top, V_top + 1, upZ V_kinds V_top 2, upZ V_numbers V_top (if x = y then 1 else 0), upZ V_parts V_top (-1), upZ V_links V_top (-1))
    by_cases c : x = y
    · rw [if_pos c, if_pos c]; exact tw_ob6_t (tw_vOT h0 h (by omega)) rfl
    · rw [if_neg c, if_neg c]; exact tw_ob6_t (tw_vOT h0 h (by omega)) rfl
  · refine tw_ite_t (by decide) (tw_ite_f (by decide) (tw_ite_f (by decide) (tw_ite_f (by decide) (tw_ite_f (by decide) (tw_ite_f (by decide) (tw_ite_f (by decide) (tw_ite_f (by decide) (tw_ite_f (by decide) (tw_ite_t rfl (tw_ite_t (by unfold tw_fits64 at hx hy; (first | omega | (simp only [tw_gq]; omega))) ?_))))))))))
    show _ = some (V_top, V_top + 1, upZ V_kinds V_top 2, upZ V_numbers V_top (if x < y then 1 else 0), upZ V_parts V_top (-1), upZ V_links V_top (-1))
    by_cases c : x < y
    · rw [if_pos c, if_neg (by omega)]; exact tw_ob6_t (tw_vOT h0 h (by omega)) rfl
    · rw [if_neg c, if_pos (by omega)]; exact tw_ob6_t (tw_vOT h0 h (by omega)) rfl
  · refine tw_ite_t (by decide) (tw_ite_f (by decide) (tw_ite_f (by decide) (tw_ite_f (by decide) (tw_ite_f (by decide) (tw_ite_f (by decide) (tw_ite_f (by decide) (tw_ite_f (by decide) (tw_ite_f (by decide) (tw_ite_f (by decide) (tw_ite_t (by unfold tw_fits64 at hx hy; (first | omega | (simp only [tw_gq]; omega))) ?_))))))))))
    show _ = some (V_top, V_top + 1, upZ V_kinds V_top 2, upZ V_numbers V_top (if x ≤ y then 1 else 0), upZ V_parts V_top (-1), upZ V_links V_top (-1))
    by_cases c : x ≤ y
    · rw [if_pos c, if_neg (by omega)]; exact tw_ob6_t (tw_vOT h0 h (by omega)) rfl
    · rw [if_neg c, if_pos (by omega)]; exact tw_ob6_t (tw_vOT h0 h (by omega)) rfl
set_option maxRecDepth 100000 in
theorem tw_sm_0y {R_values x y : Int} {R_valueKinds R_valueNumbers R_given : Int → Int} (h0 : 0 ≤ R_values) (h : R_values < 3700) (hx : tw_fits64 x) (hy : tw_fits64 y) (c : tw_fits64 (x + y)) : f_Mod_sums R_values 0 R_valueKinds R_valueNumbers R_given 0 x y = some (R_values, R_values + 1, 0, upZ R_valueKinds R_values 0, upZ R_valueNumbers R_values (x + y), upZ R_given R_values 0) := by
  have hx' : -9223372036854775808 ≤ x ∧ x ≤ 9223372036854775807 := hx
  have hy' : -9223372036854775808 ≤ y ∧ y ≤ 9223372036854775807 := hy
  have c' : -9223372036854775808 ≤ x + y ∧ x + y ≤ 9223372036854775807 := c
  unfold f_Mod_sums
  (repeat' (first | (first | refine tw_ite_t (by first | omega | (simp only [tw_gq]; omega)) ?_ | refine tw_ite_f (by first | omega | (simp only [tw_gq]; omega)) ?_) | refine tw_ob5_t (tw_rmake h0 h) ?_ | refine tw_ob5_t (tw_rTr h0 h (by omega)) ?_ | refine tw_ob2_t (tw_fail_ok rfl) ?_ | refine tw_bind_t (tw_isPr hx hy) ?_ | refine tw_ite_s (fun _ => ?_) (fun _ => ?_))) <;> first | rfl | (exfalso; omega) | (rw [Int.sub_zero]; done) | (rw [Int.add_zero]; done) | (simp only [Int.sub_zero, Int.add_zero]; done)
set_option maxRecDepth 100000 in
theorem tw_sm_0n {R_values x y : Int} {R_valueKinds R_valueNumbers R_given : Int → Int} (h0 : 0 ≤ R_values) (h : R_values < 3700) (hx : tw_fits64 x) (hy : tw_fits64 y) (c : ¬ tw_fits64 (x + y)) : f_Mod_sums R_values 0 R_valueKinds R_valueNumbers R_given 0 x y = some (0, R_values, 3, R_valueKinds, R_valueNumbers, R_given) := by
  have hx' : -9223372036854775808 ≤ x ∧ x ≤ 9223372036854775807 := hx
  have hy' : -9223372036854775808 ≤ y ∧ y ≤ 9223372036854775807 := hy
  have c' : ¬ (-9223372036854775808 ≤ x + y ∧ x + y ≤ 9223372036854775807) := c
  unfold f_Mod_sums
  (repeat' (first | (first | refine tw_ite_t (by first | omega | (simp only [tw_gq]; omega)) ?_ | refine tw_ite_f (by first | omega | (simp only [tw_gq]; omega)) ?_) | refine tw_ob5_t (tw_rmake h0 h) ?_ | refine tw_ob5_t (tw_rTr h0 h (by omega)) ?_ | refine tw_ob2_t (tw_fail_ok rfl) ?_ | refine tw_bind_t (tw_isPr hx hy) ?_ | refine tw_ite_s (fun _ => ?_) (fun _ => ?_))) <;> first | rfl | (exfalso; omega) | (rw [Int.sub_zero]; done) | (rw [Int.add_zero]; done) | (simp only [Int.sub_zero, Int.add_zero]; done)
set_option maxRecDepth 100000 in
theorem tw_sm_1y {R_values x y : Int} {R_valueKinds R_valueNumbers R_given : Int → Int} (h0 : 0 ≤ R_values) (h : R_values < 3700) (hx : tw_fits64 x) (hy : tw_fits64 y) (c : tw_fits64 (x - y)) : f_Mod_sums R_values 0 R_valueKinds R_valueNumbers R_given 1 x y = some (R_values, R_values + 1, 0, upZ R_valueKinds R_values 0, upZ R_valueNumbers R_values (x - y), upZ R_given R_values 0) := by
  have hx' : -9223372036854775808 ≤ x ∧ x ≤ 9223372036854775807 := hx
  have hy' : -9223372036854775808 ≤ y ∧ y ≤ 9223372036854775807 := hy
  have c' : -9223372036854775808 ≤ x - y ∧ x - y ≤ 9223372036854775807 := c
  unfold f_Mod_sums
  (repeat' (first | (first | refine tw_ite_t (by first | omega | (simp only [tw_gq]; omega)) ?_ | refine tw_ite_f (by first | omega | (simp only [tw_gq]; omega)) ?_) | refine tw_ob5_t (tw_rmake h0 h) ?_ | refine tw_ob5_t (tw_rTr h0 h (by omega)) ?_ | refine tw_ob2_t (tw_fail_ok rfl) ?_ | refine tw_bind_t (tw_isPr hx hy) ?_ | refine tw_ite_s (fun _ => ?_) (fun _ => ?_))) <;> first | rfl | (exfalso; omega) | (rw [Int.sub_zero]; done) | (rw [Int.add_zero]; done) | (simp only [Int.sub_zero, Int.add_zero]; done)
set_option maxRecDepth 100000 in
theorem tw_sm_1n {R_values x y : Int} {R_valueKinds R_valueNumbers R_given : Int → Int} (h0 : 0 ≤ R_values) (h : R_values < 3700) (hx : tw_fits64 x) (hy : tw_fits64 y) (c : ¬ tw_fits64 (x - y)) : f_Mod_sums R_values 0 R_valueKinds R_valueNumbers R_given 1 x y = some (0, R_values, 3, R_valueKinds, R_valueNumbers, R_given) := by
  have hx' : -9223372036854775808 ≤ x ∧ x ≤ 9223372036854775807 := hx
  have hy' : -9223372036854775808 ≤ y ∧ y ≤ 9223372036854775807 := hy
  have c' : ¬ (-9223372036854775808 ≤ x - y ∧ x - y ≤ 9223372036854775807) := c
  unfold f_Mod_sums
  (repeat' (first | (first | refine tw_ite_t (by first | omega | (simp only [tw_gq]; omega)) ?_ | refine tw_ite_f (by first | omega | (simp only [tw_gq]; omega)) ?_) | refine tw_ob5_t (tw_rmake h0 h) ?_ | refine tw_ob5_t (tw_rTr h0 h (by omega)) ?_ | refine tw_ob2_t (tw_fail_ok rfl) ?_ | refine tw_bind_t (tw_isPr hx hy) ?_ | refine tw_ite_s (fun _ => ?_) (fun _ => ?_))) <;> first | rfl | (exfalso; omega) | (rw [Int.sub_zero]; done) | (rw [Int.add_zero]; done) | (simp only [Int.sub_zero, Int.add_zero]; done)
set_option maxRecDepth 100000 in
theorem tw_sm_2y {R_values x y : Int} {R_valueKinds R_valueNumbers R_given : Int → Int} (h0 : 0 ≤ R_values) (h : R_values < 3700) (hx : tw_fits64 x) (hy : tw_fits64 y) (c : tw_fits64 (x * y)) : f_Mod_sums R_values 0 R_valueKinds R_valueNumbers R_given 2 x y = some (R_values, R_values + 1, 0, upZ R_valueKinds R_values 0, upZ R_valueNumbers R_values (x * y), upZ R_given R_values 0) := by
  have hx' : -9223372036854775808 ≤ x ∧ x ≤ 9223372036854775807 := hx
  have hy' : -9223372036854775808 ≤ y ∧ y ≤ 9223372036854775807 := hy
  have hi := tw_isPr hx hy
  rw [if_pos c] at hi
  unfold f_Mod_sums
  (repeat' (first | (first | refine tw_ite_t (by first | omega | (simp only [tw_gq]; omega)) ?_ | refine tw_ite_f (by first | omega | (simp only [tw_gq]; omega)) ?_) | refine tw_ob5_t (tw_rmake h0 h) ?_ | refine tw_bind_t hi ?_ | refine tw_ite_s (fun _ => ?_) (fun _ => ?_))) <;> rfl
set_option maxRecDepth 100000 in
theorem tw_sm_2n {R_values x y : Int} {R_valueKinds R_valueNumbers R_given : Int → Int} (h0 : 0 ≤ R_values) (h : R_values < 3700) (hx : tw_fits64 x) (hy : tw_fits64 y) (c : ¬ tw_fits64 (x * y)) : f_Mod_sums R_values 0 R_valueKinds R_valueNumbers R_given 2 x y = some (0, R_values, 3, R_valueKinds, R_valueNumbers, R_given) := by
  have hx' : -9223372036854775808 ≤ x ∧ x ≤ 9223372036854775807 := hx
  have hy' : -9223372036854775808 ≤ y ∧ y ≤ 9223372036854775807 := hy
  have hi := tw_isPr hx hy
  rw [if_neg c] at hi
  unfold f_Mod_sums
  (repeat' (first | (first | refine tw_ite_t (by first | omega | (simp only [tw_gq]; omega)) ?_ | refine tw_ite_f (by first | omega | (simp only [tw_gq]; omega)) ?_) | refine tw_ob2_t (tw_fail_ok rfl) ?_ | refine tw_bind_t hi ?_ | refine tw_ite_s (fun _ => ?_) (fun _ => ?_))) <;> rfl
set_option maxRecDepth 100000 in
theorem tw_sm_3n {R_values x y : Int} {R_valueKinds R_valueNumbers R_given : Int → Int} (h0 : 0 ≤ R_values) (h : R_values < 3700) (hx : tw_fits64 x) (hy : tw_fits64 y) (c : y = 0 ∨ (y = -1 ∧ x = -9223372036854775808)) : f_Mod_sums R_values 0 R_valueKinds R_valueNumbers R_given 3 x y = some (0, R_values, 3, R_valueKinds, R_valueNumbers, R_given) := by
  have hx' : -9223372036854775808 ≤ x ∧ x ≤ 9223372036854775807 := hx
  have hy' : -9223372036854775808 ≤ y ∧ y ≤ 9223372036854775807 := hy
  unfold f_Mod_sums
  (repeat' (first | (first | refine tw_ite_t (by first | omega | (simp only [tw_gq]; omega)) ?_ | refine tw_ite_f (by first | omega | (simp only [tw_gq]; omega)) ?_) | refine tw_ob5_t (tw_rmake h0 h) ?_ | refine tw_ob5_t (tw_rTr h0 h (by omega)) ?_ | refine tw_ob2_t (tw_fail_ok rfl) ?_ | refine tw_bind_t (tw_isPr hx hy) ?_ | refine tw_ite_s (fun _ => ?_) (fun _ => ?_))) <;> first | rfl | (exfalso; omega) | (rw [Int.sub_zero]; done) | (rw [Int.add_zero]; done) | (simp only [Int.sub_zero, Int.add_zero]; done)
set_option maxRecDepth 100000 in
theorem tw_sm_5n {R_values x y : Int} {R_valueKinds R_valueNumbers R_given : Int → Int} (h0 : 0 ≤ R_values) (h : R_values < 3700) (hx : tw_fits64 x) (hy : tw_fits64 y) (c : y = 0 ∨ (y = -1 ∧ x = -9223372036854775808)) : f_Mod_sums R_values 0 R_valueKinds R_valueNumbers R_given 5 x y = some (0, R_values, 3, R_valueKinds, R_valueNumbers, R_given) := by
  have hx' : -9223372036854775808 ≤ x ∧ x ≤ 9223372036854775807 := hx
  have hy' : -9223372036854775808 ≤ y ∧ y ≤ 9223372036854775807 := hy
  unfold f_Mod_sums
  (repeat' (first | (first | refine tw_ite_t (by first | omega | (simp only [tw_gq]; omega)) ?_ | refine tw_ite_f (by first | omega | (simp only [tw_gq]; omega)) ?_) | refine tw_ob5_t (tw_rmake h0 h) ?_ | refine tw_ob5_t (tw_rTr h0 h (by omega)) ?_ | refine tw_ob2_t (tw_fail_ok rfl) ?_ | refine tw_bind_t (tw_isPr hx hy) ?_ | refine tw_ite_s (fun _ => ?_) (fun _ => ?_))) <;> first | rfl | (exfalso; omega) | (rw [Int.sub_zero]; done) | (rw [Int.add_zero]; done) | (simp only [Int.sub_zero, Int.add_zero]; done)
set_option maxRecDepth 100000 in
theorem tw_sm_4n {R_values x y : Int} {R_valueKinds R_valueNumbers R_given : Int → Int} (h0 : 0 ≤ R_values) (h : R_values < 3700) (hx : tw_fits64 x) (hy : tw_fits64 y) (c : y = 0) : f_Mod_sums R_values 0 R_valueKinds R_valueNumbers R_given 4 x y = some (0, R_values, 3, R_valueKinds, R_valueNumbers, R_given) := by
  have hx' : -9223372036854775808 ≤ x ∧ x ≤ 9223372036854775807 := hx
  have hy' : -9223372036854775808 ≤ y ∧ y ≤ 9223372036854775807 := hy
  unfold f_Mod_sums
  (repeat' (first | (first | refine tw_ite_t (by first | omega | (simp only [tw_gq]; omega)) ?_ | refine tw_ite_f (by first | omega | (simp only [tw_gq]; omega)) ?_) | refine tw_ob5_t (tw_rmake h0 h) ?_ | refine tw_ob5_t (tw_rTr h0 h (by omega)) ?_ | refine tw_ob2_t (tw_fail_ok rfl) ?_ | refine tw_bind_t (tw_isPr hx hy) ?_ | refine tw_ite_s (fun _ => ?_) (fun _ => ?_))) <;> first | rfl | (exfalso; omega) | (rw [Int.sub_zero]; done) | (rw [Int.add_zero]; done) | (simp only [Int.sub_zero, Int.add_zero]; done)
set_option maxRecDepth 100000 in
theorem tw_sm_6n {R_values x y : Int} {R_valueKinds R_valueNumbers R_given : Int → Int} (h0 : 0 ≤ R_values) (h : R_values < 3700) (hx : tw_fits64 x) (hy : tw_fits64 y) (c : y = 0) : f_Mod_sums R_values 0 R_valueKinds R_valueNumbers R_given 6 x y = some (0, R_values, 3, R_valueKinds, R_valueNumbers, R_given) := by
  have hx' : -9223372036854775808 ≤ x ∧ x ≤ 9223372036854775807 := hx
  have hy' : -9223372036854775808 ≤ y ∧ y ≤ 9223372036854775807 := hy
  unfold f_Mod_sums
  (repeat' (first | (first | refine tw_ite_t (by first | omega | (simp only [tw_gq]; omega)) ?_ | refine tw_ite_f (by first | omega | (simp only [tw_gq]; omega)) ?_) | refine tw_ob5_t (tw_rmake h0 h) ?_ | refine tw_ob5_t (tw_rTr h0 h (by omega)) ?_ | refine tw_ob2_t (tw_fail_ok rfl) ?_ | refine tw_bind_t (tw_isPr hx hy) ?_ | refine tw_ite_s (fun _ => ?_) (fun _ => ?_))) <;> first | rfl | (exfalso; omega) | (rw [Int.sub_zero]; done) | (rw [Int.add_zero]; done) | (simp only [Int.sub_zero, Int.add_zero]; done)
set_option maxRecDepth 100000 in
theorem tw_sm_5y {R_values x y : Int} {R_valueKinds R_valueNumbers R_given : Int → Int} (h0 : 0 ≤ R_values) (h : R_values < 3700) (hx : tw_fits64 x) (hy : tw_fits64 y) (c : ¬ (y = 0 ∨ (y = -1 ∧ x = -9223372036854775808))) : f_Mod_sums R_values 0 R_valueKinds R_valueNumbers R_given 5 x y = some (R_values, R_values + 1, 0, upZ R_valueKinds R_values 0, upZ R_valueNumbers R_values (Int.tdiv x y), upZ R_given R_values 0) := by
  have hx' : -9223372036854775808 ≤ x ∧ x ≤ 9223372036854775807 := hx
  have hy' : -9223372036854775808 ≤ y ∧ y ≤ 9223372036854775807 := hy
  unfold f_Mod_sums
  (repeat' (first | (first | refine tw_ite_t (by first | omega | (simp only [tw_gq]; omega)) ?_ | refine tw_ite_f (by first | omega | (simp only [tw_gq]; omega)) ?_) | refine tw_ob5_t (tw_rmake h0 h) ?_ | refine tw_ob5_t (tw_rTr h0 h (by omega)) ?_ | refine tw_ob2_t (tw_fail_ok rfl) ?_ | refine tw_bind_t (tw_isPr hx hy) ?_ | refine tw_ite_s (fun _ => ?_) (fun _ => ?_))) <;> first | rfl | (exfalso; omega) | (rw [Int.sub_zero]; done) | (rw [Int.add_zero]; done) | (simp only [Int.sub_zero, Int.add_zero]; done)
set_option maxRecDepth 100000 in
theorem tw_sm_6y {R_values x y : Int} {R_valueKinds R_valueNumbers R_given : Int → Int} (h0 : 0 ≤ R_values) (h : R_values < 3700) (hx : tw_fits64 x) (hy : tw_fits64 y) (c : ¬ y = 0) : f_Mod_sums R_values 0 R_valueKinds R_valueNumbers R_given 6 x y = some (R_values, R_values + 1, 0, upZ R_valueKinds R_values 0, upZ R_valueNumbers R_values (x - Int.tdiv x y * y), upZ R_given R_values 0) := by
  have hx' : -9223372036854775808 ≤ x ∧ x ≤ 9223372036854775807 := hx
  have hy' : -9223372036854775808 ≤ y ∧ y ≤ 9223372036854775807 := hy
  by_cases c1 : y = -1 ∧ x = -9223372036854775808
  · obtain ⟨rfl, rfl⟩ := c1
    have e : (-9223372036854775808 : Int) - Int.tdiv (-9223372036854775808) (-1) * (-1) = 0 := by decide
    rw [e]
    unfold f_Mod_sums
    (repeat' (first | (first | refine tw_ite_t (by first | omega | (simp only [tw_gq]; omega)) ?_ | refine tw_ite_f (by first | omega | (simp only [tw_gq]; omega)) ?_) | refine tw_ob5_t (tw_rmake h0 h) ?_ | refine tw_ob5_t (tw_rTr h0 h (by omega)) ?_ | refine tw_ob2_t (tw_fail_ok rfl) ?_ | refine tw_bind_t (tw_isPr hx hy) ?_ | refine tw_ite_s (fun _ => ?_) (fun _ => ?_))) <;> first | rfl | (exfalso; omega) | (rw [Int.sub_zero]; done) | (rw [Int.add_zero]; done) | (simp only [Int.sub_zero, Int.add_zero]; done)
  · unfold f_Mod_sums
    (repeat' (first | (first | refine tw_ite_t (by first | omega | (simp only [tw_gq]; omega)) ?_ | refine tw_ite_f (by first | omega | (simp only [tw_gq]; omega)) ?_) | refine tw_ob5_t (tw_rmake h0 h) ?_ | refine tw_ob5_t (tw_rTr h0 h (by omega)) ?_ | refine tw_ob2_t (tw_fail_ok rfl) ?_ | refine tw_bind_t (tw_isPr hx hy) ?_ | refine tw_ite_s (fun _ => ?_) (fun _ => ?_))) <;> first | rfl | (exfalso; omega) | (rw [Int.sub_zero]; done) | (rw [Int.add_zero]; done) | (simp only [Int.sub_zero, Int.add_zero]; done)
set_option maxRecDepth 100000 in
theorem tw_sm_3y {R_values x y : Int} {R_valueKinds R_valueNumbers R_given : Int → Int} (h0 : 0 ≤ R_values) (h : R_values < 3700) (hx : tw_fits64 x) (hy : tw_fits64 y) (c : ¬ (y = 0 ∨ (y = -1 ∧ x = -9223372036854775808))) : f_Mod_sums R_values 0 R_valueKinds R_valueNumbers R_given 3 x y = some (R_values, R_values + 1, 0, upZ R_valueKinds R_values 0, upZ R_valueNumbers R_values (tw_flr x y), upZ R_given R_values 0) := by
  have hx' : -9223372036854775808 ≤ x ∧ x ≤ 9223372036854775807 := hx
  have hy' : -9223372036854775808 ≤ y ∧ y ≤ 9223372036854775807 := hy
  obtain ⟨m, e, m1, m2, m3, m4⟩ := tw_tm_facts x y (by omega)
  have mr : -9223372036854775808 ≤ m ∧ m ≤ 9223372036854775807 := by
    by_cases z : 0 ≤ x
    · have := m1 z; omega
    · have := m2 (by omega); omega
  clear m1 m2 m3 m4
  unfold tw_flr
  rw [e, show x - (x - m) = m by omega]
  by_cases c1 : False
  · exact c1.elim
  by_cases d1 : m = 0
  · rw [if_pos (Or.inl d1)]
    unfold f_Mod_sums
    rw [e, show x - (x - m) = m by omega]
    (repeat' (first | (first | refine tw_ite_t (by first | omega | (simp only [tw_gq]; omega)) ?_ | refine tw_ite_f (by first | omega | (simp only [tw_gq]; omega)) ?_) | refine tw_ob5_t (tw_rmake h0 h) ?_ | refine tw_ob5_t (tw_rTr h0 h (by omega)) ?_ | refine tw_ob2_t (tw_fail_ok rfl) ?_ | refine tw_bind_t (tw_isPr hx hy) ?_ | refine tw_ite_s (fun _ => ?_) (fun _ => ?_))) <;> first | rfl | (exfalso; omega) | (rw [Int.sub_zero]; done) | (rw [Int.add_zero]; done) | (simp only [Int.sub_zero, Int.add_zero]; done)
  by_cases d2 : (x < 0 ↔ y < 0)
  · rw [if_pos (Or.inr d2)]
    unfold f_Mod_sums
    rw [e, show x - (x - m) = m by omega]
    (repeat' (first | (first | refine tw_ite_t (by first | omega | (simp only [tw_gq]; omega)) ?_ | refine tw_ite_f (by first | omega | (simp only [tw_gq]; omega)) ?_) | refine tw_ob5_t (tw_rmake h0 h) ?_ | refine tw_ob5_t (tw_rTr h0 h (by omega)) ?_ | refine tw_ob2_t (tw_fail_ok rfl) ?_ | refine tw_bind_t (tw_isPr hx hy) ?_ | refine tw_ite_s (fun _ => ?_) (fun _ => ?_))) <;> first | rfl | (exfalso; omega) | (rw [Int.sub_zero]; done) | (rw [Int.add_zero]; done) | (simp only [Int.sub_zero, Int.add_zero]; done)
  · rw [if_neg (by omega)]
    unfold f_Mod_sums
    rw [e, show x - (x - m) = m by omega]
    (repeat' (first | (first | refine tw_ite_t (by first | omega | (simp only [tw_gq]; omega)) ?_ | refine tw_ite_f (by first | omega | (simp only [tw_gq]; omega)) ?_) | refine tw_ob5_t (tw_rmake h0 h) ?_ | refine tw_ob5_t (tw_rTr h0 h (by omega)) ?_ | refine tw_ob2_t (tw_fail_ok rfl) ?_ | refine tw_bind_t (tw_isPr hx hy) ?_ | refine tw_ite_s (fun _ => ?_) (fun _ => ?_))) <;> first | rfl | (exfalso; omega) | (rw [Int.sub_zero]; done) | (rw [Int.add_zero]; done) | (simp only [Int.sub_zero, Int.add_zero]; done)
set_option maxRecDepth 100000 in
theorem tw_sm_4y {R_values x y : Int} {R_valueKinds R_valueNumbers R_given : Int → Int} (h0 : 0 ≤ R_values) (h : R_values < 3700) (hx : tw_fits64 x) (hy : tw_fits64 y) (c : ¬ y = 0) : f_Mod_sums R_values 0 R_valueKinds R_valueNumbers R_given 4 x y = some (R_values, R_values + 1, 0, upZ R_valueKinds R_values 0, upZ R_valueNumbers R_values (tw_flm x y), upZ R_given R_values 0) := by
  have hx' : -9223372036854775808 ≤ x ∧ x ≤ 9223372036854775807 := hx
  have hy' : -9223372036854775808 ≤ y ∧ y ≤ 9223372036854775807 := hy
  obtain ⟨m, e, m1, m2, m3, m4⟩ := tw_tm_facts x y (by omega)
  have mr : -9223372036854775808 ≤ m ∧ m ≤ 9223372036854775807 := by
    by_cases z : 0 ≤ x
    · have := m1 z; omega
    · have := m2 (by omega); omega
  clear m1 m2 m3 m4
  unfold tw_flm
  rw [e, show x - (x - m) = m by omega]
  by_cases c1 : y = -1 ∧ x = -9223372036854775808
  · obtain ⟨rfl, rfl⟩ := c1
    have e' : Int.tdiv (-9223372036854775808) (-1) * (-1) = (-9223372036854775808 : Int) := by decide
    have : m = 0 := by omega
    subst this
    rw [if_pos (Or.inl rfl)]
    unfold f_Mod_sums
    (repeat' (first | (first | refine tw_ite_t (by first | omega | (simp only [tw_gq]; omega)) ?_ | refine tw_ite_f (by first | omega | (simp only [tw_gq]; omega)) ?_) | refine tw_ob5_t (tw_rmake h0 h) ?_ | refine tw_ob5_t (tw_rTr h0 h (by omega)) ?_ | refine tw_ob2_t (tw_fail_ok rfl) ?_ | refine tw_bind_t (tw_isPr hx hy) ?_ | refine tw_ite_s (fun _ => ?_) (fun _ => ?_))) <;> first | rfl | (exfalso; omega) | (rw [Int.sub_zero]; done) | (rw [Int.add_zero]; done) | (simp only [Int.sub_zero, Int.add_zero]; done)
  by_cases d1 : m = 0
  · rw [if_pos (Or.inl d1)]
    unfold f_Mod_sums
    rw [e, show x - (x - m) = m by omega]
    (repeat' (first | (first | refine tw_ite_t (by first | omega | (simp only [tw_gq]; omega)) ?_ | refine tw_ite_f (by first | omega | (simp only [tw_gq]; omega)) ?_) | refine tw_ob5_t (tw_rmake h0 h) ?_ | refine tw_ob5_t (tw_rTr h0 h (by omega)) ?_ | refine tw_ob2_t (tw_fail_ok rfl) ?_ | refine tw_bind_t (tw_isPr hx hy) ?_ | refine tw_ite_s (fun _ => ?_) (fun _ => ?_))) <;> first | rfl | (exfalso; omega) | (rw [Int.sub_zero]; done) | (rw [Int.add_zero]; done) | (simp only [Int.sub_zero, Int.add_zero]; done)
  by_cases d2 : (x < 0 ↔ y < 0)
  · rw [if_pos (Or.inr d2)]
    unfold f_Mod_sums
    rw [e, show x - (x - m) = m by omega]
    (repeat' (first | (first | refine tw_ite_t (by first | omega | (simp only [tw_gq]; omega)) ?_ | refine tw_ite_f (by first | omega | (simp only [tw_gq]; omega)) ?_) | refine tw_ob5_t (tw_rmake h0 h) ?_ | refine tw_ob5_t (tw_rTr h0 h (by omega)) ?_ | refine tw_ob2_t (tw_fail_ok rfl) ?_ | refine tw_bind_t (tw_isPr hx hy) ?_ | refine tw_ite_s (fun _ => ?_) (fun _ => ?_))) <;> first | rfl | (exfalso; omega) | (rw [Int.sub_zero]; done) | (rw [Int.add_zero]; done) | (simp only [Int.sub_zero, Int.add_zero]; done)
  · rw [if_neg (by omega)]
    unfold f_Mod_sums
    rw [e, show x - (x - m) = m by omega]
    (repeat' (first | (first | refine tw_ite_t (by first | omega | (simp only [tw_gq]; omega)) ?_ | refine tw_ite_f (by first | omega | (simp only [tw_gq]; omega)) ?_) | refine tw_ob5_t (tw_rmake h0 h) ?_ | refine tw_ob5_t (tw_rTr h0 h (by omega)) ?_ | refine tw_ob2_t (tw_fail_ok rfl) ?_ | refine tw_bind_t (tw_isPr hx hy) ?_ | refine tw_ite_s (fun _ => ?_) (fun _ => ?_))) <;> first | rfl | (exfalso; omega) | (rw [Int.sub_zero]; done) | (rw [Int.add_zero]; done) | (simp only [Int.sub_zero, Int.add_zero]; done)
set_option maxRecDepth 100000 in
theorem tw_sm_7y {R_values x y : Int} {R_valueKinds R_valueNumbers R_given : Int → Int} (h0 : 0 ≤ R_values) (h : R_values < 3700) (hx : tw_fits64 x) (hy : tw_fits64 y) (c : x = y) : f_Mod_sums R_values 0 R_valueKinds R_valueNumbers R_given 7 x y = some (R_values, R_values + 1, 0, upZ R_valueKinds R_values 2, upZ R_valueNumbers R_values 1, upZ R_given R_values 0) := by
  have hx' : -9223372036854775808 ≤ x ∧ x ≤ 9223372036854775807 := hx
  have hy' : -9223372036854775808 ≤ y ∧ y ≤ 9223372036854775807 := hy
  unfold f_Mod_sums
  (repeat' (first | (first | refine tw_ite_t (by first | omega | (simp only [tw_gq]; omega)) ?_ | refine tw_ite_f (by first | omega | (simp only [tw_gq]; omega)) ?_) | refine tw_ob5_t (tw_rmake h0 h) ?_ | refine tw_ob5_t (tw_rTr h0 h (by omega)) ?_ | refine tw_ob2_t (tw_fail_ok rfl) ?_ | refine tw_bind_t (tw_isPr hx hy) ?_ | refine tw_ite_s (fun _ => ?_) (fun _ => ?_))) <;> first | rfl | (exfalso; omega) | (rw [Int.sub_zero]; done) | (rw [Int.add_zero]; done) | (simp only [Int.sub_zero, Int.add_zero]; done)
set_option maxRecDepth 100000 in
theorem tw_sm_7n {R_values x y : Int} {R_valueKinds R_valueNumbers R_given : Int → Int} (h0 : 0 ≤ R_values) (h : R_values < 3700) (hx : tw_fits64 x) (hy : tw_fits64 y) (c : ¬ (x = y)) : f_Mod_sums R_values 0 R_valueKinds R_valueNumbers R_given 7 x y = some (R_values, R_values + 1, 0, upZ R_valueKinds R_values 2, upZ R_valueNumbers R_values 0, upZ R_given R_values 0) := by
  have hx' : -9223372036854775808 ≤ x ∧ x ≤ 9223372036854775807 := hx
  have hy' : -9223372036854775808 ≤ y ∧ y ≤ 9223372036854775807 := hy
  unfold f_Mod_sums
  (repeat' (first | (first | refine tw_ite_t (by first | omega | (simp only [tw_gq]; omega)) ?_ | refine tw_ite_f (by first | omega | (simp only [tw_gq]; omega)) ?_) | refine tw_ob5_t (tw_rmake h0 h) ?_ | refine tw_ob5_t (tw_rTr h0 h (by omega)) ?_ | refine tw_ob2_t (tw_fail_ok rfl) ?_ | refine tw_bind_t (tw_isPr hx hy) ?_ | refine tw_ite_s (fun _ => ?_) (fun _ => ?_))) <;> first | rfl | (exfalso; omega) | (rw [Int.sub_zero]; done) | (rw [Int.add_zero]; done) | (simp only [Int.sub_zero, Int.add_zero]; done)
set_option maxRecDepth 100000 in
theorem tw_sm_8y {R_values x y : Int} {R_valueKinds R_valueNumbers R_given : Int → Int} (h0 : 0 ≤ R_values) (h : R_values < 3700) (hx : tw_fits64 x) (hy : tw_fits64 y) (c : x < y) : f_Mod_sums R_values 0 R_valueKinds R_valueNumbers R_given 8 x y = some (R_values, R_values + 1, 0, upZ R_valueKinds R_values 2, upZ R_valueNumbers R_values 1, upZ R_given R_values 0) := by
  have hx' : -9223372036854775808 ≤ x ∧ x ≤ 9223372036854775807 := hx
  have hy' : -9223372036854775808 ≤ y ∧ y ≤ 9223372036854775807 := hy
  unfold f_Mod_sums
  (repeat' (first | (first | refine tw_ite_t (by first | omega | (simp only [tw_gq]; omega)) ?_ | refine tw_ite_f (by first | omega | (simp only [tw_gq]; omega)) ?_) | refine tw_ob5_t (tw_rmake h0 h) ?_ | refine tw_ob5_t (tw_rTr h0 h (by omega)) ?_ | refine tw_ob2_t (tw_fail_ok rfl) ?_ | refine tw_bind_t (tw_isPr hx hy) ?_ | refine tw_ite_s (fun _ => ?_) (fun _ => ?_))) <;> first | rfl | (exfalso; omega) | (rw [Int.sub_zero]; done) | (rw [Int.add_zero]; done) | (simp only [Int.sub_zero, Int.add_zero]; done)
set_option maxRecDepth 100000 in
theorem tw_sm_8n {R_values x y : Int} {R_valueKinds R_valueNumbers R_given : Int → Int} (h0 : 0 ≤ R_values) (h : R_values < 3700) (hx : tw_fits64 x) (hy : tw_fits64 y) (c : ¬ (x < y)) : f_Mod_sums R_values 0 R_valueKinds R_valueNumbers R_given 8 x y = some (R_values, R_values + 1, 0, upZ R_valueKinds R_values 2, upZ R_valueNumbers R_values 0, upZ R_given R_values 0) := by
  have hx' : -9223372036854775808 ≤ x ∧ x ≤ 9223372036854775807 := hx
  have hy' : -9223372036854775808 ≤ y ∧ y ≤ 9223372036854775807 := hy
  unfold f_Mod_sums
  (repeat' (first | (first | refine tw_ite_t (by first | omega | (simp only [tw_gq]; omega)) ?_ | refine tw_ite_f (by first | omega | (simp only [tw_gq]; omega)) ?_) | refine tw_ob5_t (tw_rmake h0 h) ?_ | refine tw_ob5_t (tw_rTr h0 h (by omega)) ?_ | refine tw_ob2_t (tw_fail_ok rfl) ?_ | refine tw_bind_t (tw_isPr hx hy) ?_ | refine tw_ite_s (fun _ => ?_) (fun _ => ?_))) <;> first | rfl | (exfalso; omega) | (rw [Int.sub_zero]; done) | (rw [Int.add_zero]; done) | (simp only [Int.sub_zero, Int.add_zero]; done)
set_option maxRecDepth 100000 in
theorem tw_sm_9y {R_values x y : Int} {R_valueKinds R_valueNumbers R_given : Int → Int} (h0 : 0 ≤ R_values) (h : R_values < 3700) (hx : tw_fits64 x) (hy : tw_fits64 y) (c : x ≤ y) : f_Mod_sums R_values 0 R_valueKinds R_valueNumbers R_given 9 x y = some (R_values, R_values + 1, 0, upZ R_valueKinds R_values 2, upZ R_valueNumbers R_values 1, upZ R_given R_values 0) := by
  have hx' : -9223372036854775808 ≤ x ∧ x ≤ 9223372036854775807 := hx
  have hy' : -9223372036854775808 ≤ y ∧ y ≤ 9223372036854775807 := hy
  unfold f_Mod_sums
  (repeat' (first | (first | refine tw_ite_t (by first | omega | (simp only [tw_gq]; omega)) ?_ | refine tw_ite_f (by first | omega | (simp only [tw_gq]; omega)) ?_) | refine tw_ob5_t (tw_rmake h0 h) ?_ | refine tw_ob5_t (tw_rTr h0 h (by omega)) ?_ | refine tw_ob2_t (tw_fail_ok rfl) ?_ | refine tw_bind_t (tw_isPr hx hy) ?_ | refine tw_ite_s (fun _ => ?_) (fun _ => ?_))) <;> first | rfl | (exfalso; omega) | (rw [Int.sub_zero]; done) | (rw [Int.add_zero]; done) | (simp only [Int.sub_zero, Int.add_zero]; done)
set_option maxRecDepth 100000 in
theorem tw_sm_9n {R_values x y : Int} {R_valueKinds R_valueNumbers R_given : Int → Int} (h0 : 0 ≤ R_values) (h : R_values < 3700) (hx : tw_fits64 x) (hy : tw_fits64 y) (c : ¬ (x ≤ y)) : f_Mod_sums R_values 0 R_valueKinds R_valueNumbers R_given 9 x y = some (R_values, R_values + 1, 0, upZ R_valueKinds R_values 2, upZ R_valueNumbers R_values 0, upZ R_given R_values 0) := by
  have hx' : -9223372036854775808 ≤ x ∧ x ≤ 9223372036854775807 := hx
  have hy' : -9223372036854775808 ≤ y ∧ y ≤ 9223372036854775807 := hy
  unfold f_Mod_sums
  (repeat' (first | (first | refine tw_ite_t (by first | omega | (simp only [tw_gq]; omega)) ?_ | refine tw_ite_f (by first | omega | (simp only [tw_gq]; omega)) ?_) | refine tw_ob5_t (tw_rmake h0 h) ?_ | refine tw_ob5_t (tw_rTr h0 h (by omega)) ?_ | refine tw_ob2_t (tw_fail_ok rfl) ?_ | refine tw_bind_t (tw_isPr hx hy) ?_ | refine tw_ite_s (fun _ => ?_) (fun _ => ?_))) <;> first | rfl | (exfalso; omega) | (rw [Int.sub_zero]; done) | (rw [Int.add_zero]; done) | (simp only [Int.sub_zero, Int.add_zero]; done)
set_option maxRecDepth 100000 in
theorem tw_sums_ok {R_values x y : Int} {R_valueKinds R_valueNumbers R_given : Int → Int} (h0 : 0 ≤ R_values) (h : R_values < 3700) (hx : tw_fits64 x) (hy : tw_fits64 y) {op : Int} (ho : 0 ≤ op ∧ op ≤ 9) : f_Mod_sums R_values 0 R_valueKinds R_valueNumbers R_given op x y = (match tw_iop op x y with | none => some (0, R_values, 3, R_valueKinds, R_valueNumbers, R_given) | some r => some (R_values, R_values + 1, 0, upZ R_valueKinds R_values r.1, upZ R_valueNumbers R_values r.2, upZ R_given R_values 0)) := by
  have hc : op = 0 ∨ op = 1 ∨ op = 2 ∨ op = 3 ∨ op = 4 ∨ op = 5 ∨ op = 6 ∨ op = 7 ∨ op = 8 ∨ op = 9 := by omega
  rcases hc with e | e | e | e | e | e | e | e | e | e <;> subst e
  · show _ = (match (if tw_fits64 (x + y) then some ((0 : Int), x + y) else none) with | none => _ | some r => _)
    by_cases c : tw_fits64 (x + y)
    · rw [if_pos c]; exact tw_sm_0y h0 h hx hy c
    · rw [if_neg c]; exact tw_sm_0n h0 h hx hy c
  · show _ = (match (if tw_fits64 (x - y) then some ((0 : Int), x - y) else none) with | none => _ | some r => _)
    by_cases c : tw_fits64 (x - y)
    · rw [if_pos c]; exact tw_sm_1y h0 h hx hy c
    · rw [if_neg c]; exact tw_sm_1n h0 h hx hy c
  · show _ = (match (if tw_fits64 (x * y) then some ((0 : Int), x * y) else none) with | none => _ | some r => _)
    by_cases c : tw_fits64 (x * y)
    · rw [if_pos c]; exact tw_sm_2y h0 h hx hy c
    · rw [if_neg c]; exact tw_sm_2n h0 h hx hy c
  · show _ = (match (if y = 0 ∨ (y = -1 ∧ x = -9223372036854775808) then none else some ((0 : Int), tw_flr x y)) with | none => _ | some r => _)
    by_cases c : y = 0 ∨ (y = -1 ∧ x = -9223372036854775808)
    · rw [if_pos c]; exact tw_sm_3n h0 h hx hy c
    · rw [if_neg c]; exact tw_sm_3y h0 h hx hy c
  · show _ = (match (if y = 0 then none else some ((0 : Int), tw_flm x y)) with | none => _ | some r => _)
    by_cases c : y = 0
    · rw [if_pos c]; exact tw_sm_4n h0 h hx hy c
    · rw [if_neg c]; exact tw_sm_4y h0 h hx hy c
  · show _ = (match (if y = 0 ∨ (y = -1 ∧ x = -9223372036854775808) then none else some ((0 : Int), Int.tdiv x y)) with | none => _ | some r => _)
    by_cases c : y = 0 ∨ (y = -1 ∧ x = -9223372036854775808)
    · rw [if_pos c]; exact tw_sm_5n h0 h hx hy c
    · rw [if_neg c]; exact tw_sm_5y h0 h hx hy c
  · show _ = (match (if y = 0 then none else some ((0 : Int), x - Int.tdiv x y * y)) with | none => _ | some r => _)
    by_cases c : y = 0
    · rw [if_pos c]; exact tw_sm_6n h0 h hx hy c
    · rw [if_neg c]; exact tw_sm_6y h0 h hx hy c
  · show _ = some (R_values, R_values + 1, 0, upZ R_valueKinds R_values 2, upZ R_valueNumbers R_values (if x = y then 1 else 0), upZ R_given R_values 0)
    by_cases c : x = y
    · rw [if_pos c]; exact tw_sm_7y h0 h hx hy c
    · rw [if_neg c]; exact tw_sm_7n h0 h hx hy c
  · show _ = some (R_values, R_values + 1, 0, upZ R_valueKinds R_values 2, upZ R_valueNumbers R_values (if x < y then 1 else 0), upZ R_given R_values 0)
    by_cases c : x < y
    · rw [if_pos c]; exact tw_sm_8y h0 h hx hy c
    · rw [if_neg c]; exact tw_sm_8n h0 h hx hy c
  · show _ = some (R_values, R_values + 1, 0, upZ R_valueKinds R_values 2, upZ R_valueNumbers R_values (if x ≤ y then 1 else 0), upZ R_given R_values 0)
    by_cases c : x ≤ y
    · rw [if_pos c]; exact tw_sm_9y h0 h hx hy c
    · rw [if_neg c]; exact tw_sm_9n h0 h hx hy c
