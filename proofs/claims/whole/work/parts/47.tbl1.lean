/-! Every word of the walk stands in the tables. Laid by program (wip/whole/gen/tbl.py). -/
def tgK (k : Nat) : List Cond := match k with
  | 0 => k2_sels lw_privs
  | 1 => tables_1_1
  | 2 => tables_1_2
  | 3 => tables_1_3
  | 4 => tables_1_4
  | 5 => tables_1_5
  | 6 => tables_1_6
  | _ => tables_1_7
theorem tgK_in (k : Nat) {w : Cond} (h : w ∈ tgK k) : w ∈ lw_tbl := by
  show w ∈ k2_sels lw_privs ++ (tables_1_1 ++ (tables_1_2 ++ (tables_1_3 ++ (tables_1_4 ++ (tables_1_5 ++ (tables_1_6 ++ tables_1_7))))))
  simp only [List.mem_append]
  unfold tgK at h
  split at h
  · exact Or.inl h
  · exact Or.inr (Or.inl h)
  · exact Or.inr (Or.inr (Or.inl h))
  · exact Or.inr (Or.inr (Or.inr (Or.inl h)))
  · exact Or.inr (Or.inr (Or.inr (Or.inr (Or.inl h))))
  · exact Or.inr (Or.inr (Or.inr (Or.inr (Or.inr (Or.inl h)))))
  · exact Or.inr (Or.inr (Or.inr (Or.inr (Or.inr (Or.inr (Or.inl h))))))
  · exact Or.inr (Or.inr (Or.inr (Or.inr (Or.inr (Or.inr (Or.inr h))))))
theorem tb_of {ws : List Cond} (idx : List (Nat × Nat)) (h : ws.map some = idx.map (fun q => (tgK q.1)[q.2]?)) : ∀ w ∈ ws, w ∈ lw_tbl := by
  intro w hw
  have z : some w ∈ ws.map some := List.mem_map.mpr ⟨w, hw, rfl⟩
  rw [h] at z
  obtain ⟨i, -, hi⟩ := List.mem_map.mp z
  exact tgK_in i.1 (List.mem_of_getElem? hi)
set_option maxRecDepth 20000 in
theorem tb_0 : ∀ w ∈ u_ws R_Cek T_Cek 3, w ∈ lw_tbl := tb_of [(2, 29), (2, 31), (2, 33)] rfl
set_option maxRecDepth 20000 in
theorem tb_1 : ∀ w ∈ u_ws R_Terms T_Terms 7, w ∈ lw_tbl := tb_of [(1, 64), (1, 66), (1, 68), (1, 70), (1, 72), (1, 74), (1, 76)] rfl
set_option maxRecDepth 20000 in
theorem tb_2 : ∀ w ∈ u_ws R_ByteRow T_ByteRow 2, w ∈ lw_tbl := tb_of [(1, 49), (1, 51)] rfl
set_option maxRecDepth 20000 in
theorem tb_3 : ∀ w ∈ u_ws R_Evaluator T_Evaluator 9, w ∈ lw_tbl := tb_of [(2, 7), (2, 9), (2, 11), (2, 13), (2, 15), (2, 17), (2, 19), (2, 21), (2, 23)] rfl
set_option maxRecDepth 20000 in
theorem tb_4 : ∀ w ∈ u_ws R_Values T_Values 7, w ∈ lw_tbl := tb_of [(1, 141), (1, 143), (1, 145), (1, 147), (1, 149), (1, 151), (1, 153)] rfl
set_option maxRecDepth 20000 in
theorem tb_5 : ∀ w ∈ u_ws R_DataRow T_DataRow 7, w ∈ lw_tbl := tb_of [(1, 115), (1, 117), (1, 119), (1, 121), (1, 123), (1, 125), (1, 127)] rfl
set_option maxRecDepth 20000 in
theorem tb_6 : ∀ w ∈ u_ws R_Meter T_Meter 5, w ∈ lw_tbl := tb_of [(1, 167), (1, 169), (1, 171), (1, 173), (1, 175)] rfl
set_option maxRecDepth 20000 in
theorem tb_7 : ∀ w ∈ u_ws R_Waiting T_Waiting 5, w ∈ lw_tbl := tb_of [(1, 189), (1, 191), (1, 193), (1, 195), (1, 197)] rfl
set_option maxRecDepth 20000 in
theorem tb_8 : ∀ w ∈ u_ws R_Scopes T_Scopes 3, w ∈ lw_tbl := tb_of [(1, 209), (1, 211), (1, 213)] rfl
set_option maxRecDepth 20000 in
theorem tb_9 : ∀ w ∈ u_ws R_Builtins T_Builtins 4, w ∈ lw_tbl := tb_of [(1, 226), (1, 228), (1, 230), (1, 232)] rfl
set_option maxRecDepth 20000 in
theorem tb_10 : ∀ w ∈ u_ws R_Mod T_Mod 52, w ∈ lw_tbl := tb_of [(5, 205), (5, 207), (5, 209), (5, 211), (5, 213), (5, 215), (5, 217), (5, 219), (5, 221), (5, 223), (5, 225), (5, 227), (5, 229), (5, 231), (5, 233), (5, 235), (5, 237), (5, 239), (6, 1), (6, 3), (6, 5), (6, 7), (6, 9), (6, 11), (6, 13), (6, 15), (6, 17), (6, 19), (6, 21), (6, 23), (6, 25), (6, 27), (6, 29), (6, 31), (6, 33), (6, 35), (6, 37), (6, 39), (6, 41), (6, 43), (6, 45), (6, 47), (6, 49), (6, 51), (6, 53), (6, 55), (6, 57), (6, 59), (6, 61), (6, 63), (6, 65), (6, 67)] rfl
set_option maxRecDepth 20000 in
theorem tb_11 : ∀ w ∈ wo_Builtins_init, w ∈ lw_tbl := tb_of [(1, 221), (1, 30), (1, 31), (1, 54), (1, 224), (1, 225), (1, 222), (1, 223)] rfl
set_option maxRecDepth 20000 in
theorem tb_12 : ∀ w ∈ wo_Builtins_takes, w ∈ lw_tbl := tb_of [] rfl
set_option maxRecDepth 20000 in
theorem tb_13 : ∀ w ∈ wo_Builtins_forget, w ∈ lw_tbl := tb_of [(1, 225)] rfl
set_option maxRecDepth 20000 in
theorem tb_14 : ∀ w ∈ wo_Builtins_isReady, w ∈ lw_tbl := tb_of [(1, 225)] rfl
set_option maxRecDepth 20000 in
theorem tb_15 : ∀ w ∈ wo_Builtins_take, w ∈ lw_tbl := tb_of [(1, 222), (4, 150), (4, 151), (4, 152), (1, 6), (4, 153), (5, 101), (5, 102), (5, 103), (5, 104), (3, 237), (3, 238), (1, 11), (3, 239), (4, 16), (4, 17), (4, 18), (1, 18), (4, 19), (1, 223), (5, 51), (3, 206), (3, 207), (1, 8), (3, 208), (5, 105), (3, 230), (3, 231), (3, 232), (5, 106), (5, 108), (0, 39), (1, 11), (5, 109), (1, 225)] rfl
set_option maxRecDepth 20000 in
theorem tb_16 : ∀ w ∈ wo_Builtins_perform, w ∈ lw_tbl := tb_of [(1, 225), (3, 237), (3, 238), (1, 11), (3, 239), (1, 223), (4, 16), (4, 17), (4, 18), (1, 18), (4, 19), (4, 26), (4, 28), (0, 19), (1, 11), (4, 29), (4, 41), (3, 184), (3, 185), (1, 8), (3, 186), (4, 42), (4, 44), (0, 20), (4, 45), (4, 149), (3, 188), (3, 189), (3, 190), (1, 222), (1, 224), (4, 150), (4, 151), (4, 152), (1, 6), (4, 153), (4, 154), (4, 156), (0, 22), (4, 157), (4, 187), (4, 189), (0, 23), (4, 190), (4, 235), (4, 237), (0, 28), (4, 238), (5, 32), (5, 34), (0, 33), (5, 35), (4, 30), (4, 31), (4, 32), (4, 33), (5, 51), (3, 206), (3, 207), (3, 208)] rfl
set_option maxRecDepth 20000 in
theorem tb_17 : ∀ w ∈ wo_Builtins_gather, w ∈ lw_tbl := tb_of [(5, 110), (4, 109), (1, 4), (4, 110), (1, 224), (1, 222), (5, 111), (5, 112), (5, 113), (1, 6), (5, 114), (5, 115), (5, 116), (5, 117), (5, 118)] rfl
set_option maxRecDepth 20000 in
theorem tb_18 : ∀ w ∈ wo_Builtins_sizeOfGiven, w ∈ lw_tbl := tb_of [(1, 222), (1, 224), (4, 30), (4, 31), (4, 32), (1, 6), (4, 33)] rfl
set_option maxRecDepth 20000 in
theorem tb_19 : ∀ w ∈ wo_Builtins_allFit, w ∈ lw_tbl := tb_of [(4, 16), (4, 17), (4, 18), (1, 18), (4, 19), (4, 46), (4, 47), (4, 48), (4, 49), (1, 224), (4, 84), (4, 86), (0, 21), (1, 11), (4, 87)] rfl
set_option maxRecDepth 20000 in
theorem tb_20 : ∀ w ∈ wo_Builtins_fits, w ∈ lw_tbl := tb_of [(1, 222), (4, 88), (2, 103), (2, 104), (1, 6), (2, 105), (1, 134), (4, 89), (2, 139), (2, 140), (2, 141), (4, 90), (2, 147), (2, 148), (1, 7), (2, 149), (4, 92), (4, 93), (4, 94), (1, 18), (4, 95)] rfl
set_option maxRecDepth 20000 in
theorem tb_21 : ∀ w ∈ wo_Builtins_onIntegers, w ∈ lw_tbl := tb_of [(4, 158), (4, 159), (1, 11), (4, 160), (1, 222), (4, 163), (4, 164), (4, 165), (1, 6), (4, 166), (4, 167), (4, 168), (1, 11), (4, 169), (4, 170), (4, 171), (1, 11), (4, 172), (4, 174), (4, 175), (1, 11), (4, 176), (4, 177), (4, 178), (1, 4), (4, 179), (4, 180), (4, 181), (1, 4), (4, 182), (4, 183), (4, 184), (4, 185), (4, 186)] rfl
set_option maxRecDepth 20000 in
theorem tb_22 : ∀ w ∈ wo_Builtins_sumFits, w ∈ lw_tbl := tb_of [(4, 161), (4, 162)] rfl
set_option maxRecDepth 20000 in
theorem tb_23 : ∀ w ∈ wo_Builtins_differenceFits, w ∈ lw_tbl := tb_of [(4, 162), (4, 161)] rfl
set_option maxRecDepth 20000 in
theorem tb_24 : ∀ w ∈ wo_Builtins_productFits, w ∈ lw_tbl := tb_of [(4, 173), (4, 162)] rfl
set_option maxRecDepth 20000 in
theorem tb_25 : ∀ w ∈ wo_Builtins_quotientFits, w ∈ lw_tbl := tb_of [(4, 173), (4, 162)] rfl
set_option maxRecDepth 20000 in
theorem tb_26 : ∀ w ∈ wo_Builtins_onBytes, w ∈ lw_tbl := tb_of [(1, 224), (4, 191), (4, 193), (0, 24), (1, 11), (4, 194), (1, 222), (4, 195), (2, 111), (2, 112), (1, 6), (2, 113), (4, 163), (4, 164), (4, 165), (4, 166), (4, 150), (4, 151), (4, 152), (4, 153), (4, 211), (4, 213), (0, 25), (4, 214), (4, 216), (4, 218), (0, 26), (4, 219), (4, 226), (4, 228), (0, 27), (4, 229), (4, 183), (4, 184), (4, 185), (4, 186)] rfl
set_option maxRecDepth 20000 in
theorem tb_27 : ∀ w ∈ wo_Builtins_join, w ∈ lw_tbl := tb_of [(1, 222), (4, 195), (2, 111), (2, 112), (1, 6), (2, 113), (1, 132), (4, 196), (4, 197), (4, 198), (1, 3), (4, 199), (4, 200), (2, 119), (2, 120), (2, 121), (4, 201), (4, 202), (4, 203), (4, 204), (4, 207), (4, 208), (4, 209), (4, 210)] rfl
set_option maxRecDepth 20000 in
theorem tb_28 : ∀ w ∈ wo_Builtins_byteOf, w ∈ lw_tbl := tb_of [(1, 222), (4, 195), (2, 111), (2, 112), (1, 6), (2, 113), (1, 132), (4, 200), (2, 119), (2, 120), (2, 121), (4, 215), (2, 127), (2, 128), (1, 3), (2, 129), (4, 163), (4, 164), (4, 165), (4, 166)] rfl
set_option maxRecDepth 20000 in
theorem tb_29 : ∀ w ∈ wo_Builtins_slice, w ∈ lw_tbl := tb_of [(4, 220), (4, 221), (1, 4), (4, 222), (1, 222), (4, 195), (2, 111), (2, 112), (1, 6), (2, 113), (4, 223), (4, 224), (4, 225), (4, 200), (2, 119), (2, 120), (2, 121), (4, 207), (4, 208), (4, 209), (4, 210)] rfl
set_option maxRecDepth 20000 in
theorem tb_30 : ∀ w ∈ wo_Builtins_compareBytes, w ∈ lw_tbl := tb_of [(1, 222), (1, 132), (4, 200), (2, 119), (2, 120), (1, 6), (2, 121), (4, 195), (2, 111), (2, 112), (2, 113), (4, 230), (4, 231), (4, 232), (1, 3), (4, 233)] rfl
set_option maxRecDepth 20000 in
theorem tb_31 : ∀ w ∈ wo_Builtins_onData, w ∈ lw_tbl := tb_of [(1, 222), (1, 134), (1, 224), (4, 89), (2, 139), (2, 140), (1, 6), (2, 141), (4, 239), (5, 1), (0, 29), (1, 11), (5, 2), (4, 183), (4, 184), (4, 185), (4, 186), (4, 90), (2, 147), (2, 148), (1, 7), (2, 149), (4, 163), (4, 164), (4, 165), (4, 166), (5, 9), (2, 155), (2, 156), (2, 157), (5, 8), (2, 151), (2, 152), (2, 153), (5, 10), (5, 11), (5, 12), (5, 13), (5, 22), (5, 23), (5, 24), (5, 25), (4, 150), (4, 151), (4, 152), (4, 153), (5, 26), (5, 28), (0, 32), (5, 29), (5, 31), (1, 105), (1, 106), (1, 107), (4, 200), (2, 119), (2, 120), (2, 121), (4, 195), (2, 111), (2, 112), (2, 113), (4, 207), (4, 208), (4, 209), (4, 210)] rfl
set_option maxRecDepth 20000 in
theorem tb_32 : ∀ w ∈ wo_Builtins_toConstructor, w ∈ lw_tbl := tb_of [(5, 30), (1, 222), (1, 134), (5, 8), (2, 151), (2, 152), (1, 7), (2, 153), (5, 10), (5, 11), (5, 12), (5, 13), (5, 22), (5, 23), (5, 24), (1, 6), (5, 25)] rfl
set_option maxRecDepth 20000 in
theorem tb_33 : ∀ w ∈ wo_Builtins_onLists, w ∈ lw_tbl := tb_of [(1, 222), (1, 134), (1, 224), (4, 89), (2, 139), (2, 140), (1, 6), (2, 141), (5, 8), (2, 151), (2, 152), (1, 7), (2, 153), (5, 22), (5, 23), (5, 24), (5, 25), (5, 36), (5, 37), (5, 38), (5, 39), (5, 46), (5, 47), (5, 48), (5, 49), (4, 183), (4, 184), (4, 185), (4, 186), (5, 10), (5, 11), (5, 12), (5, 13)] rfl
set_option maxRecDepth 20000 in
theorem tb_34 : ∀ w ∈ wo_Builtins_sameData, w ∈ lw_tbl := tb_of [(1, 222), (1, 134), (5, 3), (2, 143), (2, 144), (1, 7), (2, 145), (5, 4), (5, 6), (0, 30), (1, 11), (5, 7)] rfl
set_option maxRecDepth 20000 in
theorem tb_35 : ∀ w ∈ wo_Builtins_sameNode, w ∈ lw_tbl := tb_of [(1, 222), (1, 134), (5, 8), (2, 151), (2, 152), (1, 7), (2, 153), (4, 90), (2, 147), (2, 148), (2, 149), (5, 9), (2, 155), (2, 156), (2, 157), (1, 132), (4, 230), (4, 231), (4, 232), (1, 3), (4, 233)] rfl
set_option maxRecDepth 20000 in
theorem tb_36 : ∀ w ∈ wo_ByteRow_init, w ∈ lw_tbl := tb_of [(1, 43), (1, 30), (1, 31), (1, 48), (1, 44), (1, 45), (1, 4), (1, 46), (1, 56), (1, 47)] rfl
set_option maxRecDepth 20000 in
theorem tb_37 : ∀ w ∈ wo_ByteRow_at, w ∈ lw_tbl := tb_of [(1, 47)] rfl
set_option maxRecDepth 20000 in
theorem tb_38 : ∀ w ∈ wo_ByteRow_put, w ∈ lw_tbl := tb_of [(1, 47)] rfl
set_option maxRecDepth 20000 in
theorem tb_39 : ∀ w ∈ wo_ByteRow_cut, w ∈ lw_tbl := tb_of [(1, 48)] rfl
set_option maxRecDepth 20000 in
theorem tb_40 : ∀ w ∈ wo_ByteRow_append, w ∈ lw_tbl := tb_of [(1, 48), (4, 205), (2, 127), (2, 128), (1, 3), (2, 129), (4, 206), (2, 75), (2, 76), (2, 77), (1, 44), (1, 45), (1, 4), (1, 46)] rfl
set_option maxRecDepth 20000 in
theorem tb_41 : ∀ w ∈ wo_ByteRow_end, w ∈ lw_tbl := tb_of [(1, 48)] rfl
set_option maxRecDepth 20000 in
theorem tb_42 : ∀ w ∈ wo_ByteRow_compare, w ∈ lw_tbl := tb_of [(4, 234), (4, 109), (1, 4), (4, 110), (4, 205), (2, 127), (2, 128), (1, 3), (2, 129)] rfl
set_option maxRecDepth 20000 in
theorem tb_43 : ∀ w ∈ wo_DataRow_init, w ∈ lw_tbl := tb_of [(1, 99), (1, 30), (1, 31), (1, 54), (1, 108), (1, 109), (1, 55), (1, 110), (1, 111), (1, 112), (1, 113), (1, 114), (1, 100), (1, 101), (1, 102), (1, 7), (1, 103)] rfl
set_option maxRecDepth 20000 in
theorem tb_44 : ∀ w ∈ wo_DataRow_forget, w ∈ lw_tbl := tb_of [(1, 114), (1, 104), (1, 105), (1, 106), (1, 7), (1, 107)] rfl
set_option maxRecDepth 20000 in
theorem tb_45 : ∀ w ∈ wo_DataRow_formOf, w ∈ lw_tbl := tb_of [(1, 114), (1, 108)] rfl
set_option maxRecDepth 20000 in
theorem tb_46 : ∀ w ∈ wo_DataRow_countOf, w ∈ lw_tbl := tb_of [(1, 114), (1, 109)] rfl
set_option maxRecDepth 20000 in
theorem tb_47 : ∀ w ∈ wo_DataRow_numberOf, w ∈ lw_tbl := tb_of [(1, 114), (1, 110)] rfl
set_option maxRecDepth 20000 in
theorem tb_48 : ∀ w ∈ wo_DataRow_nodesOf, w ∈ lw_tbl := tb_of [(1, 114), (1, 111)] rfl
set_option maxRecDepth 20000 in
theorem tb_49 : ∀ w ∈ wo_DataRow_depthOf, w ∈ lw_tbl := tb_of [(1, 114), (1, 112)] rfl
set_option maxRecDepth 20000 in
theorem tb_50 : ∀ w ∈ wo_DataRow_sizeOf, w ∈ lw_tbl := tb_of [(1, 114), (1, 111), (1, 113)] rfl
set_option maxRecDepth 20000 in
theorem tb_51 : ∀ w ∈ wo_DataRow_leaf, w ∈ lw_tbl := tb_of [(1, 114), (1, 108), (1, 110), (1, 109), (1, 111), (1, 112), (1, 113)] rfl
set_option maxRecDepth 20000 in
theorem tb_52 : ∀ w ∈ wo_DataRow_recast, w ∈ lw_tbl := tb_of [(1, 114), (5, 14), (2, 143), (2, 144), (1, 7), (2, 145), (5, 15), (5, 17), (0, 31), (5, 18), (1, 108), (1, 110), (1, 109)] rfl
set_option maxRecDepth 20000 in
theorem tb_53 : ∀ w ∈ wo_DataRow_prepend, w ∈ lw_tbl := tb_of [(5, 14), (2, 143), (2, 144), (1, 7), (2, 145), (5, 50), (2, 159), (2, 160), (2, 161), (5, 40), (2, 151), (2, 152), (2, 153), (1, 104), (1, 105), (1, 106), (1, 107), (5, 15), (5, 17), (0, 31), (5, 18), (5, 41), (5, 43), (0, 34), (5, 44)] rfl
set_option maxRecDepth 20000 in
theorem tb_54 : ∀ w ∈ wo_DataRow_rest, w ∈ lw_tbl := tb_of [(5, 40), (2, 151), (2, 152), (1, 7), (2, 153), (5, 14), (2, 143), (2, 144), (2, 145), (1, 104), (1, 105), (1, 106), (1, 107), (5, 15), (5, 17), (0, 31), (5, 18), (5, 41), (5, 43), (0, 34), (5, 44)] rfl
set_option maxRecDepth 20000 in
theorem tb_55 : ∀ w ∈ wo_DataRow_copy, w ∈ lw_tbl := tb_of [(1, 114), (1, 108), (5, 19), (5, 21), (5, 20), (1, 23), (1, 109), (1, 110), (1, 111), (1, 112), (1, 113)] rfl
set_option maxRecDepth 20000 in
theorem tb_56 : ∀ w ∈ wo_DataRow_sealed, w ∈ lw_tbl := tb_of [(1, 114), (1, 109), (1, 112), (5, 45), (1, 45), (1, 4), (1, 46), (1, 113), (1, 111)] rfl
set_option maxRecDepth 20000 in
theorem tb_57 : ∀ w ∈ wo_Evaluator_init, w ∈ lw_tbl := tb_of [(1, 84), (1, 30), (1, 31), (1, 85), (1, 86), (1, 6), (1, 88), (1, 6), (1, 89), (1, 235), (1, 156), (1, 157), (1, 8), (1, 159), (1, 8), (1, 160), (1, 237), (1, 178), (1, 179), (1, 9), (1, 181), (1, 9), (1, 182), (1, 239), (1, 200), (1, 201), (1, 10), (1, 203), (1, 10), (1, 204), (2, 1), (1, 216), (1, 217), (1, 11), (1, 218), (1, 219), (1, 11), (1, 220), (2, 2), (2, 4), (2, 5), (2, 6), (2, 3)] rfl
set_option maxRecDepth 20000 in
theorem tb_58 : ∀ w ∈ wo_Evaluator_outcome, w ∈ lw_tbl := tb_of [(2, 6)] rfl
set_option maxRecDepth 20000 in
theorem tb_59 : ∀ w ∈ wo_Evaluator_evaluateLast, w ∈ lw_tbl := tb_of [(1, 237), (3, 106), (3, 107), (3, 108), (1, 8), (3, 109), (1, 239), (3, 110), (3, 111), (3, 112), (1, 9), (3, 113), (2, 1), (3, 114), (3, 115), (3, 116), (1, 10), (3, 117), (2, 2), (3, 118), (3, 119), (3, 120), (1, 11), (3, 121), (1, 235), (3, 122), (3, 123), (3, 124), (1, 6), (3, 125), (2, 3), (3, 131), (3, 132), (3, 133), (3, 134), (2, 6), (3, 157), (2, 53), (2, 54), (1, 2), (2, 55), (3, 158), (3, 160), (0, 12), (1, 5), (3, 161), (3, 162), (3, 163), (3, 165), (0, 13), (3, 166), (2, 4), (3, 179), (3, 181), (0, 14), (3, 182), (3, 167), (3, 168), (3, 169), (3, 170), (3, 233), (3, 234), (3, 235), (3, 236), (5, 52), (5, 54), (0, 35), (5, 55), (3, 175), (3, 176), (3, 177), (3, 178)] rfl
set_option maxRecDepth 20000 in
theorem tb_60 : ∀ w ∈ wo_Evaluator_goesOn, w ∈ lw_tbl := tb_of [(2, 4), (2, 2), (3, 167), (3, 168), (3, 169), (1, 11), (3, 170), (1, 239), (3, 171), (3, 172), (3, 173), (1, 9), (3, 174), (1, 237), (3, 175), (3, 176), (3, 177), (1, 8), (3, 178)] rfl
set_option maxRecDepth 20000 in
theorem tb_61 : ∀ w ∈ wo_Evaluator_evaluateIn, w ∈ lw_tbl := tb_of [(2, 4), (2, 5)] rfl
set_option maxRecDepth 20000 in
theorem tb_62 : ∀ w ∈ wo_Evaluator_evaluateNode, w ∈ lw_tbl := tb_of [(2, 4), (1, 237), (3, 183), (3, 184), (3, 185), (1, 8), (3, 186), (2, 3), (3, 191), (2, 57), (2, 58), (1, 2), (2, 59), (2, 1), (2, 5), (3, 192), (2, 65), (2, 66), (2, 67), (3, 193), (3, 194), (3, 195), (1, 10), (3, 196), (2, 6), (3, 201), (3, 203), (0, 16), (1, 5), (3, 204), (3, 218), (3, 72), (3, 73), (3, 74), (3, 219), (3, 221), (0, 18), (3, 222), (3, 209), (3, 76), (3, 77), (3, 78), (3, 228), (3, 188), (3, 189), (3, 190), (3, 205), (3, 206), (3, 207), (3, 208), (1, 235), (3, 229), (3, 230), (3, 231), (1, 6), (3, 232)] rfl
set_option maxRecDepth 20000 in
theorem tb_63 : ∀ w ∈ wo_Evaluator_hold, w ∈ lw_tbl := tb_of [(1, 237), (3, 205), (3, 206), (3, 207), (1, 8), (3, 208), (1, 235), (2, 3), (3, 209), (3, 76), (3, 77), (1, 2), (3, 78), (2, 5), (3, 210), (3, 211), (3, 212), (1, 6), (3, 213), (2, 6)] rfl
set_option maxRecDepth 20000 in
theorem tb_64 : ∀ w ∈ wo_Evaluator_await, w ∈ lw_tbl := tb_of [(1, 239), (2, 5), (3, 223), (3, 224), (3, 225), (1, 9), (3, 226), (2, 4), (1, 237), (3, 228), (3, 188), (3, 189), (1, 8), (3, 190)] rfl
set_option maxRecDepth 20000 in
theorem tb_65 : ∀ w ∈ wo_Evaluator_goOn, w ∈ lw_tbl := tb_of [(1, 239), (5, 56), (5, 57), (5, 58), (1, 9), (5, 59), (5, 64), (5, 65), (5, 66), (5, 67), (2, 3), (3, 191), (2, 57), (2, 58), (1, 2), (2, 59), (5, 68), (5, 69), (5, 70), (5, 71), (5, 72), (5, 74), (0, 37), (1, 5), (5, 75), (2, 6), (5, 85), (5, 86), (5, 87), (5, 88), (3, 209), (3, 76), (3, 77), (3, 78), (5, 89), (5, 90), (5, 91), (5, 92), (3, 158), (3, 160), (0, 12), (3, 161), (5, 93), (5, 95), (0, 38), (5, 96)] rfl
set_option maxRecDepth 20000 in
theorem tb_66 : ∀ w ∈ wo_Evaluator_force, w ∈ lw_tbl := tb_of [(1, 235), (2, 6), (5, 76), (2, 103), (2, 104), (1, 6), (2, 105), (5, 77), (5, 78), (5, 79), (5, 80), (5, 81), (5, 82), (5, 83), (5, 84), (3, 158), (3, 160), (0, 12), (1, 5), (3, 161), (1, 237), (3, 228), (3, 188), (3, 189), (1, 8), (3, 190)] rfl
set_option maxRecDepth 20000 in
theorem tb_67 : ∀ w ∈ wo_Evaluator_call, w ∈ lw_tbl := tb_of [(1, 235), (5, 76), (2, 103), (2, 104), (1, 6), (2, 105), (2, 2), (2, 6), (5, 97), (5, 98), (5, 99), (1, 11), (5, 100), (1, 237), (3, 228), (3, 188), (3, 189), (1, 8), (3, 190), (3, 205), (3, 206), (3, 207), (3, 208), (2, 1), (5, 81), (5, 82), (5, 83), (5, 84), (5, 119), (5, 120), (5, 121), (1, 10), (5, 122), (5, 77), (5, 78), (5, 79), (5, 80), (3, 158), (3, 160), (0, 12), (1, 5), (3, 161)] rfl
set_option maxRecDepth 20000 in
theorem tb_68 : ∀ w ∈ wo_Meter_init, w ∈ lw_tbl := tb_of [(1, 161), (1, 30), (1, 31), (1, 162), (1, 163), (1, 164), (1, 165), (1, 166)] rfl
set_option maxRecDepth 20000 in
theorem tb_69 : ∀ w ∈ wo_Meter_start, w ∈ lw_tbl := tb_of [(1, 162), (1, 163), (1, 164), (1, 165), (1, 166)] rfl
set_option maxRecDepth 20000 in
theorem tb_70 : ∀ w ∈ wo_Meter_steps, w ∈ lw_tbl := tb_of [(1, 162)] rfl
set_option maxRecDepth 20000 in
theorem tb_71 : ∀ w ∈ wo_Meter_memory, w ∈ lw_tbl := tb_of [(1, 163)] rfl
set_option maxRecDepth 20000 in
theorem tb_72 : ∀ w ∈ wo_Meter_fault, w ∈ lw_tbl := tb_of [(1, 166)] rfl
set_option maxRecDepth 20000 in
theorem tb_73 : ∀ w ∈ wo_Meter_fail, w ∈ lw_tbl := tb_of [(1, 166)] rfl
set_option maxRecDepth 20000 in
theorem tb_74 : ∀ w ∈ wo_Meter_paySteps, w ∈ lw_tbl := tb_of [(1, 164), (1, 162), (3, 187), (3, 188), (3, 189), (1, 8), (3, 190)] rfl
set_option maxRecDepth 20000 in
theorem tb_75 : ∀ w ∈ wo_Meter_payMemory, w ∈ lw_tbl := tb_of [(1, 165), (1, 163), (3, 187), (3, 188), (3, 189), (1, 8), (3, 190)] rfl
set_option maxRecDepth 20000 in
theorem tb_76 : ∀ w ∈ wo_Scopes_init, w ∈ lw_tbl := tb_of [(1, 205), (1, 30), (1, 31), (1, 54), (1, 206), (1, 207), (1, 208)] rfl
set_option maxRecDepth 20000 in
theorem tb_77 : ∀ w ∈ wo_Scopes_forget, w ∈ lw_tbl := tb_of [(1, 208)] rfl
set_option maxRecDepth 20000 in
theorem tb_78 : ∀ w ∈ wo_Scopes_bind, w ∈ lw_tbl := tb_of [(1, 208), (1, 206), (1, 207)] rfl
set_option maxRecDepth 20000 in
theorem tb_79 : ∀ w ∈ wo_Scopes_find, w ∈ lw_tbl := tb_of [(3, 197), (3, 199), (0, 15), (1, 10), (3, 200), (1, 207), (1, 206)] rfl
set_option maxRecDepth 20000 in
theorem tb_80 : ∀ w ∈ wo_Scopes_has, w ∈ lw_tbl := tb_of [(1, 208)] rfl
set_option maxRecDepth 20000 in
theorem tb_81 : ∀ w ∈ wo_Terms_init, w ∈ lw_tbl := tb_of [(1, 37), (1, 30), (1, 31), (1, 54), (1, 57), (1, 55), (1, 58), (1, 59), (1, 60), (1, 38), (1, 39), (1, 3), (1, 40), (1, 41), (1, 3), (1, 42), (1, 61), (1, 62), (1, 63)] rfl
set_option maxRecDepth 20000 in
theorem tb_82 : ∀ w ∈ wo_Terms_allows, w ∈ lw_tbl := tb_of [(2, 210), (2, 211)] rfl
set_option maxRecDepth 20000 in
theorem tb_83 : ∀ w ∈ wo_Terms_partsOf, w ∈ lw_tbl := tb_of [] rfl
set_option maxRecDepth 20000 in
theorem tb_84 : ∀ w ∈ wo_Terms_count, w ∈ lw_tbl := tb_of [(1, 63)] rfl
set_option maxRecDepth 20000 in
theorem tb_85 : ∀ w ∈ wo_Terms_nodeCount, w ∈ lw_tbl := tb_of [(1, 62)] rfl
set_option maxRecDepth 20000 in
theorem tb_86 : ∀ w ∈ wo_Terms_isFull, w ∈ lw_tbl := tb_of [(1, 62)] rfl
set_option maxRecDepth 20000 in
theorem tb_87 : ∀ w ∈ wo_Terms_last, w ∈ lw_tbl := tb_of [(1, 62)] rfl
set_option maxRecDepth 20000 in
theorem tb_88 : ∀ w ∈ wo_Terms_lacksOfLast, w ∈ lw_tbl := tb_of [(2, 52), (2, 53), (2, 54), (1, 2), (2, 55), (2, 182), (2, 184), (0, 5), (2, 185)] rfl
set_option maxRecDepth 20000 in
theorem tb_89 : ∀ w ∈ wo_Terms_kindOf, w ∈ lw_tbl := tb_of [(2, 60), (2, 62), (0, 0), (1, 2), (2, 63), (1, 57)] rfl
set_option maxRecDepth 20000 in
theorem tb_90 : ∀ w ∈ wo_Terms_argOf, w ∈ lw_tbl := tb_of [(2, 60), (2, 62), (0, 0), (1, 2), (2, 63), (1, 58)] rfl
set_option maxRecDepth 20000 in
theorem tb_91 : ∀ w ∈ wo_Terms_firstOf, w ∈ lw_tbl := tb_of [(2, 60), (2, 62), (0, 0), (1, 2), (2, 63), (1, 59)] rfl
set_option maxRecDepth 20000 in
theorem tb_92 : ∀ w ∈ wo_Terms_lastPartOf, w ∈ lw_tbl := tb_of [] rfl
set_option maxRecDepth 20000 in
theorem tb_93 : ∀ w ∈ wo_Terms_functionOf, w ∈ lw_tbl := tb_of [(3, 75), (3, 76), (3, 77), (1, 2), (3, 78), (2, 86), (2, 87), (2, 88), (2, 89)] rfl
set_option maxRecDepth 20000 in
theorem tb_94 : ∀ w ∈ wo_Terms_textAt, w ∈ lw_tbl := tb_of [(1, 61), (3, 155), (2, 127), (2, 128), (1, 3), (2, 129)] rfl
set_option maxRecDepth 20000 in
theorem tb_95 : ∀ w ∈ wo_Terms_forget, w ∈ lw_tbl := tb_of [(1, 62), (1, 63)] rfl
set_option maxRecDepth 20000 in
theorem tb_96 : ∀ w ∈ wo_Terms_push, w ∈ lw_tbl := tb_of [(3, 65), (3, 42), (3, 43), (1, 2), (3, 44), (1, 63), (3, 66), (3, 39), (1, 2), (3, 40), (1, 57), (1, 62), (1, 58), (1, 59), (3, 67), (3, 69), (0, 7), (3, 70), (1, 60), (3, 79), (3, 81), (0, 8), (3, 82)] rfl
set_option maxRecDepth 20000 in
theorem tb_97 : ∀ w ∈ wo_Terms_pop, w ∈ lw_tbl := tb_of [(1, 63), (2, 52), (2, 53), (2, 54), (1, 2), (2, 55), (2, 86), (2, 87), (2, 88), (2, 89), (1, 62)] rfl
set_option maxRecDepth 20000 in
theorem tb_98 : ∀ w ∈ wo_Terms_canLengthen, w ∈ lw_tbl := tb_of [(2, 52), (2, 53), (2, 54), (1, 2), (2, 55), (2, 56), (2, 57), (2, 58), (2, 59), (2, 64), (2, 65), (2, 66), (2, 67), (2, 68)] rfl
set_option maxRecDepth 20000 in
theorem tb_99 : ∀ w ∈ wo_Terms_lengthen, w ∈ lw_tbl := tb_of [(2, 73), (2, 49), (2, 50), (1, 2), (2, 51), (2, 52), (2, 53), (2, 54), (2, 55), (2, 64), (2, 65), (2, 66), (2, 67), (1, 61), (2, 74), (2, 75), (2, 76), (1, 3), (2, 77), (1, 58)] rfl
set_option maxRecDepth 20000 in
theorem tb_100 : ∀ w ∈ wo_Terms_has, w ∈ lw_tbl := tb_of [(1, 62)] rfl
set_option maxRecDepth 20000 in
theorem tb_101 : ∀ w ∈ wo_Terms_lacksOf, w ∈ lw_tbl := tb_of [(2, 60), (2, 62), (0, 0), (1, 2), (2, 63), (1, 60)] rfl
set_option maxRecDepth 20000 in
theorem tb_102 : ∀ w ∈ wo_Terms_firstOfNew, w ∈ lw_tbl := tb_of [(1, 62), (3, 71), (3, 72), (3, 73), (1, 2), (3, 74), (2, 86), (2, 87), (2, 88), (2, 89), (3, 66), (3, 39), (1, 2), (3, 40), (3, 75), (3, 76), (3, 77), (3, 78)] rfl
set_option maxRecDepth 20000 in
theorem tb_103 : ∀ w ∈ wo_Terms_lacksOfNew, w ∈ lw_tbl := tb_of [(1, 62), (3, 75), (3, 76), (3, 77), (1, 2), (3, 78), (2, 182), (2, 184), (0, 5), (2, 185), (3, 83), (1, 45), (1, 4), (1, 46), (3, 71), (3, 72), (3, 73), (3, 74)] rfl
set_option maxRecDepth 20000 in
theorem tb_104 : ∀ w ∈ wo_Values_init, w ∈ lw_tbl := tb_of [(1, 90), (1, 30), (1, 31), (1, 91), (1, 39), (1, 3), (1, 92), (1, 93), (1, 41), (1, 3), (1, 42), (1, 130), (1, 94), (1, 95), (1, 7), (1, 96), (1, 97), (1, 7), (1, 98), (1, 133), (1, 54), (1, 136), (1, 55), (1, 137), (1, 138), (1, 139), (1, 140)] rfl
set_option maxRecDepth 20000 in
theorem tb_105 : ∀ w ∈ wo_Values_forget, w ∈ lw_tbl := tb_of [(1, 140), (1, 130), (3, 126), (3, 127), (3, 128), (1, 3), (3, 129), (1, 133), (3, 130), (1, 101), (1, 102), (1, 7), (1, 103)] rfl
set_option maxRecDepth 20000 in
theorem tb_106 : ∀ w ∈ wo_Values_takeConstants, w ∈ lw_tbl := tb_of [(3, 135), (2, 53), (2, 54), (1, 2), (2, 55), (3, 136), (2, 87), (2, 88), (2, 89), (3, 137), (3, 139), (0, 9), (1, 6), (3, 140)] rfl
set_option maxRecDepth 20000 in
theorem tb_107 : ∀ w ∈ wo_Values_ofInteger, w ∈ lw_tbl := tb_of [(3, 214), (3, 216), (0, 17), (1, 6), (3, 217)] rfl
set_option maxRecDepth 20000 in
theorem tb_108 : ∀ w ∈ wo_Values_ofTruth, w ∈ lw_tbl := tb_of [(3, 214), (3, 216), (0, 17), (1, 6), (3, 217)] rfl
set_option maxRecDepth 20000 in
theorem tb_109 : ∀ w ∈ wo_Values_ofBytes, w ∈ lw_tbl := tb_of [(3, 214), (3, 216), (0, 17), (1, 6), (3, 217)] rfl
set_option maxRecDepth 20000 in
theorem tb_110 : ∀ w ∈ wo_Values_ofData, w ∈ lw_tbl := tb_of [(3, 214), (3, 216), (0, 17), (1, 6), (3, 217)] rfl
set_option maxRecDepth 20000 in
theorem tb_111 : ∀ w ∈ wo_Values_ofBody, w ∈ lw_tbl := tb_of [(3, 214), (3, 216), (0, 17), (1, 6), (3, 217)] rfl
set_option maxRecDepth 20000 in
theorem tb_112 : ∀ w ∈ wo_Values_ofBuiltin, w ∈ lw_tbl := tb_of [(3, 214), (3, 216), (0, 17), (1, 6), (3, 217)] rfl
set_option maxRecDepth 20000 in
theorem tb_113 : ∀ w ∈ wo_Values_kindOf, w ∈ lw_tbl := tb_of [(1, 140), (1, 136)] rfl
