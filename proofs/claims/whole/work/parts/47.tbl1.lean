/-! Every word of the walk stands in the tables. Laid by program (wip/whole/gen/tbl.py). -/
def tgK (k : Nat) : List Cond := match k with
  | 0 => k2_sels lw_privs
  | 1 => tables_1_1
  | 2 => tables_1_2
  | 3 => tables_1_3
  | 4 => tables_1_4
  | 5 => tables_1_5
  | _ => tables_1_6
theorem tgK_in (k : Nat) {w : Cond} (h : w ∈ tgK k) : w ∈ lw_tbl := by
  show w ∈ k2_sels lw_privs ++ (tables_1_1 ++ (tables_1_2 ++ (tables_1_3 ++ (tables_1_4 ++ (tables_1_5 ++ tables_1_6)))))
  simp only [List.mem_append]
  unfold tgK at h
  split at h
  · exact Or.inl h
  · exact Or.inr (Or.inl h)
  · exact Or.inr (Or.inr (Or.inl h))
  · exact Or.inr (Or.inr (Or.inr (Or.inl h)))
  · exact Or.inr (Or.inr (Or.inr (Or.inr (Or.inl h))))
  · exact Or.inr (Or.inr (Or.inr (Or.inr (Or.inr (Or.inl h)))))
  · exact Or.inr (Or.inr (Or.inr (Or.inr (Or.inr (Or.inr h)))))
theorem tb_of {ws : List Cond} (idx : List (Nat × Nat)) (h : ws.map some = idx.map (fun q => (tgK q.1)[q.2]?)) : ∀ w ∈ ws, w ∈ lw_tbl := by
  intro w hw
  have z : some w ∈ ws.map some := List.mem_map.mpr ⟨w, hw, rfl⟩
  rw [h] at z
  obtain ⟨i, -, hi⟩ := List.mem_map.mp z
  exact tgK_in i.1 (List.mem_of_getElem? hi)
set_option maxRecDepth 20000 in
theorem tb_0 : ∀ w ∈ u_ws R_Cek T_Cek 3, w ∈ lw_tbl := tb_of [(2, 24), (2, 26), (2, 28)] rfl
set_option maxRecDepth 20000 in
theorem tb_1 : ∀ w ∈ u_ws R_Terms T_Terms 7, w ∈ lw_tbl := tb_of [(1, 59), (1, 61), (1, 63), (1, 65), (1, 67), (1, 69), (1, 71)] rfl
set_option maxRecDepth 20000 in
theorem tb_2 : ∀ w ∈ u_ws R_ByteRow T_ByteRow 2, w ∈ lw_tbl := tb_of [(1, 44), (1, 46)] rfl
set_option maxRecDepth 20000 in
theorem tb_3 : ∀ w ∈ u_ws R_Evaluator T_Evaluator 9, w ∈ lw_tbl := tb_of [(2, 2), (2, 4), (2, 6), (2, 8), (2, 10), (2, 12), (2, 14), (2, 16), (2, 18)] rfl
set_option maxRecDepth 20000 in
theorem tb_4 : ∀ w ∈ u_ws R_Values T_Values 7, w ∈ lw_tbl := tb_of [(1, 136), (1, 138), (1, 140), (1, 142), (1, 144), (1, 146), (1, 148)] rfl
set_option maxRecDepth 20000 in
theorem tb_5 : ∀ w ∈ u_ws R_DataRow T_DataRow 7, w ∈ lw_tbl := tb_of [(1, 110), (1, 112), (1, 114), (1, 116), (1, 118), (1, 120), (1, 122)] rfl
set_option maxRecDepth 20000 in
theorem tb_6 : ∀ w ∈ u_ws R_Meter T_Meter 5, w ∈ lw_tbl := tb_of [(1, 162), (1, 164), (1, 166), (1, 168), (1, 170)] rfl
set_option maxRecDepth 20000 in
theorem tb_7 : ∀ w ∈ u_ws R_Waiting T_Waiting 5, w ∈ lw_tbl := tb_of [(1, 184), (1, 186), (1, 188), (1, 190), (1, 192)] rfl
set_option maxRecDepth 20000 in
theorem tb_8 : ∀ w ∈ u_ws R_Scopes T_Scopes 3, w ∈ lw_tbl := tb_of [(1, 204), (1, 206), (1, 208)] rfl
set_option maxRecDepth 20000 in
theorem tb_9 : ∀ w ∈ u_ws R_Builtins T_Builtins 4, w ∈ lw_tbl := tb_of [(1, 221), (1, 223), (1, 225), (1, 227)] rfl
set_option maxRecDepth 20000 in
theorem tb_10 : ∀ w ∈ u_ws R_Mod T_Mod 52, w ∈ lw_tbl := tb_of [(5, 82), (5, 84), (5, 86), (5, 88), (5, 90), (5, 92), (5, 94), (5, 96), (5, 98), (5, 100), (5, 102), (5, 104), (5, 106), (5, 108), (5, 110), (5, 112), (5, 114), (5, 116), (5, 118), (5, 120), (5, 122), (5, 124), (5, 126), (5, 128), (5, 130), (5, 132), (5, 134), (5, 136), (5, 138), (5, 140), (5, 142), (5, 144), (5, 146), (5, 148), (5, 150), (5, 152), (5, 154), (5, 156), (5, 158), (5, 160), (5, 162), (5, 164), (5, 166), (5, 168), (5, 170), (5, 172), (5, 174), (5, 176), (5, 178), (5, 180), (5, 182), (5, 184)] rfl
set_option maxRecDepth 20000 in
theorem tb_11 : ∀ w ∈ wo_Builtins_init, w ∈ lw_tbl := tb_of [(1, 216), (1, 25), (1, 26), (1, 49), (1, 219), (1, 220), (1, 217), (1, 218)] rfl
set_option maxRecDepth 20000 in
theorem tb_12 : ∀ w ∈ wo_Builtins_takes, w ∈ lw_tbl := tb_of [(3, 239)] rfl
set_option maxRecDepth 20000 in
theorem tb_13 : ∀ w ∈ wo_Builtins_forget, w ∈ lw_tbl := tb_of [(1, 220)] rfl
set_option maxRecDepth 20000 in
theorem tb_14 : ∀ w ∈ wo_Builtins_isReady, w ∈ lw_tbl := tb_of [(1, 220)] rfl
set_option maxRecDepth 20000 in
theorem tb_15 : ∀ w ∈ wo_Builtins_take, w ∈ lw_tbl := tb_of [(1, 217), (4, 25), (4, 26), (4, 27), (1, 6), (4, 28), (4, 218), (4, 219), (4, 220), (4, 221), (3, 236), (3, 237), (1, 11), (3, 238), (1, 218), (4, 168), (3, 201), (3, 202), (1, 8), (3, 203), (4, 222), (3, 225), (3, 226), (3, 227), (4, 223), (4, 225), (0, 39), (1, 11), (4, 226), (1, 220)] rfl
set_option maxRecDepth 20000 in
theorem tb_16 : ∀ w ∈ wo_Builtins_perform, w ∈ lw_tbl := tb_of [(1, 220), (1, 218), (3, 232), (3, 234), (0, 19), (1, 11), (3, 235), (4, 12), (3, 179), (3, 180), (1, 8), (3, 181), (4, 13), (4, 15), (0, 20), (4, 16), (4, 24), (3, 183), (3, 184), (3, 185), (1, 217), (1, 219), (4, 25), (4, 26), (4, 27), (1, 6), (4, 28), (4, 29), (4, 31), (0, 22), (4, 32), (4, 62), (4, 64), (0, 23), (4, 65), (4, 112), (4, 114), (0, 28), (4, 115), (4, 149), (4, 151), (0, 33), (4, 152), (4, 1), (4, 2), (4, 3), (4, 4), (4, 168), (3, 201), (3, 202), (3, 203)] rfl
set_option maxRecDepth 20000 in
theorem tb_17 : ∀ w ∈ wo_Builtins_gather, w ∈ lw_tbl := tb_of [(4, 227), (4, 110), (1, 4), (4, 111), (1, 219), (1, 217), (4, 228), (4, 229), (4, 230), (1, 6), (4, 231), (4, 232), (4, 233), (4, 234), (4, 235)] rfl
set_option maxRecDepth 20000 in
theorem tb_18 : ∀ w ∈ wo_Builtins_sizeOfGiven, w ∈ lw_tbl := tb_of [(3, 236), (3, 237), (1, 11), (3, 238), (1, 217), (1, 219), (4, 1), (4, 2), (4, 3), (1, 6), (4, 4)] rfl
set_option maxRecDepth 20000 in
theorem tb_19 : ∀ w ∈ wo_Builtins_allFit, w ∈ lw_tbl := tb_of [(3, 236), (3, 237), (1, 11), (3, 238), (1, 219), (4, 17), (4, 19), (0, 21), (1, 11), (4, 20)] rfl
set_option maxRecDepth 20000 in
theorem tb_20 : ∀ w ∈ wo_Builtins_fits, w ∈ lw_tbl := tb_of [(1, 217), (4, 21), (2, 98), (2, 99), (1, 6), (2, 100), (1, 129), (4, 22), (2, 134), (2, 135), (2, 136), (4, 23), (2, 142), (2, 143), (1, 7), (2, 144)] rfl
set_option maxRecDepth 20000 in
theorem tb_21 : ∀ w ∈ wo_Builtins_onIntegers, w ∈ lw_tbl := tb_of [(4, 33), (4, 34), (1, 11), (4, 35), (1, 217), (4, 38), (4, 39), (4, 40), (1, 6), (4, 41), (4, 42), (4, 43), (1, 11), (4, 44), (4, 45), (4, 46), (1, 11), (4, 47), (4, 49), (4, 50), (1, 11), (4, 51), (4, 52), (4, 53), (1, 4), (4, 54), (4, 55), (4, 56), (1, 4), (4, 57), (4, 58), (4, 59), (4, 60), (4, 61)] rfl
set_option maxRecDepth 20000 in
theorem tb_22 : ∀ w ∈ wo_Builtins_sumFits, w ∈ lw_tbl := tb_of [(4, 36), (4, 37)] rfl
set_option maxRecDepth 20000 in
theorem tb_23 : ∀ w ∈ wo_Builtins_differenceFits, w ∈ lw_tbl := tb_of [(4, 37), (4, 36)] rfl
set_option maxRecDepth 20000 in
theorem tb_24 : ∀ w ∈ wo_Builtins_productFits, w ∈ lw_tbl := tb_of [(4, 48), (4, 37)] rfl
set_option maxRecDepth 20000 in
theorem tb_25 : ∀ w ∈ wo_Builtins_quotientFits, w ∈ lw_tbl := tb_of [(4, 48), (4, 37)] rfl
set_option maxRecDepth 20000 in
theorem tb_26 : ∀ w ∈ wo_Builtins_onBytes, w ∈ lw_tbl := tb_of [(1, 219), (4, 66), (4, 68), (0, 24), (1, 11), (4, 69), (1, 217), (4, 70), (2, 106), (2, 107), (1, 6), (2, 108), (4, 38), (4, 39), (4, 40), (4, 41), (4, 25), (4, 26), (4, 27), (4, 28), (4, 86), (4, 88), (0, 25), (4, 89), (4, 91), (4, 93), (0, 26), (4, 94), (4, 101), (4, 103), (0, 27), (4, 104), (4, 58), (4, 59), (4, 60), (4, 61)] rfl
set_option maxRecDepth 20000 in
theorem tb_27 : ∀ w ∈ wo_Builtins_join, w ∈ lw_tbl := tb_of [(1, 217), (4, 70), (2, 106), (2, 107), (1, 6), (2, 108), (1, 127), (4, 71), (4, 72), (4, 73), (1, 3), (4, 74), (4, 75), (2, 114), (2, 115), (2, 116), (4, 76), (4, 77), (4, 78), (4, 79), (4, 82), (4, 83), (4, 84), (4, 85)] rfl
set_option maxRecDepth 20000 in
theorem tb_28 : ∀ w ∈ wo_Builtins_byteOf, w ∈ lw_tbl := tb_of [(1, 217), (4, 70), (2, 106), (2, 107), (1, 6), (2, 108), (1, 127), (4, 75), (2, 114), (2, 115), (2, 116), (4, 90), (2, 122), (2, 123), (1, 3), (2, 124), (4, 38), (4, 39), (4, 40), (4, 41)] rfl
set_option maxRecDepth 20000 in
theorem tb_29 : ∀ w ∈ wo_Builtins_slice, w ∈ lw_tbl := tb_of [(4, 95), (4, 96), (1, 4), (4, 97), (1, 217), (4, 70), (2, 106), (2, 107), (1, 6), (2, 108), (4, 98), (4, 99), (4, 100), (4, 75), (2, 114), (2, 115), (2, 116), (4, 82), (4, 83), (4, 84), (4, 85)] rfl
set_option maxRecDepth 20000 in
theorem tb_30 : ∀ w ∈ wo_Builtins_compareBytes, w ∈ lw_tbl := tb_of [(1, 217), (1, 127), (4, 75), (2, 114), (2, 115), (1, 6), (2, 116), (4, 70), (2, 106), (2, 107), (2, 108), (4, 105), (4, 106), (4, 107), (1, 3), (4, 108)] rfl
set_option maxRecDepth 20000 in
theorem tb_31 : ∀ w ∈ wo_Builtins_onData, w ∈ lw_tbl := tb_of [(1, 217), (1, 129), (1, 219), (4, 22), (2, 134), (2, 135), (1, 6), (2, 136), (4, 116), (4, 118), (0, 29), (1, 11), (4, 119), (4, 58), (4, 59), (4, 60), (4, 61), (4, 23), (2, 142), (2, 143), (1, 7), (2, 144), (4, 38), (4, 39), (4, 40), (4, 41), (4, 126), (2, 150), (2, 151), (2, 152), (4, 125), (2, 146), (2, 147), (2, 148), (4, 127), (4, 128), (4, 129), (4, 130), (4, 139), (4, 140), (4, 141), (4, 142), (4, 25), (4, 26), (4, 27), (4, 28), (4, 143), (4, 145), (0, 32), (4, 146), (4, 148), (1, 100), (1, 101), (1, 102), (4, 75), (2, 114), (2, 115), (2, 116), (4, 70), (2, 106), (2, 107), (2, 108), (4, 82), (4, 83), (4, 84), (4, 85)] rfl
set_option maxRecDepth 20000 in
theorem tb_32 : ∀ w ∈ wo_Builtins_toConstructor, w ∈ lw_tbl := tb_of [(4, 147), (1, 217), (1, 129), (4, 125), (2, 146), (2, 147), (1, 7), (2, 148), (4, 127), (4, 128), (4, 129), (4, 130), (4, 139), (4, 140), (4, 141), (1, 6), (4, 142)] rfl
set_option maxRecDepth 20000 in
theorem tb_33 : ∀ w ∈ wo_Builtins_onLists, w ∈ lw_tbl := tb_of [(1, 217), (1, 129), (1, 219), (4, 22), (2, 134), (2, 135), (1, 6), (2, 136), (4, 125), (2, 146), (2, 147), (1, 7), (2, 148), (4, 139), (4, 140), (4, 141), (4, 142), (4, 153), (4, 154), (4, 155), (4, 156), (4, 163), (4, 164), (4, 165), (4, 166), (4, 58), (4, 59), (4, 60), (4, 61), (4, 127), (4, 128), (4, 129), (4, 130)] rfl
set_option maxRecDepth 20000 in
theorem tb_34 : ∀ w ∈ wo_Builtins_sameData, w ∈ lw_tbl := tb_of [(1, 217), (1, 129), (4, 120), (2, 138), (2, 139), (1, 7), (2, 140), (4, 121), (4, 123), (0, 30), (1, 11), (4, 124)] rfl
set_option maxRecDepth 20000 in
theorem tb_35 : ∀ w ∈ wo_Builtins_sameNode, w ∈ lw_tbl := tb_of [(1, 217), (1, 129), (4, 125), (2, 146), (2, 147), (1, 7), (2, 148), (4, 23), (2, 142), (2, 143), (2, 144), (4, 126), (2, 150), (2, 151), (2, 152), (1, 127), (4, 105), (4, 106), (4, 107), (1, 3), (4, 108)] rfl
set_option maxRecDepth 20000 in
theorem tb_36 : ∀ w ∈ wo_ByteRow_init, w ∈ lw_tbl := tb_of [(1, 38), (1, 25), (1, 26), (1, 43), (1, 39), (1, 40), (1, 4), (1, 41), (1, 51), (1, 42)] rfl
set_option maxRecDepth 20000 in
theorem tb_37 : ∀ w ∈ wo_ByteRow_at, w ∈ lw_tbl := tb_of [(1, 42)] rfl
set_option maxRecDepth 20000 in
theorem tb_38 : ∀ w ∈ wo_ByteRow_put, w ∈ lw_tbl := tb_of [(1, 42)] rfl
set_option maxRecDepth 20000 in
theorem tb_39 : ∀ w ∈ wo_ByteRow_cut, w ∈ lw_tbl := tb_of [(1, 43)] rfl
set_option maxRecDepth 20000 in
theorem tb_40 : ∀ w ∈ wo_ByteRow_append, w ∈ lw_tbl := tb_of [(1, 43), (4, 80), (2, 122), (2, 123), (1, 3), (2, 124), (4, 81), (2, 70), (2, 71), (2, 72), (1, 39), (1, 40), (1, 4), (1, 41)] rfl
set_option maxRecDepth 20000 in
theorem tb_41 : ∀ w ∈ wo_ByteRow_end, w ∈ lw_tbl := tb_of [(1, 43)] rfl
set_option maxRecDepth 20000 in
theorem tb_42 : ∀ w ∈ wo_ByteRow_compare, w ∈ lw_tbl := tb_of [(4, 109), (4, 110), (1, 4), (4, 111), (4, 80), (2, 122), (2, 123), (1, 3), (2, 124)] rfl
set_option maxRecDepth 20000 in
theorem tb_43 : ∀ w ∈ wo_DataRow_init, w ∈ lw_tbl := tb_of [(1, 94), (1, 25), (1, 26), (1, 49), (1, 103), (1, 104), (1, 50), (1, 105), (1, 106), (1, 107), (1, 108), (1, 109), (1, 95), (1, 96), (1, 97), (1, 7), (1, 98)] rfl
set_option maxRecDepth 20000 in
theorem tb_44 : ∀ w ∈ wo_DataRow_forget, w ∈ lw_tbl := tb_of [(1, 109), (1, 99), (1, 100), (1, 101), (1, 7), (1, 102)] rfl
set_option maxRecDepth 20000 in
theorem tb_45 : ∀ w ∈ wo_DataRow_formOf, w ∈ lw_tbl := tb_of [(1, 109), (1, 103)] rfl
set_option maxRecDepth 20000 in
theorem tb_46 : ∀ w ∈ wo_DataRow_countOf, w ∈ lw_tbl := tb_of [(1, 109), (1, 104)] rfl
set_option maxRecDepth 20000 in
theorem tb_47 : ∀ w ∈ wo_DataRow_numberOf, w ∈ lw_tbl := tb_of [(1, 109), (1, 105)] rfl
set_option maxRecDepth 20000 in
theorem tb_48 : ∀ w ∈ wo_DataRow_nodesOf, w ∈ lw_tbl := tb_of [(1, 109), (1, 106)] rfl
set_option maxRecDepth 20000 in
theorem tb_49 : ∀ w ∈ wo_DataRow_depthOf, w ∈ lw_tbl := tb_of [(1, 109), (1, 107)] rfl
set_option maxRecDepth 20000 in
theorem tb_50 : ∀ w ∈ wo_DataRow_sizeOf, w ∈ lw_tbl := tb_of [(1, 109), (1, 106), (1, 108)] rfl
set_option maxRecDepth 20000 in
theorem tb_51 : ∀ w ∈ wo_DataRow_leaf, w ∈ lw_tbl := tb_of [(1, 109), (1, 103), (1, 105), (1, 104), (1, 106), (1, 107), (1, 108)] rfl
set_option maxRecDepth 20000 in
theorem tb_52 : ∀ w ∈ wo_DataRow_recast, w ∈ lw_tbl := tb_of [(1, 109), (4, 131), (2, 138), (2, 139), (1, 7), (2, 140), (4, 132), (4, 134), (0, 31), (4, 135), (1, 103), (1, 105), (1, 104)] rfl
set_option maxRecDepth 20000 in
theorem tb_53 : ∀ w ∈ wo_DataRow_prepend, w ∈ lw_tbl := tb_of [(4, 131), (2, 138), (2, 139), (1, 7), (2, 140), (4, 167), (2, 154), (2, 155), (2, 156), (4, 157), (2, 146), (2, 147), (2, 148), (1, 99), (1, 100), (1, 101), (1, 102), (4, 132), (4, 134), (0, 31), (4, 135), (4, 158), (4, 160), (0, 34), (4, 161)] rfl
set_option maxRecDepth 20000 in
theorem tb_54 : ∀ w ∈ wo_DataRow_rest, w ∈ lw_tbl := tb_of [(4, 157), (2, 146), (2, 147), (1, 7), (2, 148), (4, 131), (2, 138), (2, 139), (2, 140), (1, 99), (1, 100), (1, 101), (1, 102), (4, 132), (4, 134), (0, 31), (4, 135), (4, 158), (4, 160), (0, 34), (4, 161)] rfl
set_option maxRecDepth 20000 in
theorem tb_55 : ∀ w ∈ wo_DataRow_copy, w ∈ lw_tbl := tb_of [(1, 109), (1, 103), (4, 136), (4, 138), (4, 137), (1, 18), (1, 104), (1, 105), (1, 106), (1, 107), (1, 108)] rfl
set_option maxRecDepth 20000 in
theorem tb_56 : ∀ w ∈ wo_DataRow_sealed, w ∈ lw_tbl := tb_of [(1, 109), (1, 104), (1, 107), (4, 162), (1, 40), (1, 4), (1, 41), (1, 108), (1, 106)] rfl
set_option maxRecDepth 20000 in
theorem tb_57 : ∀ w ∈ wo_Evaluator_init, w ∈ lw_tbl := tb_of [(1, 79), (1, 25), (1, 26), (1, 80), (1, 81), (1, 6), (1, 83), (1, 6), (1, 84), (1, 230), (1, 151), (1, 152), (1, 8), (1, 154), (1, 8), (1, 155), (1, 232), (1, 173), (1, 174), (1, 9), (1, 176), (1, 9), (1, 177), (1, 234), (1, 195), (1, 196), (1, 10), (1, 198), (1, 10), (1, 199), (1, 236), (1, 211), (1, 212), (1, 11), (1, 213), (1, 214), (1, 11), (1, 215), (1, 237), (1, 239), (2, 0), (2, 1), (1, 238)] rfl
set_option maxRecDepth 20000 in
theorem tb_58 : ∀ w ∈ wo_Evaluator_outcome, w ∈ lw_tbl := tb_of [(2, 1)] rfl
set_option maxRecDepth 20000 in
theorem tb_59 : ∀ w ∈ wo_Evaluator_evaluateLast, w ∈ lw_tbl := tb_of [(1, 232), (3, 101), (3, 102), (3, 103), (1, 8), (3, 104), (1, 234), (3, 105), (3, 106), (3, 107), (1, 9), (3, 108), (1, 236), (3, 109), (3, 110), (3, 111), (1, 10), (3, 112), (1, 237), (3, 113), (3, 114), (3, 115), (1, 11), (3, 116), (1, 230), (3, 117), (3, 118), (3, 119), (1, 6), (3, 120), (1, 238), (3, 126), (3, 127), (3, 128), (3, 129), (2, 1), (3, 152), (2, 48), (2, 49), (1, 2), (2, 50), (3, 153), (3, 155), (0, 12), (1, 5), (3, 156), (3, 157), (3, 158), (3, 160), (0, 13), (3, 161), (1, 239), (3, 174), (3, 176), (0, 14), (3, 177), (3, 162), (3, 163), (3, 164), (3, 165), (3, 228), (3, 229), (3, 230), (3, 231), (4, 169), (4, 171), (0, 35), (4, 172), (3, 170), (3, 171), (3, 172), (3, 173)] rfl
set_option maxRecDepth 20000 in
theorem tb_60 : ∀ w ∈ wo_Evaluator_goesOn, w ∈ lw_tbl := tb_of [(1, 239), (1, 237), (3, 162), (3, 163), (3, 164), (1, 11), (3, 165), (1, 234), (3, 166), (3, 167), (3, 168), (1, 9), (3, 169), (1, 232), (3, 170), (3, 171), (3, 172), (1, 8), (3, 173)] rfl
set_option maxRecDepth 20000 in
theorem tb_61 : ∀ w ∈ wo_Evaluator_evaluateIn, w ∈ lw_tbl := tb_of [(1, 239), (2, 0)] rfl
set_option maxRecDepth 20000 in
theorem tb_62 : ∀ w ∈ wo_Evaluator_evaluateNode, w ∈ lw_tbl := tb_of [(1, 239), (1, 232), (3, 178), (3, 179), (3, 180), (1, 8), (3, 181), (1, 238), (3, 186), (2, 52), (2, 53), (1, 2), (2, 54), (1, 236), (2, 0), (3, 187), (2, 60), (2, 61), (2, 62), (3, 188), (3, 189), (3, 190), (1, 10), (3, 191), (2, 1), (3, 196), (3, 198), (0, 16), (1, 5), (3, 199), (3, 213), (3, 67), (3, 68), (3, 69), (3, 214), (3, 216), (0, 18), (3, 217), (3, 204), (3, 71), (3, 72), (3, 73), (3, 223), (3, 183), (3, 184), (3, 185), (3, 200), (3, 201), (3, 202), (3, 203), (1, 230), (3, 224), (3, 225), (3, 226), (1, 6), (3, 227)] rfl
set_option maxRecDepth 20000 in
theorem tb_63 : ∀ w ∈ wo_Evaluator_hold, w ∈ lw_tbl := tb_of [(1, 232), (3, 200), (3, 201), (3, 202), (1, 8), (3, 203), (1, 230), (1, 238), (3, 204), (3, 71), (3, 72), (1, 2), (3, 73), (2, 0), (3, 205), (3, 206), (3, 207), (1, 6), (3, 208), (2, 1)] rfl
set_option maxRecDepth 20000 in
theorem tb_64 : ∀ w ∈ wo_Evaluator_await, w ∈ lw_tbl := tb_of [(1, 234), (2, 0), (3, 218), (3, 219), (3, 220), (1, 9), (3, 221), (1, 239), (1, 232), (3, 223), (3, 183), (3, 184), (1, 8), (3, 185)] rfl
set_option maxRecDepth 20000 in
theorem tb_65 : ∀ w ∈ wo_Evaluator_goOn, w ∈ lw_tbl := tb_of [(1, 234), (4, 173), (4, 174), (4, 175), (1, 9), (4, 176), (4, 181), (4, 182), (4, 183), (4, 184), (1, 238), (3, 186), (2, 52), (2, 53), (1, 2), (2, 54), (4, 185), (4, 186), (4, 187), (4, 188), (4, 189), (4, 191), (0, 37), (1, 5), (4, 192), (2, 1), (4, 202), (4, 203), (4, 204), (4, 205), (3, 204), (3, 71), (3, 72), (3, 73), (4, 206), (4, 207), (4, 208), (4, 209), (3, 153), (3, 155), (0, 12), (3, 156), (4, 210), (4, 212), (0, 38), (4, 213)] rfl
set_option maxRecDepth 20000 in
theorem tb_66 : ∀ w ∈ wo_Evaluator_force, w ∈ lw_tbl := tb_of [(1, 230), (2, 1), (4, 193), (2, 98), (2, 99), (1, 6), (2, 100), (4, 194), (4, 195), (4, 196), (4, 197), (4, 198), (4, 199), (4, 200), (4, 201), (3, 153), (3, 155), (0, 12), (1, 5), (3, 156), (1, 232), (3, 223), (3, 183), (3, 184), (1, 8), (3, 185)] rfl
set_option maxRecDepth 20000 in
theorem tb_67 : ∀ w ∈ wo_Evaluator_call, w ∈ lw_tbl := tb_of [(1, 230), (4, 193), (2, 98), (2, 99), (1, 6), (2, 100), (1, 237), (2, 1), (4, 214), (4, 215), (4, 216), (1, 11), (4, 217), (1, 232), (3, 223), (3, 183), (3, 184), (1, 8), (3, 185), (3, 200), (3, 201), (3, 202), (3, 203), (1, 236), (4, 198), (4, 199), (4, 200), (4, 201), (4, 236), (4, 237), (4, 238), (1, 10), (4, 239), (4, 194), (4, 195), (4, 196), (4, 197), (3, 153), (3, 155), (0, 12), (1, 5), (3, 156)] rfl
set_option maxRecDepth 20000 in
theorem tb_68 : ∀ w ∈ wo_Meter_init, w ∈ lw_tbl := tb_of [(1, 156), (1, 25), (1, 26), (1, 157), (1, 158), (1, 159), (1, 160), (1, 161)] rfl
set_option maxRecDepth 20000 in
theorem tb_69 : ∀ w ∈ wo_Meter_start, w ∈ lw_tbl := tb_of [(1, 157), (1, 158), (1, 159), (1, 160), (1, 161)] rfl
set_option maxRecDepth 20000 in
theorem tb_70 : ∀ w ∈ wo_Meter_steps, w ∈ lw_tbl := tb_of [(1, 157)] rfl
set_option maxRecDepth 20000 in
theorem tb_71 : ∀ w ∈ wo_Meter_memory, w ∈ lw_tbl := tb_of [(1, 158)] rfl
set_option maxRecDepth 20000 in
theorem tb_72 : ∀ w ∈ wo_Meter_fault, w ∈ lw_tbl := tb_of [(1, 161)] rfl
set_option maxRecDepth 20000 in
theorem tb_73 : ∀ w ∈ wo_Meter_fail, w ∈ lw_tbl := tb_of [(1, 161)] rfl
set_option maxRecDepth 20000 in
theorem tb_74 : ∀ w ∈ wo_Meter_paySteps, w ∈ lw_tbl := tb_of [(1, 159), (1, 157), (3, 182), (3, 183), (3, 184), (1, 8), (3, 185)] rfl
set_option maxRecDepth 20000 in
theorem tb_75 : ∀ w ∈ wo_Meter_payMemory, w ∈ lw_tbl := tb_of [(1, 160), (1, 158), (3, 182), (3, 183), (3, 184), (1, 8), (3, 185)] rfl
set_option maxRecDepth 20000 in
theorem tb_76 : ∀ w ∈ wo_Scopes_init, w ∈ lw_tbl := tb_of [(1, 200), (1, 25), (1, 26), (1, 49), (1, 201), (1, 202), (1, 203)] rfl
set_option maxRecDepth 20000 in
theorem tb_77 : ∀ w ∈ wo_Scopes_forget, w ∈ lw_tbl := tb_of [(1, 203)] rfl
set_option maxRecDepth 20000 in
theorem tb_78 : ∀ w ∈ wo_Scopes_bind, w ∈ lw_tbl := tb_of [(1, 203), (1, 201), (1, 202)] rfl
set_option maxRecDepth 20000 in
theorem tb_79 : ∀ w ∈ wo_Scopes_find, w ∈ lw_tbl := tb_of [(3, 192), (3, 194), (0, 15), (1, 10), (3, 195), (1, 202), (1, 201)] rfl
set_option maxRecDepth 20000 in
theorem tb_80 : ∀ w ∈ wo_Scopes_has, w ∈ lw_tbl := tb_of [(1, 203)] rfl
set_option maxRecDepth 20000 in
theorem tb_81 : ∀ w ∈ wo_Terms_init, w ∈ lw_tbl := tb_of [(1, 32), (1, 25), (1, 26), (1, 49), (1, 52), (1, 50), (1, 53), (1, 54), (1, 55), (1, 33), (1, 34), (1, 3), (1, 35), (1, 36), (1, 3), (1, 37), (1, 56), (1, 57), (1, 58)] rfl
set_option maxRecDepth 20000 in
theorem tb_82 : ∀ w ∈ wo_Terms_allows, w ∈ lw_tbl := tb_of [(2, 205), (2, 206)] rfl
set_option maxRecDepth 20000 in
theorem tb_83 : ∀ w ∈ wo_Terms_partsOf, w ∈ lw_tbl := tb_of [] rfl
set_option maxRecDepth 20000 in
theorem tb_84 : ∀ w ∈ wo_Terms_count, w ∈ lw_tbl := tb_of [(1, 58)] rfl
set_option maxRecDepth 20000 in
theorem tb_85 : ∀ w ∈ wo_Terms_nodeCount, w ∈ lw_tbl := tb_of [(1, 57)] rfl
set_option maxRecDepth 20000 in
theorem tb_86 : ∀ w ∈ wo_Terms_isFull, w ∈ lw_tbl := tb_of [(1, 57)] rfl
set_option maxRecDepth 20000 in
theorem tb_87 : ∀ w ∈ wo_Terms_last, w ∈ lw_tbl := tb_of [(1, 57)] rfl
set_option maxRecDepth 20000 in
theorem tb_88 : ∀ w ∈ wo_Terms_lacksOfLast, w ∈ lw_tbl := tb_of [(2, 47), (2, 48), (2, 49), (1, 2), (2, 50), (2, 177), (2, 179), (0, 5), (2, 180)] rfl
set_option maxRecDepth 20000 in
theorem tb_89 : ∀ w ∈ wo_Terms_kindOf, w ∈ lw_tbl := tb_of [(2, 55), (2, 57), (0, 0), (1, 2), (2, 58), (1, 52)] rfl
set_option maxRecDepth 20000 in
theorem tb_90 : ∀ w ∈ wo_Terms_argOf, w ∈ lw_tbl := tb_of [(2, 55), (2, 57), (0, 0), (1, 2), (2, 58), (1, 53)] rfl
set_option maxRecDepth 20000 in
theorem tb_91 : ∀ w ∈ wo_Terms_firstOf, w ∈ lw_tbl := tb_of [(2, 55), (2, 57), (0, 0), (1, 2), (2, 58), (1, 54)] rfl
set_option maxRecDepth 20000 in
theorem tb_92 : ∀ w ∈ wo_Terms_lastPartOf, w ∈ lw_tbl := tb_of [] rfl
set_option maxRecDepth 20000 in
theorem tb_93 : ∀ w ∈ wo_Terms_functionOf, w ∈ lw_tbl := tb_of [(3, 70), (3, 71), (3, 72), (1, 2), (3, 73), (2, 81), (2, 82), (2, 83), (2, 84)] rfl
set_option maxRecDepth 20000 in
theorem tb_94 : ∀ w ∈ wo_Terms_textAt, w ∈ lw_tbl := tb_of [(1, 56), (3, 150), (2, 122), (2, 123), (1, 3), (2, 124)] rfl
set_option maxRecDepth 20000 in
theorem tb_95 : ∀ w ∈ wo_Terms_forget, w ∈ lw_tbl := tb_of [(1, 57), (1, 58)] rfl
set_option maxRecDepth 20000 in
theorem tb_96 : ∀ w ∈ wo_Terms_push, w ∈ lw_tbl := tb_of [(3, 60), (3, 37), (3, 38), (1, 2), (3, 39), (1, 58), (3, 61), (3, 34), (1, 2), (3, 35), (1, 52), (1, 57), (1, 53), (1, 54), (3, 62), (3, 64), (0, 7), (3, 65), (1, 55), (3, 74), (3, 76), (0, 8), (3, 77)] rfl
set_option maxRecDepth 20000 in
theorem tb_97 : ∀ w ∈ wo_Terms_pop, w ∈ lw_tbl := tb_of [(1, 58), (2, 47), (2, 48), (2, 49), (1, 2), (2, 50), (2, 81), (2, 82), (2, 83), (2, 84), (1, 57)] rfl
set_option maxRecDepth 20000 in
theorem tb_98 : ∀ w ∈ wo_Terms_canLengthen, w ∈ lw_tbl := tb_of [(2, 47), (2, 48), (2, 49), (1, 2), (2, 50), (2, 51), (2, 52), (2, 53), (2, 54), (2, 59), (2, 60), (2, 61), (2, 62), (2, 63)] rfl
set_option maxRecDepth 20000 in
theorem tb_99 : ∀ w ∈ wo_Terms_lengthen, w ∈ lw_tbl := tb_of [(2, 68), (2, 44), (2, 45), (1, 2), (2, 46), (2, 47), (2, 48), (2, 49), (2, 50), (2, 59), (2, 60), (2, 61), (2, 62), (1, 56), (2, 69), (2, 70), (2, 71), (1, 3), (2, 72), (1, 53)] rfl
set_option maxRecDepth 20000 in
theorem tb_100 : ∀ w ∈ wo_Terms_has, w ∈ lw_tbl := tb_of [(1, 57)] rfl
set_option maxRecDepth 20000 in
theorem tb_101 : ∀ w ∈ wo_Terms_lacksOf, w ∈ lw_tbl := tb_of [(2, 55), (2, 57), (0, 0), (1, 2), (2, 58), (1, 55)] rfl
set_option maxRecDepth 20000 in
theorem tb_102 : ∀ w ∈ wo_Terms_firstOfNew, w ∈ lw_tbl := tb_of [(1, 57), (3, 66), (3, 67), (3, 68), (1, 2), (3, 69), (2, 81), (2, 82), (2, 83), (2, 84), (3, 61), (3, 34), (1, 2), (3, 35), (3, 70), (3, 71), (3, 72), (3, 73)] rfl
set_option maxRecDepth 20000 in
theorem tb_103 : ∀ w ∈ wo_Terms_lacksOfNew, w ∈ lw_tbl := tb_of [(1, 57), (3, 70), (3, 71), (3, 72), (1, 2), (3, 73), (2, 177), (2, 179), (0, 5), (2, 180), (3, 78), (1, 40), (1, 4), (1, 41), (3, 66), (3, 67), (3, 68), (3, 69)] rfl
set_option maxRecDepth 20000 in
theorem tb_104 : ∀ w ∈ wo_Values_init, w ∈ lw_tbl := tb_of [(1, 85), (1, 25), (1, 26), (1, 86), (1, 34), (1, 3), (1, 87), (1, 88), (1, 36), (1, 3), (1, 37), (1, 125), (1, 89), (1, 90), (1, 7), (1, 91), (1, 92), (1, 7), (1, 93), (1, 128), (1, 49), (1, 131), (1, 50), (1, 132), (1, 133), (1, 134), (1, 135)] rfl
set_option maxRecDepth 20000 in
theorem tb_105 : ∀ w ∈ wo_Values_forget, w ∈ lw_tbl := tb_of [(1, 135), (1, 125), (3, 121), (3, 122), (3, 123), (1, 3), (3, 124), (1, 128), (3, 125), (1, 96), (1, 97), (1, 7), (1, 98)] rfl
set_option maxRecDepth 20000 in
theorem tb_106 : ∀ w ∈ wo_Values_takeConstants, w ∈ lw_tbl := tb_of [(3, 130), (2, 48), (2, 49), (1, 2), (2, 50), (3, 131), (2, 82), (2, 83), (2, 84), (3, 132), (3, 134), (0, 9), (1, 6), (3, 135)] rfl
set_option maxRecDepth 20000 in
theorem tb_107 : ∀ w ∈ wo_Values_ofInteger, w ∈ lw_tbl := tb_of [(3, 209), (3, 211), (0, 17), (1, 6), (3, 212)] rfl
