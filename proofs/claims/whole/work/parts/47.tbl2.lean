set_option maxRecDepth 20000 in
theorem tb_114 : ∀ w ∈ wo_Values_numberOf, w ∈ lw_tbl := tb_of [(1, 140), (1, 137)] rfl
set_option maxRecDepth 20000 in
theorem tb_115 : ∀ w ∈ wo_Values_startOf, w ∈ lw_tbl := tb_of [(2, 122), (2, 124), (0, 3), (1, 6), (2, 125)] rfl
set_option maxRecDepth 20000 in
theorem tb_116 : ∀ w ∈ wo_Values_lengthOf, w ∈ lw_tbl := tb_of [(2, 114), (2, 116), (0, 2), (1, 6), (2, 117)] rfl
set_option maxRecDepth 20000 in
theorem tb_117 : ∀ w ∈ wo_Values_rootOf, w ∈ lw_tbl := tb_of [(2, 122), (2, 124), (0, 3), (1, 6), (2, 125)] rfl
set_option maxRecDepth 20000 in
theorem tb_118 : ∀ w ∈ wo_Values_bodyOf, w ∈ lw_tbl := tb_of [(2, 122), (2, 124), (0, 3), (1, 6), (2, 125)] rfl
set_option maxRecDepth 20000 in
theorem tb_119 : ∀ w ∈ wo_Values_scopeOf, w ∈ lw_tbl := tb_of [(2, 114), (2, 116), (0, 2), (1, 6), (2, 117)] rfl
set_option maxRecDepth 20000 in
theorem tb_120 : ∀ w ∈ wo_Values_argumentOf, w ∈ lw_tbl := tb_of [(2, 122), (2, 124), (0, 3), (1, 6), (2, 125)] rfl
set_option maxRecDepth 20000 in
theorem tb_121 : ∀ w ∈ wo_Values_beforeOf, w ∈ lw_tbl := tb_of [(2, 114), (2, 116), (0, 2), (1, 6), (2, 117)] rfl
set_option maxRecDepth 20000 in
theorem tb_122 : ∀ w ∈ wo_Values_givenTo, w ∈ lw_tbl := tb_of [(2, 114), (2, 116), (0, 2), (1, 6), (2, 117)] rfl
set_option maxRecDepth 20000 in
theorem tb_123 : ∀ w ∈ wo_Values_sizeOf, w ∈ lw_tbl := tb_of [(4, 34), (2, 103), (2, 104), (1, 6), (2, 105), (4, 35), (2, 111), (2, 112), (2, 113), (1, 133), (4, 36), (2, 139), (2, 140), (2, 141), (4, 37), (4, 38), (4, 39), (1, 7), (4, 40)] rfl
set_option maxRecDepth 20000 in
theorem tb_124 : ∀ w ∈ wo_Values_asNumber, w ∈ lw_tbl := tb_of [(4, 34), (2, 103), (2, 104), (1, 6), (2, 105), (5, 135), (4, 151), (4, 152), (4, 153), (4, 35), (2, 111), (2, 112), (2, 113), (1, 133), (4, 36), (2, 139), (2, 140), (2, 141), (5, 136), (2, 143), (2, 144), (1, 7), (2, 145)] rfl
set_option maxRecDepth 20000 in
theorem tb_125 : ∀ w ∈ wo_Values_partOf, w ∈ lw_tbl := tb_of [(1, 140), (1, 138)] rfl
set_option maxRecDepth 20000 in
theorem tb_126 : ∀ w ∈ wo_Values_linkOf, w ∈ lw_tbl := tb_of [(1, 140), (1, 139)] rfl
set_option maxRecDepth 20000 in
theorem tb_127 : ∀ w ∈ wo_Values_make, w ∈ lw_tbl := tb_of [(1, 140), (3, 143), (3, 145), (0, 10), (1, 6), (3, 146)] rfl
set_option maxRecDepth 20000 in
theorem tb_128 : ∀ w ∈ wo_Values_set, w ∈ lw_tbl := tb_of [(1, 140), (1, 136), (1, 137), (1, 138), (1, 139)] rfl
set_option maxRecDepth 20000 in
theorem tb_129 : ∀ w ∈ wo_Values_takeConstant, w ∈ lw_tbl := tb_of [(3, 141), (2, 57), (2, 58), (1, 2), (2, 59), (3, 142), (2, 65), (2, 66), (2, 67), (3, 143), (3, 145), (0, 10), (1, 6), (3, 146), (3, 147), (3, 149), (0, 11), (3, 150)] rfl
set_option maxRecDepth 20000 in
theorem tb_130 : ∀ w ∈ wo_Values_takeBytes, w ∈ lw_tbl := tb_of [(3, 142), (2, 65), (2, 66), (1, 2), (2, 67), (1, 130), (3, 151), (3, 152), (3, 153), (3, 154), (3, 156), (2, 75), (2, 76), (1, 3), (2, 77), (3, 143), (3, 145), (0, 10), (1, 6), (3, 146)] rfl
set_option maxRecDepth 20000 in
theorem tb_131 : ∀ w ∈ wo_Waiting_init, w ∈ lw_tbl := tb_of [(1, 183), (1, 30), (1, 31), (1, 54), (1, 184), (1, 185), (1, 186), (1, 187), (1, 188)] rfl
set_option maxRecDepth 20000 in
theorem tb_132 : ∀ w ∈ wo_Waiting_forget, w ∈ lw_tbl := tb_of [(1, 187), (1, 188)] rfl
set_option maxRecDepth 20000 in
theorem tb_133 : ∀ w ∈ wo_Waiting_most, w ∈ lw_tbl := tb_of [(1, 188)] rfl
set_option maxRecDepth 20000 in
theorem tb_134 : ∀ w ∈ wo_Waiting_isEmpty, w ∈ lw_tbl := tb_of [(1, 187)] rfl
set_option maxRecDepth 20000 in
theorem tb_135 : ∀ w ∈ wo_Waiting_push, w ∈ lw_tbl := tb_of [(1, 187), (1, 184), (1, 185), (1, 186), (1, 188), (3, 227), (1, 45), (1, 4), (1, 46)] rfl
set_option maxRecDepth 20000 in
theorem tb_136 : ∀ w ∈ wo_Waiting_pop, w ∈ lw_tbl := tb_of [(1, 187), (3, 227), (1, 45), (1, 4), (1, 46)] rfl
set_option maxRecDepth 20000 in
theorem tb_137 : ∀ w ∈ wo_Waiting_lastNode, w ∈ lw_tbl := tb_of [(1, 187), (5, 60), (5, 62), (0, 36), (1, 9), (5, 63), (1, 184)] rfl
set_option maxRecDepth 20000 in
theorem tb_138 : ∀ w ∈ wo_Waiting_lastScope, w ∈ lw_tbl := tb_of [(1, 187), (5, 60), (5, 62), (0, 36), (1, 9), (5, 63), (1, 185)] rfl
set_option maxRecDepth 20000 in
theorem tb_139 : ∀ w ∈ wo_Waiting_lastFunction, w ∈ lw_tbl := tb_of [(1, 187), (5, 60), (5, 62), (0, 36), (1, 9), (5, 63), (1, 186)] rfl
set_option maxRecDepth 20000 in
theorem tb_140 : ∀ w ∈ wo_Waiting_setLastFunction, w ∈ lw_tbl := tb_of [(1, 187), (5, 60), (5, 62), (0, 36), (1, 9), (5, 63), (1, 186)] rfl
set_option maxRecDepth 20000 in
theorem tb_141 : ∀ w ∈ wo_Waiting_has, w ∈ lw_tbl := tb_of [] rfl
set_option maxRecDepth 20000 in
theorem tb_142 : ∀ w ∈ wo_Cek_init, w ∈ lw_tbl := tb_of [(1, 29), (1, 30), (1, 31), (1, 32), (1, 33), (1, 2), (1, 35), (1, 2), (1, 36), (2, 26), (1, 79), (1, 80), (1, 5), (1, 81), (1, 82), (1, 5), (1, 83), (2, 27), (2, 28)] rfl
set_option maxRecDepth 20000 in
theorem tb_143 : ∀ w ∈ wo_Cek_clear, w ∈ lw_tbl := tb_of [(2, 26), (2, 40), (2, 41), (2, 42), (1, 2), (2, 43)] rfl
set_option maxRecDepth 20000 in
theorem tb_144 : ∀ w ∈ wo_Cek_node, w ∈ lw_tbl := tb_of [(2, 207), (2, 208), (1, 2), (2, 209), (2, 26), (2, 170), (2, 171), (2, 172), (1, 2), (2, 173), (3, 38), (3, 39), (1, 2), (3, 40), (3, 41), (3, 42), (3, 43), (3, 44), (3, 61), (3, 62), (3, 63), (3, 64)] rfl
set_option maxRecDepth 20000 in
theorem tb_145 : ∀ w ∈ wo_Cek_bytes, w ∈ lw_tbl := tb_of [(2, 26), (3, 41), (3, 42), (3, 43), (1, 2), (3, 44), (3, 61), (3, 62), (3, 63), (3, 64), (2, 69), (2, 70), (2, 71), (2, 72), (2, 170), (2, 171), (2, 172), (2, 173)] rfl
set_option maxRecDepth 20000 in
theorem tb_146 : ∀ w ∈ wo_Cek_more, w ∈ lw_tbl := tb_of [(2, 26), (2, 48), (2, 49), (2, 50), (1, 2), (2, 51), (2, 69), (2, 70), (2, 71), (2, 72)] rfl
set_option maxRecDepth 20000 in
theorem tb_147 : ∀ w ∈ wo_Cek_drop, w ∈ lw_tbl := tb_of [(2, 26), (2, 82), (2, 83), (2, 84), (1, 2), (2, 85)] rfl
set_option maxRecDepth 20000 in
theorem tb_148 : ∀ w ∈ wo_Cek_run, w ∈ lw_tbl := tb_of [(2, 26), (2, 170), (2, 171), (2, 172), (1, 2), (2, 173), (2, 178), (2, 179), (2, 180), (2, 181), (2, 27), (3, 102), (3, 103), (3, 104), (1, 5), (3, 105), (2, 28)] rfl
set_option maxRecDepth 20000 in
theorem tb_149 : ∀ w ∈ wo_Cek_kind, w ∈ lw_tbl := tb_of [(2, 27), (1, 236), (2, 94), (2, 96), (0, 1), (1, 1), (2, 97), (2, 102), (2, 103), (2, 104), (1, 6), (2, 105)] rfl
set_option maxRecDepth 20000 in
theorem tb_150 : ∀ w ∈ wo_Cek_number, w ∈ lw_tbl := tb_of [(2, 94), (2, 96), (0, 1), (1, 1), (2, 97), (2, 27), (1, 236), (5, 131), (5, 132), (5, 133), (1, 6), (5, 134)] rfl
set_option maxRecDepth 20000 in
theorem tb_151 : ∀ w ∈ wo_Cek_byteAt, w ∈ lw_tbl := tb_of [(2, 27), (1, 236), (2, 94), (2, 96), (0, 1), (1, 1), (2, 97), (2, 102), (2, 103), (2, 104), (1, 6), (2, 105), (2, 110), (2, 111), (2, 112), (2, 113), (1, 131), (2, 118), (2, 119), (2, 120), (2, 121), (2, 126), (2, 127), (2, 128), (1, 3), (2, 129)] rfl
set_option maxRecDepth 20000 in
theorem tb_152 : ∀ w ∈ wo_Cek_data, w ∈ lw_tbl := tb_of [(2, 27), (1, 236), (1, 135), (2, 134), (2, 136), (0, 4), (1, 1), (2, 137), (2, 146), (2, 147), (2, 148), (1, 7), (2, 149), (2, 150), (2, 151), (2, 152), (2, 153), (2, 154), (2, 155), (2, 156), (2, 157), (2, 158), (2, 159), (2, 160), (2, 161)] rfl
set_option maxRecDepth 20000 in
theorem tb_153 : ∀ w ∈ wo_Cek_dataValue, w ∈ lw_tbl := tb_of [(2, 27), (1, 236), (1, 135), (2, 134), (2, 136), (0, 4), (1, 1), (2, 137), (2, 146), (2, 147), (2, 148), (1, 7), (2, 149), (2, 154), (2, 155), (2, 156), (2, 157)] rfl
set_option maxRecDepth 20000 in
theorem tb_154 : ∀ w ∈ wo_Cek_dataByte, w ∈ lw_tbl := tb_of [(2, 27), (1, 236), (1, 135), (2, 134), (2, 136), (0, 4), (1, 1), (2, 137), (2, 146), (2, 147), (2, 148), (1, 7), (2, 149), (2, 150), (2, 151), (2, 152), (2, 153), (1, 131), (2, 154), (2, 155), (2, 156), (2, 157), (2, 126), (2, 127), (2, 128), (1, 3), (2, 129)] rfl
set_option maxRecDepth 20000 in
theorem tb_155 : ∀ w ∈ wo_Cek_look, w ∈ lw_tbl := tb_of [(2, 26), (2, 170), (2, 171), (2, 172), (1, 2), (2, 173), (2, 174), (2, 175), (2, 176), (2, 177), (2, 178), (2, 179), (2, 180), (2, 181), (2, 28), (2, 27), (1, 238), (2, 186), (2, 187), (2, 188), (1, 8), (2, 189), (2, 190), (2, 191), (2, 192), (2, 193), (2, 0), (2, 194), (2, 195), (2, 196), (1, 9), (2, 197)] rfl
set_option maxRecDepth 20000 in
theorem tb_156 : ∀ w ∈ wo_Cek_result, w ∈ lw_tbl := tb_of [(2, 28), (2, 27), (2, 98), (2, 99), (2, 100), (1, 5), (2, 101)] rfl
set_option maxRecDepth 20000 in
theorem tb_157 : ∀ w ∈ wo_Cek_placeOfData, w ∈ lw_tbl := tb_of [(2, 27), (1, 236), (2, 94), (2, 96), (0, 1), (1, 1), (2, 97), (2, 102), (2, 103), (2, 104), (1, 6), (2, 105), (2, 138), (2, 139), (2, 140), (2, 141), (1, 135), (2, 142), (2, 143), (2, 144), (1, 7), (2, 145)] rfl
set_option maxRecDepth 20000 in
theorem tb_158 : ∀ w ∈ wo_Mod_init, w ∈ lw_tbl := tb_of [(5, 150), (1, 30), (1, 31), (1, 54), (5, 154), (1, 55), (5, 155), (5, 156), (5, 157), (5, 158), (1, 56), (5, 159), (5, 161), (5, 163), (5, 164), (5, 165), (5, 166), (5, 167), (5, 168), (5, 169), (5, 170), (5, 171), (5, 151), (5, 173), (5, 175), (5, 176), (5, 177), (5, 178), (5, 152), (5, 180), (5, 182), (5, 183), (5, 185), (5, 186), (5, 187), (5, 188), (5, 191), (5, 201), (5, 202), (5, 204)] rfl
set_option maxRecDepth 20000 in
theorem tb_159 : ∀ w ∈ wo_Mod_thrown, w ∈ lw_tbl := tb_of [(5, 153)] rfl
set_option maxRecDepth 20000 in
theorem tb_160 : ∀ w ∈ wo_Mod_takes, w ∈ lw_tbl := tb_of [] rfl
set_option maxRecDepth 20000 in
theorem tb_161 : ∀ w ∈ wo_Mod_isArg, w ∈ lw_tbl := tb_of [(6, 85), (6, 86)] rfl
set_option maxRecDepth 20000 in
theorem tb_162 : ∀ w ∈ wo_Mod_clear, w ∈ lw_tbl := tb_of [(5, 153), (5, 160), (5, 162)] rfl
set_option maxRecDepth 20000 in
theorem tb_163 : ∀ w ∈ wo_Mod_node, w ∈ lw_tbl := tb_of [(6, 82), (6, 83), (1, 12), (6, 84), (5, 153), (5, 162), (6, 87), (6, 88), (1, 12), (6, 89), (5, 160), (5, 154), (5, 155), (5, 156), (5, 157), (5, 158), (5, 161)] rfl
set_option maxRecDepth 20000 in
theorem tb_164 : ∀ w ∈ wo_Mod_append, w ∈ lw_tbl := tb_of [(5, 159), (5, 155)] rfl
set_option maxRecDepth 20000 in
theorem tb_165 : ∀ w ∈ wo_Mod_bytes, w ∈ lw_tbl := tb_of [(5, 160), (5, 153), (5, 154), (5, 155), (5, 156), (5, 157), (5, 158), (6, 94), (6, 96), (0, 40), (1, 12), (6, 97), (5, 161), (5, 162)] rfl
set_option maxRecDepth 20000 in
theorem tb_166 : ∀ w ∈ wo_Mod_more, w ∈ lw_tbl := tb_of [(5, 153), (5, 162), (5, 161), (5, 154), (5, 155), (6, 102), (6, 94), (6, 96), (0, 40), (1, 12), (6, 97)] rfl
set_option maxRecDepth 20000 in
theorem tb_167 : ∀ w ∈ wo_Mod_drop, w ∈ lw_tbl := tb_of [(5, 153), (5, 162), (5, 160), (5, 158), (5, 161)] rfl
set_option maxRecDepth 20000 in
theorem tb_168 : ∀ w ∈ wo_Mod_lacking, w ∈ lw_tbl := tb_of [(5, 161), (5, 162), (5, 158), (5, 156), (5, 202), (5, 157), (5, 154), (5, 155)] rfl
set_option maxRecDepth 20000 in
theorem tb_169 : ∀ w ∈ wo_Mod_make, w ∈ lw_tbl := tb_of [(5, 163), (5, 172), (5, 164), (5, 169)] rfl
set_option maxRecDepth 20000 in
theorem tb_170 : ∀ w ∈ wo_Mod_truth, w ∈ lw_tbl := tb_of [(6, 119), (6, 121), (0, 43), (1, 12), (6, 122)] rfl
set_option maxRecDepth 20000 in
theorem tb_171 : ∀ w ∈ wo_Mod_makeBytes, w ∈ lw_tbl := tb_of [(6, 119), (6, 121), (0, 43), (1, 12), (6, 122), (5, 165), (5, 174), (5, 166)] rfl
set_option maxRecDepth 20000 in
theorem tb_172 : ∀ w ∈ wo_Mod_putText, w ∈ lw_tbl := tb_of [(5, 173), (5, 174), (5, 203)] rfl
set_option maxRecDepth 20000 in
theorem tb_173 : ∀ w ∈ wo_Mod_byteOf, w ∈ lw_tbl := tb_of [(5, 173), (5, 165)] rfl
set_option maxRecDepth 20000 in
theorem tb_174 : ∀ w ∈ wo_Mod_putData, w ∈ lw_tbl := tb_of [(5, 175), (5, 179), (5, 176), (5, 177), (5, 178)] rfl
set_option maxRecDepth 20000 in
theorem tb_175 : ∀ w ∈ wo_Mod_makeData, w ∈ lw_tbl := tb_of [(6, 119), (6, 121), (0, 43), (1, 12), (6, 122), (5, 165), (5, 166), (5, 179)] rfl
set_option maxRecDepth 20000 in
theorem tb_176 : ∀ w ∈ wo_Mod_copyData, w ∈ lw_tbl := tb_of [(5, 175), (5, 176), (5, 177), (5, 178), (6, 131), (6, 133), (0, 46), (1, 12), (6, 134)] rfl
set_option maxRecDepth 20000 in
theorem tb_177 : ∀ w ∈ wo_Mod_within, w ∈ lw_tbl := tb_of [(5, 175), (5, 177)] rfl
set_option maxRecDepth 20000 in
theorem tb_178 : ∀ w ∈ wo_Mod_sizeOfData, w ∈ lw_tbl := tb_of [(7, 13), (7, 15), (0, 74), (1, 12), (7, 16)] rfl
set_option maxRecDepth 20000 in
theorem tb_179 : ∀ w ∈ wo_Mod_depthOfData, w ∈ lw_tbl := tb_of [(5, 204), (7, 13), (7, 15), (0, 74), (1, 12), (7, 16)] rfl
set_option maxRecDepth 20000 in
theorem tb_180 : ∀ w ∈ wo_Mod_bytesOfData, w ∈ lw_tbl := tb_of [(5, 175), (5, 177)] rfl
set_option maxRecDepth 20000 in
theorem tb_181 : ∀ w ∈ wo_Mod_sizeOf, w ∈ lw_tbl := tb_of [(5, 163), (5, 166), (5, 165), (6, 182), (6, 184), (0, 58), (1, 12), (6, 185)] rfl
set_option maxRecDepth 20000 in
theorem tb_182 : ∀ w ∈ wo_Mod_arity, w ∈ lw_tbl := tb_of [] rfl
set_option maxRecDepth 20000 in
theorem tb_183 : ∀ w ∈ wo_Mod_fail, w ∈ lw_tbl := tb_of [(5, 196)] rfl
set_option maxRecDepth 20000 in
theorem tb_184 : ∀ w ∈ wo_Mod_isKind, w ∈ lw_tbl := tb_of [(5, 163), (5, 201)] rfl
set_option maxRecDepth 20000 in
theorem tb_185 : ∀ w ∈ wo_Mod_isForm, w ∈ lw_tbl := tb_of [(6, 194), (6, 196), (0, 61), (1, 12), (6, 197), (5, 175), (5, 165), (5, 201)] rfl
set_option maxRecDepth 20000 in
theorem tb_186 : ∀ w ∈ wo_Mod_fits, w ∈ lw_tbl := tb_of [(6, 194), (6, 196), (0, 61), (1, 12), (6, 197), (6, 198), (6, 200), (0, 62), (6, 201)] rfl
set_option maxRecDepth 20000 in
theorem tb_187 : ∀ w ∈ wo_Mod_isProduct, w ∈ lw_tbl := tb_of [(6, 206), (6, 207)] rfl
set_option maxRecDepth 20000 in
theorem tb_188 : ∀ w ∈ wo_Mod_sums, w ∈ lw_tbl := tb_of [(6, 206), (6, 207), (6, 208), (6, 147), (6, 149), (0, 50), (1, 12), (6, 150), (6, 119), (6, 121), (0, 43), (6, 122), (6, 209), (6, 210), (1, 12), (6, 211), (6, 212), (6, 214), (0, 64), (6, 215)] rfl
set_option maxRecDepth 20000 in
theorem tb_189 : ∀ w ∈ wo_Mod_order, w ∈ lw_tbl := tb_of [(5, 166), (6, 220), (6, 222), (0, 66), (1, 12), (6, 223)] rfl
set_option maxRecDepth 20000 in
theorem tb_190 : ∀ w ∈ wo_Mod_ofBytes, w ∈ lw_tbl := tb_of [(5, 203), (5, 201), (5, 166), (6, 147), (6, 149), (0, 50), (1, 12), (6, 150), (6, 220), (6, 222), (0, 66), (6, 223), (6, 123), (6, 125), (0, 44), (6, 126), (6, 127), (6, 129), (0, 45), (6, 130), (6, 119), (6, 121), (0, 43), (6, 122), (5, 164), (6, 224), (6, 226), (0, 67), (6, 227), (6, 212), (6, 214), (0, 64), (6, 215)] rfl
set_option maxRecDepth 20000 in
theorem tb_191 : ∀ w ∈ wo_Mod_sameData, w ∈ lw_tbl := tb_of [(5, 166), (5, 165), (5, 175), (5, 176), (5, 177), (5, 173), (5, 178)] rfl
set_option maxRecDepth 20000 in
theorem tb_192 : ∀ w ∈ wo_Mod_outer, w ∈ lw_tbl := tb_of [(5, 179), (6, 131), (6, 133), (0, 46), (1, 12), (6, 134), (5, 165), (5, 166), (7, 0), (7, 2), (0, 71), (7, 3), (6, 135), (6, 137), (0, 47), (6, 138)] rfl
set_option maxRecDepth 20000 in
theorem tb_193 : ∀ w ∈ wo_Mod_ofData, w ∈ lw_tbl := tb_of [(5, 201), (5, 165), (5, 179), (6, 232), (6, 234), (0, 69), (1, 12), (6, 235), (6, 212), (6, 214), (0, 64), (6, 215), (5, 175), (6, 119), (6, 121), (0, 43), (6, 122), (5, 176), (5, 177), (6, 236), (6, 238), (0, 70), (6, 239), (5, 164), (7, 4), (6, 147), (6, 149), (0, 50), (6, 150), (6, 131), (6, 133), (0, 46), (6, 134), (6, 135), (6, 137), (0, 47), (6, 138), (5, 166), (5, 203), (5, 173), (5, 178), (6, 123), (6, 125), (0, 44), (6, 126), (6, 127), (6, 129), (0, 45), (6, 130), (7, 5), (7, 7), (0, 72), (7, 8)] rfl
set_option maxRecDepth 20000 in
theorem tb_194 : ∀ w ∈ wo_Mod_ofLists, w ∈ lw_tbl := tb_of [(5, 177), (7, 9), (7, 11), (0, 73), (1, 12), (7, 12), (6, 147), (6, 149), (0, 50), (6, 150), (7, 0), (7, 2), (0, 71), (7, 3), (6, 135), (6, 137), (0, 47), (6, 138), (6, 131), (6, 133), (0, 46), (6, 134), (5, 166), (5, 201), (5, 165), (5, 179), (7, 17), (7, 19), (0, 75), (7, 20), (6, 212), (6, 214), (0, 64), (6, 215), (6, 236), (6, 238), (0, 70), (6, 239)] rfl
set_option maxRecDepth 20000 in
theorem tb_195 : ∀ w ∈ wo_Mod_does, w ∈ lw_tbl := tb_of [(6, 190), (6, 192), (0, 60), (1, 12), (6, 193), (6, 147), (6, 149), (0, 50), (6, 150), (5, 164), (5, 201), (6, 202), (6, 204), (0, 63), (6, 205), (6, 216), (6, 218), (0, 65), (6, 219), (6, 228), (6, 230), (0, 68), (6, 231)] rfl
set_option maxRecDepth 20000 in
theorem tb_196 : ∀ w ∈ wo_Mod_step, w ∈ lw_tbl := tb_of [(5, 192), (5, 194), (6, 147), (6, 149), (0, 50), (1, 12), (6, 150)] rfl
set_option maxRecDepth 20000 in
theorem tb_197 : ∀ w ∈ wo_Mod_keep, w ∈ lw_tbl := tb_of [(5, 193), (5, 195), (6, 147), (6, 149), (0, 50), (1, 12), (6, 150)] rfl
set_option maxRecDepth 20000 in
theorem tb_198 : ∀ w ∈ wo_Mod_comes, w ∈ lw_tbl := tb_of [(5, 198), (5, 200)] rfl
set_option maxRecDepth 20000 in
theorem tb_199 : ∀ w ∈ wo_Mod_wait, w ∈ lw_tbl := tb_of [(5, 186), (5, 189), (5, 187), (5, 188), (5, 190)] rfl
set_option maxRecDepth 20000 in
theorem tb_200 : ∀ w ∈ wo_Mod_constant, w ∈ lw_tbl := tb_of [(5, 154), (5, 155), (6, 119), (6, 121), (0, 43), (1, 12), (6, 122), (5, 203), (5, 159), (6, 123), (6, 125), (0, 44), (6, 126), (6, 127), (6, 129), (0, 45), (6, 130), (6, 131), (6, 133), (0, 46), (6, 134), (5, 179), (6, 135), (6, 137), (0, 47), (6, 138), (5, 185)] rfl
set_option maxRecDepth 20000 in
theorem tb_201 : ∀ w ∈ wo_Mod_evaluate, w ∈ lw_tbl := tb_of [(6, 143), (6, 145), (0, 49), (1, 12), (6, 146), (5, 198), (5, 154), (5, 180), (5, 182), (5, 199), (5, 183), (5, 155), (6, 151), (6, 153), (0, 51), (6, 154), (6, 155), (6, 157), (0, 52), (6, 158), (6, 119), (6, 121), (0, 43), (6, 122), (5, 167), (5, 156), (5, 168), (5, 189), (6, 147), (6, 149), (0, 50), (6, 150), (5, 157), (6, 159), (6, 161), (0, 53), (6, 162), (5, 185)] rfl
set_option maxRecDepth 20000 in
theorem tb_202 : ∀ w ∈ wo_Mod_callFunction, w ∈ lw_tbl := tb_of [(6, 155), (6, 157), (0, 52), (1, 12), (6, 158), (5, 168), (5, 182), (5, 184), (5, 181), (5, 183), (5, 180), (5, 199), (5, 167), (5, 198)] rfl
set_option maxRecDepth 20000 in
theorem tb_203 : ∀ w ∈ wo_Mod_callBuiltin, w ∈ lw_tbl := tb_of [(5, 164), (5, 169), (6, 175), (6, 176), (1, 12), (6, 177), (6, 155), (6, 157), (0, 52), (1, 12), (6, 158), (6, 119), (6, 121), (0, 43), (6, 122), (5, 170), (5, 171), (6, 151), (6, 153), (0, 51), (6, 154), (5, 201), (6, 178), (6, 180), (0, 57), (6, 181), (6, 143), (6, 145), (0, 49), (6, 146), (6, 186), (6, 188), (0, 59), (6, 189), (5, 196)] rfl
set_option maxRecDepth 20000 in
theorem tb_204 : ∀ w ∈ wo_Mod_answered, w ∈ lw_tbl := tb_of [(5, 189), (5, 186), (5, 188), (5, 199), (5, 187), (5, 198), (5, 200), (6, 159), (6, 161), (0, 53), (1, 12), (6, 162), (5, 163), (6, 167), (6, 169), (0, 55), (6, 170), (6, 171), (6, 173), (0, 56), (6, 174), (6, 147), (6, 149), (0, 50), (6, 150), (5, 167), (5, 168)] rfl
set_option maxRecDepth 20000 in
theorem tb_205 : ∀ w ∈ wo_Mod_run, w ∈ lw_tbl := tb_of [(5, 162), (5, 153), (6, 111), (6, 113), (0, 41), (1, 12), (6, 114), (5, 194), (5, 195), (5, 192), (5, 193), (5, 196), (5, 172), (5, 174), (5, 179), (5, 181), (5, 184), (5, 182), (5, 183), (5, 189), (5, 190), (5, 161), (5, 158), (6, 115), (6, 117), (0, 42), (6, 118), (5, 198), (5, 199), (6, 139), (6, 141), (0, 48), (6, 142), (6, 163), (6, 165), (0, 54), (6, 166), (5, 191), (5, 200), (5, 197)] rfl
set_option maxRecDepth 20000 in
theorem tb_206 : ∀ w ∈ wo_Mod_kind, w ∈ lw_tbl := tb_of [(5, 153), (5, 191), (5, 163), (5, 197)] rfl
set_option maxRecDepth 20000 in
theorem tb_207 : ∀ w ∈ wo_Mod_number, w ∈ lw_tbl := tb_of [(5, 191), (5, 153), (5, 163), (5, 197), (5, 164), (5, 166)] rfl
set_option maxRecDepth 20000 in
theorem tb_208 : ∀ w ∈ wo_Mod_byteAt, w ∈ lw_tbl := tb_of [(5, 153), (5, 191), (5, 163), (5, 197), (5, 166), (6, 220), (6, 222), (0, 66), (1, 12), (6, 223)] rfl
set_option maxRecDepth 20000 in
theorem tb_209 : ∀ w ∈ wo_Mod_dataAt, w ∈ lw_tbl := tb_of [(5, 191), (5, 163), (5, 197), (5, 166), (5, 165)] rfl
set_option maxRecDepth 20000 in
theorem tb_210 : ∀ w ∈ wo_Mod_data, w ∈ lw_tbl := tb_of [(5, 153), (7, 37), (7, 39), (0, 76), (1, 12), (7, 40), (5, 175), (5, 177), (5, 176), (7, 9), (7, 11), (0, 73), (7, 12), (7, 17), (7, 19), (0, 75), (7, 20)] rfl
set_option maxRecDepth 20000 in
theorem tb_211 : ∀ w ∈ wo_Mod_dataValue, w ∈ lw_tbl := tb_of [(7, 37), (7, 39), (0, 76), (1, 12), (7, 40), (5, 175), (5, 153), (5, 176)] rfl
set_option maxRecDepth 20000 in
theorem tb_212 : ∀ w ∈ wo_Mod_dataByte, w ∈ lw_tbl := tb_of [(5, 153), (7, 37), (7, 39), (0, 76), (1, 12), (7, 40), (5, 175), (5, 177), (5, 173), (5, 178)] rfl
set_option maxRecDepth 20000 in
theorem tb_213 : ∀ w ∈ wo_Mod_look, w ∈ lw_tbl := tb_of [(5, 153), (5, 162), (5, 160), (6, 111), (6, 113), (0, 41), (1, 12), (6, 114), (5, 191), (5, 192), (5, 193), (5, 190)] rfl
set_option maxRecDepth 20000 in
theorem tb_214 : ∀ w ∈ wo_Math_floorDiv, w ∈ lw_tbl := tb_of [] rfl
set_option maxRecDepth 20000 in
theorem tb_215 : ∀ w ∈ wo_Math_floorMod, w ∈ lw_tbl := tb_of [] rfl
set_option maxRecDepth 20000 in
theorem tb_216 : ∀ w ∈ wo_String_coder, w ∈ lw_tbl := tb_of [(4, 24), (7, 56)] rfl
set_option maxRecDepth 20000 in
theorem tb_217 : ∀ w ∈ wo_String_length, w ∈ lw_tbl := tb_of [(7, 55), (4, 20), (4, 21), (4, 22), (1, 18), (4, 23)] rfl
set_option maxRecDepth 20000 in
theorem tb_218 : ∀ w ∈ wo_String_isLatin1, w ∈ lw_tbl := tb_of [(4, 24), (7, 56)] rfl
set_option maxRecDepth 20000 in
theorem tb_219 : ∀ w ∈ wo_Preconditions_checkIndex, w ∈ lw_tbl := tb_of [] rfl
set_option maxRecDepth 20000 in
theorem tb_220 : ∀ w ∈ wo_String_checkIndex, w ∈ lw_tbl := tb_of [(4, 60), (4, 62), (4, 63), (1, 20), (4, 64)] rfl
set_option maxRecDepth 20000 in
theorem tb_221 : ∀ w ∈ wo_StringLatin1_charAt, w ∈ lw_tbl := tb_of [(4, 57), (4, 58), (1, 18), (4, 59)] rfl
set_option maxRecDepth 20000 in
theorem tb_222 : ∀ w ∈ wo_String_charAt, w ∈ lw_tbl := tb_of [(4, 50), (4, 51), (4, 52), (1, 18), (4, 53), (7, 55), (4, 54), (4, 55), (1, 19), (4, 56)] rfl
set_option maxRecDepth 20000 in
theorem tb_223 : ∀ w ∈ wo_StringLatin1_canEncode, w ∈ lw_tbl := tb_of [] rfl
set_option maxRecDepth 20000 in
theorem tb_224 : ∀ w ∈ wo_StringLatin1_indexOfChar, w ∈ lw_tbl := tb_of [] rfl
set_option maxRecDepth 20000 in
theorem tb_225 : ∀ w ∈ wo_StringLatin1_indexOf, w ∈ lw_tbl := tb_of [(4, 104), (4, 105), (1, 19), (4, 106), (4, 107), (1, 45), (1, 4), (1, 46), (4, 108), (4, 109), (4, 110), (4, 111), (4, 112), (1, 19), (4, 113)] rfl
set_option maxRecDepth 20000 in
theorem tb_226 : ∀ w ∈ wo_String_indexOf, w ∈ lw_tbl := tb_of [(4, 50), (4, 51), (4, 52), (1, 18), (4, 53), (7, 55), (4, 100), (4, 17), (4, 18), (4, 19), (4, 101), (4, 102), (1, 19), (4, 103)] rfl
set_option maxRecDepth 20000 in
theorem tb_227 : ∀ w ∈ wo_String_indexOf2, w ∈ lw_tbl := tb_of [(4, 96), (4, 97), (4, 98), (1, 18), (4, 99)] rfl
set_option maxRecDepth 100000 in
theorem tb_all : ∀ c ∈ [u_ws R_Cek T_Cek 3, u_ws R_Terms T_Terms 7, u_ws R_ByteRow T_ByteRow 2, u_ws R_Evaluator T_Evaluator 9, u_ws R_Values T_Values 7, u_ws R_DataRow T_DataRow 7, u_ws R_Meter T_Meter 5, u_ws R_Waiting T_Waiting 5, u_ws R_Scopes T_Scopes 3, u_ws R_Builtins T_Builtins 4, u_ws R_Mod T_Mod 52, wo_Builtins_init, wo_Builtins_takes, wo_Builtins_forget, wo_Builtins_isReady, wo_Builtins_take, wo_Builtins_perform, wo_Builtins_gather, wo_Builtins_sizeOfGiven, wo_Builtins_allFit, wo_Builtins_fits, wo_Builtins_onIntegers, wo_Builtins_sumFits, wo_Builtins_differenceFits, wo_Builtins_productFits, wo_Builtins_quotientFits, wo_Builtins_onBytes, wo_Builtins_join, wo_Builtins_byteOf, wo_Builtins_slice, wo_Builtins_compareBytes, wo_Builtins_onData, wo_Builtins_toConstructor, wo_Builtins_onLists, wo_Builtins_sameData, wo_Builtins_sameNode, wo_ByteRow_init, wo_ByteRow_at, wo_ByteRow_put, wo_ByteRow_cut, wo_ByteRow_append, wo_ByteRow_end, wo_ByteRow_compare, wo_DataRow_init, wo_DataRow_forget, wo_DataRow_formOf, wo_DataRow_countOf, wo_DataRow_numberOf, wo_DataRow_nodesOf, wo_DataRow_depthOf, wo_DataRow_sizeOf, wo_DataRow_leaf, wo_DataRow_recast, wo_DataRow_prepend, wo_DataRow_rest, wo_DataRow_copy, wo_DataRow_sealed, wo_Evaluator_init, wo_Evaluator_outcome, wo_Evaluator_evaluateLast, wo_Evaluator_goesOn, wo_Evaluator_evaluateIn, wo_Evaluator_evaluateNode, wo_Evaluator_hold, wo_Evaluator_await, wo_Evaluator_goOn, wo_Evaluator_force, wo_Evaluator_call, wo_Meter_init, wo_Meter_start, wo_Meter_steps, wo_Meter_memory, wo_Meter_fault, wo_Meter_fail, wo_Meter_paySteps, wo_Meter_payMemory, wo_Scopes_init, wo_Scopes_forget, wo_Scopes_bind, wo_Scopes_find, wo_Scopes_has, wo_Terms_init, wo_Terms_allows, wo_Terms_partsOf, wo_Terms_count, wo_Terms_nodeCount, wo_Terms_isFull, wo_Terms_last, wo_Terms_lacksOfLast, wo_Terms_kindOf, wo_Terms_argOf, wo_Terms_firstOf, wo_Terms_lastPartOf, wo_Terms_functionOf, wo_Terms_textAt, wo_Terms_forget, wo_Terms_push, wo_Terms_pop, wo_Terms_canLengthen, wo_Terms_lengthen, wo_Terms_has, wo_Terms_lacksOf, wo_Terms_firstOfNew, wo_Terms_lacksOfNew, wo_Values_init, wo_Values_forget, wo_Values_takeConstants, wo_Values_ofInteger, wo_Values_ofTruth, wo_Values_ofBytes, wo_Values_ofData, wo_Values_ofBody, wo_Values_ofBuiltin, wo_Values_kindOf, wo_Values_numberOf, wo_Values_startOf, wo_Values_lengthOf, wo_Values_rootOf, wo_Values_bodyOf, wo_Values_scopeOf, wo_Values_argumentOf, wo_Values_beforeOf, wo_Values_givenTo, wo_Values_sizeOf, wo_Values_asNumber, wo_Values_partOf, wo_Values_linkOf, wo_Values_make, wo_Values_set, wo_Values_takeConstant, wo_Values_takeBytes, wo_Waiting_init, wo_Waiting_forget, wo_Waiting_most, wo_Waiting_isEmpty, wo_Waiting_push, wo_Waiting_pop, wo_Waiting_lastNode, wo_Waiting_lastScope, wo_Waiting_lastFunction, wo_Waiting_setLastFunction, wo_Waiting_has, wo_Cek_init, wo_Cek_clear, wo_Cek_node, wo_Cek_bytes, wo_Cek_more, wo_Cek_drop, wo_Cek_run, wo_Cek_kind, wo_Cek_number, wo_Cek_byteAt, wo_Cek_data, wo_Cek_dataValue, wo_Cek_dataByte, wo_Cek_look, wo_Cek_result, wo_Cek_placeOfData, wo_Mod_init, wo_Mod_thrown, wo_Mod_takes, wo_Mod_isArg, wo_Mod_clear, wo_Mod_node, wo_Mod_append, wo_Mod_bytes, wo_Mod_more, wo_Mod_drop, wo_Mod_lacking, wo_Mod_make, wo_Mod_truth, wo_Mod_makeBytes, wo_Mod_putText, wo_Mod_byteOf, wo_Mod_putData, wo_Mod_makeData, wo_Mod_copyData, wo_Mod_within, wo_Mod_sizeOfData, wo_Mod_depthOfData, wo_Mod_bytesOfData, wo_Mod_sizeOf, wo_Mod_arity, wo_Mod_fail, wo_Mod_isKind, wo_Mod_isForm, wo_Mod_fits, wo_Mod_isProduct, wo_Mod_sums, wo_Mod_order, wo_Mod_ofBytes, wo_Mod_sameData, wo_Mod_outer, wo_Mod_ofData, wo_Mod_ofLists, wo_Mod_does, wo_Mod_step, wo_Mod_keep, wo_Mod_comes, wo_Mod_wait, wo_Mod_constant, wo_Mod_evaluate, wo_Mod_callFunction, wo_Mod_callBuiltin, wo_Mod_answered, wo_Mod_run, wo_Mod_kind, wo_Mod_number, wo_Mod_byteAt, wo_Mod_dataAt, wo_Mod_data, wo_Mod_dataValue, wo_Mod_dataByte, wo_Mod_look, wo_Math_floorDiv, wo_Math_floorMod, wo_String_coder, wo_String_length, wo_String_isLatin1, wo_Preconditions_checkIndex, wo_String_checkIndex, wo_StringLatin1_charAt, wo_String_charAt, wo_StringLatin1_canEncode, wo_StringLatin1_indexOfChar, wo_StringLatin1_indexOf, wo_String_indexOf, wo_String_indexOf2], ∀ w ∈ c, w ∈ lw_tbl := (List.forall_mem_cons.mpr ⟨tb_0, (List.forall_mem_cons.mpr ⟨tb_1, (List.forall_mem_cons.mpr ⟨tb_2, (List.forall_mem_cons.mpr ⟨tb_3, (List.forall_mem_cons.mpr ⟨tb_4, (List.forall_mem_cons.mpr ⟨tb_5, (List.forall_mem_cons.mpr ⟨tb_6, (List.forall_mem_cons.mpr ⟨tb_7, (List.forall_mem_cons.mpr ⟨tb_8, (List.forall_mem_cons.mpr ⟨tb_9, (List.forall_mem_cons.mpr ⟨tb_10, (List.forall_mem_cons.mpr ⟨tb_11, (List.forall_mem_cons.mpr ⟨tb_12, (List.forall_mem_cons.mpr ⟨tb_13, (List.forall_mem_cons.mpr ⟨tb_14, (List.forall_mem_cons.mpr ⟨tb_15, (List.forall_mem_cons.mpr ⟨tb_16, (List.forall_mem_cons.mpr ⟨tb_17, (List.forall_mem_cons.mpr ⟨tb_18, (List.forall_mem_cons.mpr ⟨tb_19, (List.forall_mem_cons.mpr ⟨tb_20, (List.forall_mem_cons.mpr ⟨tb_21, (List.forall_mem_cons.mpr ⟨tb_22, (List.forall_mem_cons.mpr ⟨tb_23, (List.forall_mem_cons.mpr ⟨tb_24, (List.forall_mem_cons.mpr ⟨tb_25, (List.forall_mem_cons.mpr ⟨tb_26, (List.forall_mem_cons.mpr ⟨tb_27, (List.forall_mem_cons.mpr ⟨tb_28, (List.forall_mem_cons.mpr ⟨tb_29, (List.forall_mem_cons.mpr ⟨tb_30, (List.forall_mem_cons.mpr ⟨tb_31, (List.forall_mem_cons.mpr ⟨tb_32, (List.forall_mem_cons.mpr ⟨tb_33, (List.forall_mem_cons.mpr ⟨tb_34, (List.forall_mem_cons.mpr ⟨tb_35, (List.forall_mem_cons.mpr ⟨tb_36, (List.forall_mem_cons.mpr ⟨tb_37, (List.forall_mem_cons.mpr ⟨tb_38, (List.forall_mem_cons.mpr ⟨tb_39, (List.forall_mem_cons.mpr ⟨tb_40, (List.forall_mem_cons.mpr ⟨tb_41, (List.forall_mem_cons.mpr ⟨tb_42, (List.forall_mem_cons.mpr ⟨tb_43, (List.forall_mem_cons.mpr ⟨tb_44, (List.forall_mem_cons.mpr ⟨tb_45, (List.forall_mem_cons.mpr ⟨tb_46, (List.forall_mem_cons.mpr ⟨tb_47, (List.forall_mem_cons.mpr ⟨tb_48, (List.forall_mem_cons.mpr ⟨tb_49, (List.forall_mem_cons.mpr ⟨tb_50, (List.forall_mem_cons.mpr ⟨tb_51, (List.forall_mem_cons.mpr ⟨tb_52, (List.forall_mem_cons.mpr ⟨tb_53, (List.forall_mem_cons.mpr ⟨tb_54, (List.forall_mem_cons.mpr ⟨tb_55, (List.forall_mem_cons.mpr ⟨tb_56, (List.forall_mem_cons.mpr ⟨tb_57, (List.forall_mem_cons.mpr ⟨tb_58, (List.forall_mem_cons.mpr ⟨tb_59, (List.forall_mem_cons.mpr ⟨tb_60, (List.forall_mem_cons.mpr ⟨tb_61, (List.forall_mem_cons.mpr ⟨tb_62, (List.forall_mem_cons.mpr ⟨tb_63, (List.forall_mem_cons.mpr ⟨tb_64, (List.forall_mem_cons.mpr ⟨tb_65, (List.forall_mem_cons.mpr ⟨tb_66, (List.forall_mem_cons.mpr ⟨tb_67, (List.forall_mem_cons.mpr ⟨tb_68, (List.forall_mem_cons.mpr ⟨tb_69, (List.forall_mem_cons.mpr ⟨tb_70, (List.forall_mem_cons.mpr ⟨tb_71, (List.forall_mem_cons.mpr ⟨tb_72, (List.forall_mem_cons.mpr ⟨tb_73, (List.forall_mem_cons.mpr ⟨tb_74, (List.forall_mem_cons.mpr ⟨tb_75, (List.forall_mem_cons.mpr ⟨tb_76, (List.forall_mem_cons.mpr ⟨tb_77, (List.forall_mem_cons.mpr ⟨tb_78, (List.forall_mem_cons.mpr ⟨tb_79, (List.forall_mem_cons.mpr ⟨tb_80, (List.forall_mem_cons.mpr ⟨tb_81, (List.forall_mem_cons.mpr ⟨tb_82, (List.forall_mem_cons.mpr ⟨tb_83, (List.forall_mem_cons.mpr ⟨tb_84, (List.forall_mem_cons.mpr ⟨tb_85, (List.forall_mem_cons.mpr ⟨tb_86, (List.forall_mem_cons.mpr ⟨tb_87, (List.forall_mem_cons.mpr ⟨tb_88, (List.forall_mem_cons.mpr ⟨tb_89, (List.forall_mem_cons.mpr ⟨tb_90, (List.forall_mem_cons.mpr ⟨tb_91, (List.forall_mem_cons.mpr ⟨tb_92, (List.forall_mem_cons.mpr ⟨tb_93, (List.forall_mem_cons.mpr ⟨tb_94, (List.forall_mem_cons.mpr ⟨tb_95, (List.forall_mem_cons.mpr ⟨tb_96, (List.forall_mem_cons.mpr ⟨tb_97, (List.forall_mem_cons.mpr ⟨tb_98, (List.forall_mem_cons.mpr ⟨tb_99, (List.forall_mem_cons.mpr ⟨tb_100, (List.forall_mem_cons.mpr ⟨tb_101, (List.forall_mem_cons.mpr ⟨tb_102, (List.forall_mem_cons.mpr ⟨tb_103, (List.forall_mem_cons.mpr ⟨tb_104, (List.forall_mem_cons.mpr ⟨tb_105, (List.forall_mem_cons.mpr ⟨tb_106, (List.forall_mem_cons.mpr ⟨tb_107, (List.forall_mem_cons.mpr ⟨tb_108, (List.forall_mem_cons.mpr ⟨tb_109, (List.forall_mem_cons.mpr ⟨tb_110, (List.forall_mem_cons.mpr ⟨tb_111, (List.forall_mem_cons.mpr ⟨tb_112, (List.forall_mem_cons.mpr ⟨tb_113, (List.forall_mem_cons.mpr ⟨tb_114, (List.forall_mem_cons.mpr ⟨tb_115, (List.forall_mem_cons.mpr ⟨tb_116, (List.forall_mem_cons.mpr ⟨tb_117, (List.forall_mem_cons.mpr ⟨tb_118, (List.forall_mem_cons.mpr ⟨tb_119, (List.forall_mem_cons.mpr ⟨tb_120, (List.forall_mem_cons.mpr ⟨tb_121, (List.forall_mem_cons.mpr ⟨tb_122, (List.forall_mem_cons.mpr ⟨tb_123, (List.forall_mem_cons.mpr ⟨tb_124, (List.forall_mem_cons.mpr ⟨tb_125, (List.forall_mem_cons.mpr ⟨tb_126, (List.forall_mem_cons.mpr ⟨tb_127, (List.forall_mem_cons.mpr ⟨tb_128, (List.forall_mem_cons.mpr ⟨tb_129, (List.forall_mem_cons.mpr ⟨tb_130, (List.forall_mem_cons.mpr ⟨tb_131, (List.forall_mem_cons.mpr ⟨tb_132, (List.forall_mem_cons.mpr ⟨tb_133, (List.forall_mem_cons.mpr ⟨tb_134, (List.forall_mem_cons.mpr ⟨tb_135, (List.forall_mem_cons.mpr ⟨tb_136, (List.forall_mem_cons.mpr ⟨tb_137, (List.forall_mem_cons.mpr ⟨tb_138, (List.forall_mem_cons.mpr ⟨tb_139, (List.forall_mem_cons.mpr ⟨tb_140, (List.forall_mem_cons.mpr ⟨tb_141, (List.forall_mem_cons.mpr ⟨tb_142, (List.forall_mem_cons.mpr ⟨tb_143, (List.forall_mem_cons.mpr ⟨tb_144, (List.forall_mem_cons.mpr ⟨tb_145, (List.forall_mem_cons.mpr ⟨tb_146, (List.forall_mem_cons.mpr ⟨tb_147, (List.forall_mem_cons.mpr ⟨tb_148, (List.forall_mem_cons.mpr ⟨tb_149, (List.forall_mem_cons.mpr ⟨tb_150, (List.forall_mem_cons.mpr ⟨tb_151, (List.forall_mem_cons.mpr ⟨tb_152, (List.forall_mem_cons.mpr ⟨tb_153, (List.forall_mem_cons.mpr ⟨tb_154, (List.forall_mem_cons.mpr ⟨tb_155, (List.forall_mem_cons.mpr ⟨tb_156, (List.forall_mem_cons.mpr ⟨tb_157, (List.forall_mem_cons.mpr ⟨tb_158, (List.forall_mem_cons.mpr ⟨tb_159, (List.forall_mem_cons.mpr ⟨tb_160, (List.forall_mem_cons.mpr ⟨tb_161, (List.forall_mem_cons.mpr ⟨tb_162, (List.forall_mem_cons.mpr ⟨tb_163, (List.forall_mem_cons.mpr ⟨tb_164, (List.forall_mem_cons.mpr ⟨tb_165, (List.forall_mem_cons.mpr ⟨tb_166, (List.forall_mem_cons.mpr ⟨tb_167, (List.forall_mem_cons.mpr ⟨tb_168, (List.forall_mem_cons.mpr ⟨tb_169, (List.forall_mem_cons.mpr ⟨tb_170, (List.forall_mem_cons.mpr ⟨tb_171, (List.forall_mem_cons.mpr ⟨tb_172, (List.forall_mem_cons.mpr ⟨tb_173, (List.forall_mem_cons.mpr ⟨tb_174, (List.forall_mem_cons.mpr ⟨tb_175, (List.forall_mem_cons.mpr ⟨tb_176, (List.forall_mem_cons.mpr ⟨tb_177, (List.forall_mem_cons.mpr ⟨tb_178, (List.forall_mem_cons.mpr ⟨tb_179, (List.forall_mem_cons.mpr ⟨tb_180, (List.forall_mem_cons.mpr ⟨tb_181, (List.forall_mem_cons.mpr ⟨tb_182, (List.forall_mem_cons.mpr ⟨tb_183, (List.forall_mem_cons.mpr ⟨tb_184, (List.forall_mem_cons.mpr ⟨tb_185, (List.forall_mem_cons.mpr ⟨tb_186, (List.forall_mem_cons.mpr ⟨tb_187, (List.forall_mem_cons.mpr ⟨tb_188, (List.forall_mem_cons.mpr ⟨tb_189, (List.forall_mem_cons.mpr ⟨tb_190, (List.forall_mem_cons.mpr ⟨tb_191, (List.forall_mem_cons.mpr ⟨tb_192, (List.forall_mem_cons.mpr ⟨tb_193, (List.forall_mem_cons.mpr ⟨tb_194, (List.forall_mem_cons.mpr ⟨tb_195, (List.forall_mem_cons.mpr ⟨tb_196, (List.forall_mem_cons.mpr ⟨tb_197, (List.forall_mem_cons.mpr ⟨tb_198, (List.forall_mem_cons.mpr ⟨tb_199, (List.forall_mem_cons.mpr ⟨tb_200, (List.forall_mem_cons.mpr ⟨tb_201, (List.forall_mem_cons.mpr ⟨tb_202, (List.forall_mem_cons.mpr ⟨tb_203, (List.forall_mem_cons.mpr ⟨tb_204, (List.forall_mem_cons.mpr ⟨tb_205, (List.forall_mem_cons.mpr ⟨tb_206, (List.forall_mem_cons.mpr ⟨tb_207, (List.forall_mem_cons.mpr ⟨tb_208, (List.forall_mem_cons.mpr ⟨tb_209, (List.forall_mem_cons.mpr ⟨tb_210, (List.forall_mem_cons.mpr ⟨tb_211, (List.forall_mem_cons.mpr ⟨tb_212, (List.forall_mem_cons.mpr ⟨tb_213, (List.forall_mem_cons.mpr ⟨tb_214, (List.forall_mem_cons.mpr ⟨tb_215, (List.forall_mem_cons.mpr ⟨tb_216, (List.forall_mem_cons.mpr ⟨tb_217, (List.forall_mem_cons.mpr ⟨tb_218, (List.forall_mem_cons.mpr ⟨tb_219, (List.forall_mem_cons.mpr ⟨tb_220, (List.forall_mem_cons.mpr ⟨tb_221, (List.forall_mem_cons.mpr ⟨tb_222, (List.forall_mem_cons.mpr ⟨tb_223, (List.forall_mem_cons.mpr ⟨tb_224, (List.forall_mem_cons.mpr ⟨tb_225, (List.forall_mem_cons.mpr ⟨tb_226, (List.forall_mem_cons.mpr ⟨tb_227, (fun _ h => absurd h List.not_mem_nil)⟩)⟩)⟩)⟩)⟩)⟩)⟩)⟩)⟩)⟩)⟩)⟩)⟩)⟩)⟩)⟩)⟩)⟩)⟩)⟩)⟩)⟩)⟩)⟩)⟩)⟩)⟩)⟩)⟩)⟩)⟩)⟩)⟩)⟩)⟩)⟩)⟩)⟩)⟩)⟩)⟩)⟩)⟩)⟩)⟩)⟩)⟩)⟩)⟩)⟩)⟩)⟩)⟩)⟩)⟩)⟩)⟩)⟩)⟩)⟩)⟩)⟩)⟩)⟩)⟩)⟩)⟩)⟩)⟩)⟩)⟩)⟩)⟩)⟩)⟩)⟩)⟩)⟩)⟩)⟩)⟩)⟩)⟩)⟩)⟩)⟩)⟩)⟩)⟩)⟩)⟩)⟩)⟩)⟩)⟩)⟩)⟩)⟩)⟩)⟩)⟩)⟩)⟩)⟩)⟩)⟩)⟩)⟩)⟩)⟩)⟩)⟩)⟩)⟩)⟩)⟩)⟩)⟩)⟩)⟩)⟩)⟩)⟩)⟩)⟩)⟩)⟩)⟩)⟩)⟩)⟩)⟩)⟩)⟩)⟩)⟩)⟩)⟩)⟩)⟩)⟩)⟩)⟩)⟩)⟩)⟩)⟩)⟩)⟩)⟩)⟩)⟩)⟩)⟩)⟩)⟩)⟩)⟩)⟩)⟩)⟩)⟩)⟩)⟩)⟩)⟩)⟩)⟩)⟩)⟩)⟩)⟩)⟩)⟩)⟩)⟩)⟩)⟩)⟩)⟩)⟩)⟩)⟩)⟩)⟩)⟩)⟩)⟩)⟩)⟩)⟩)⟩)⟩)⟩)⟩)⟩)⟩)⟩)⟩)⟩)⟩)⟩)⟩)⟩)⟩)⟩)⟩)⟩)⟩)⟩)⟩)⟩)⟩)⟩)⟩)⟩)⟩)⟩)⟩)⟩)⟩)⟩)⟩)⟩)⟩)⟩)⟩)⟩)
theorem tb_A : ∀ w ∈ wA, w ∈ lw_tbl := fun w hw => by
  obtain ⟨c, hc, hw⟩ := List.mem_flatten.mp hw
  exact tb_all c hc w hw
set_option maxRecDepth 20000 in
theorem tb_L : ∀ w ∈ wo_Law, w ∈ lw_tbl := tb_of [(2, 201), (2, 202), (1, 1), (2, 203), (2, 204), (2, 205), (2, 206), (3, 87), (3, 88), (3, 89), (3, 90), (3, 96), (3, 97), (3, 98), (3, 99), (5, 126), (5, 127), (5, 128), (5, 129), (5, 140), (5, 141), (5, 142), (5, 143)] rfl
set_option maxRecDepth 20000 in
theorem tb_M : ∀ w ∈ wo_LawM, w ∈ lw_tbl := tb_of [(1, 26), (1, 27), (1, 1), (1, 28), (5, 147), (5, 148), (1, 12), (5, 149), (2, 36), (2, 37), (2, 38), (2, 39), (6, 74), (6, 75), (6, 76), (6, 77), (2, 198), (2, 199), (1, 0), (2, 200), (6, 78), (6, 79), (6, 80), (6, 81), (6, 70), (6, 71), (6, 72), (6, 73), (3, 84), (3, 85), (3, 86), (6, 90), (6, 91), (6, 92), (6, 93), (2, 44), (2, 45), (2, 46), (2, 47), (6, 98), (6, 99), (6, 100), (6, 101), (2, 78), (2, 79), (2, 80), (2, 81), (6, 103), (6, 104), (6, 105), (6, 106), (3, 93), (3, 94), (3, 95), (6, 107), (6, 108), (6, 109), (6, 110), (2, 90), (2, 91), (2, 92), (2, 93), (7, 21), (7, 22), (7, 23), (7, 24), (5, 123), (5, 124), (5, 125), (7, 25), (7, 26), (7, 27), (7, 28), (2, 106), (2, 107), (2, 108), (2, 109), (7, 29), (7, 30), (7, 31), (7, 32), (2, 130), (2, 131), (2, 132), (2, 133), (7, 33), (7, 34), (7, 35), (7, 36), (5, 137), (5, 138), (5, 139), (7, 41), (7, 42), (7, 43), (7, 44), (2, 162), (2, 163), (2, 164), (2, 165), (7, 45), (7, 46), (7, 47), (7, 48), (2, 166), (2, 167), (2, 168), (2, 169), (7, 49), (7, 50), (7, 51), (7, 52), (1, 24), (1, 25), (5, 145), (5, 146), (1, 55), (7, 53)] rfl
theorem tb_X : ∀ w ∈ wX, w ∈ lw_tbl := tb_of [(1, 13), (2, 234), (3, 3), (3, 6), (3, 9), (3, 11), (2, 235), (2, 236), (1, 30), (1, 31), (2, 237), (3, 2), (3, 7), (3, 27), (2, 224), (3, 28), (2, 226), (3, 29), (2, 228), (2, 238), (3, 0), (2, 230), (3, 23), (3, 24), (3, 26), (2, 230), (3, 14), (3, 15), (3, 16), (3, 17), (3, 17), (3, 18), (3, 19), (3, 20), (3, 20), (3, 21), (3, 22), (3, 23), (3, 13), (2, 213), (2, 221), (2, 222), (2, 223), (2, 225), (2, 227), (2, 229), (2, 233), (2, 232), (2, 231), (1, 13), (2, 234), (3, 3), (3, 6), (3, 9), (3, 11), (2, 235), (2, 236), (1, 30), (1, 31), (2, 237), (3, 2), (3, 7), (3, 27), (2, 224), (3, 28), (2, 226), (3, 29), (2, 228), (2, 238), (3, 0), (2, 230), (3, 23), (3, 24), (3, 26), (2, 230), (3, 56), (3, 57), (3, 58), (3, 17), (3, 17), (3, 18), (3, 19), (3, 20), (3, 20), (3, 21), (3, 22), (3, 23), (3, 55), (3, 46), (3, 48), (3, 5), (3, 49), (3, 50), (3, 51), (3, 52), (2, 233), (2, 232), (3, 53), (2, 212), (3, 45), (1, 16), (1, 17)] (by decide +kernel)
