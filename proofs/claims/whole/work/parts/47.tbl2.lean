set_option maxRecDepth 20000 in
theorem tb_108 : ∀ w ∈ wo_Values_ofTruth, w ∈ lw_tbl := tb_of [(3, 209), (3, 211), (0, 17), (1, 6), (3, 212)] rfl
set_option maxRecDepth 20000 in
theorem tb_109 : ∀ w ∈ wo_Values_ofBytes, w ∈ lw_tbl := tb_of [(3, 209), (3, 211), (0, 17), (1, 6), (3, 212)] rfl
set_option maxRecDepth 20000 in
theorem tb_110 : ∀ w ∈ wo_Values_ofData, w ∈ lw_tbl := tb_of [(3, 209), (3, 211), (0, 17), (1, 6), (3, 212)] rfl
set_option maxRecDepth 20000 in
theorem tb_111 : ∀ w ∈ wo_Values_ofBody, w ∈ lw_tbl := tb_of [(3, 209), (3, 211), (0, 17), (1, 6), (3, 212)] rfl
set_option maxRecDepth 20000 in
theorem tb_112 : ∀ w ∈ wo_Values_ofBuiltin, w ∈ lw_tbl := tb_of [(3, 209), (3, 211), (0, 17), (1, 6), (3, 212)] rfl
set_option maxRecDepth 20000 in
theorem tb_113 : ∀ w ∈ wo_Values_kindOf, w ∈ lw_tbl := tb_of [(1, 135), (1, 131)] rfl
set_option maxRecDepth 20000 in
theorem tb_114 : ∀ w ∈ wo_Values_numberOf, w ∈ lw_tbl := tb_of [(1, 135), (1, 132)] rfl
set_option maxRecDepth 20000 in
theorem tb_115 : ∀ w ∈ wo_Values_startOf, w ∈ lw_tbl := tb_of [(2, 117), (2, 119), (0, 3), (1, 6), (2, 120)] rfl
set_option maxRecDepth 20000 in
theorem tb_116 : ∀ w ∈ wo_Values_lengthOf, w ∈ lw_tbl := tb_of [(2, 109), (2, 111), (0, 2), (1, 6), (2, 112)] rfl
set_option maxRecDepth 20000 in
theorem tb_117 : ∀ w ∈ wo_Values_rootOf, w ∈ lw_tbl := tb_of [(2, 117), (2, 119), (0, 3), (1, 6), (2, 120)] rfl
set_option maxRecDepth 20000 in
theorem tb_118 : ∀ w ∈ wo_Values_bodyOf, w ∈ lw_tbl := tb_of [(2, 117), (2, 119), (0, 3), (1, 6), (2, 120)] rfl
set_option maxRecDepth 20000 in
theorem tb_119 : ∀ w ∈ wo_Values_scopeOf, w ∈ lw_tbl := tb_of [(2, 109), (2, 111), (0, 2), (1, 6), (2, 112)] rfl
set_option maxRecDepth 20000 in
theorem tb_120 : ∀ w ∈ wo_Values_argumentOf, w ∈ lw_tbl := tb_of [(2, 117), (2, 119), (0, 3), (1, 6), (2, 120)] rfl
set_option maxRecDepth 20000 in
theorem tb_121 : ∀ w ∈ wo_Values_beforeOf, w ∈ lw_tbl := tb_of [(2, 109), (2, 111), (0, 2), (1, 6), (2, 112)] rfl
set_option maxRecDepth 20000 in
theorem tb_122 : ∀ w ∈ wo_Values_givenTo, w ∈ lw_tbl := tb_of [(2, 109), (2, 111), (0, 2), (1, 6), (2, 112)] rfl
set_option maxRecDepth 20000 in
theorem tb_123 : ∀ w ∈ wo_Values_sizeOf, w ∈ lw_tbl := tb_of [(4, 5), (2, 98), (2, 99), (1, 6), (2, 100), (4, 6), (2, 106), (2, 107), (2, 108), (1, 128), (4, 7), (2, 134), (2, 135), (2, 136), (4, 8), (4, 9), (4, 10), (1, 7), (4, 11)] rfl
set_option maxRecDepth 20000 in
theorem tb_124 : ∀ w ∈ wo_Values_asNumber, w ∈ lw_tbl := tb_of [(4, 5), (2, 98), (2, 99), (1, 6), (2, 100), (5, 12), (4, 26), (4, 27), (4, 28), (4, 6), (2, 106), (2, 107), (2, 108), (1, 128), (4, 7), (2, 134), (2, 135), (2, 136), (5, 13), (2, 138), (2, 139), (1, 7), (2, 140)] rfl
set_option maxRecDepth 20000 in
theorem tb_125 : ∀ w ∈ wo_Values_partOf, w ∈ lw_tbl := tb_of [(1, 135), (1, 133)] rfl
set_option maxRecDepth 20000 in
theorem tb_126 : ∀ w ∈ wo_Values_linkOf, w ∈ lw_tbl := tb_of [(1, 135), (1, 134)] rfl
set_option maxRecDepth 20000 in
theorem tb_127 : ∀ w ∈ wo_Values_make, w ∈ lw_tbl := tb_of [(1, 135), (3, 138), (3, 140), (0, 10), (1, 6), (3, 141)] rfl
set_option maxRecDepth 20000 in
theorem tb_128 : ∀ w ∈ wo_Values_set, w ∈ lw_tbl := tb_of [(1, 135), (1, 131), (1, 132), (1, 133), (1, 134)] rfl
set_option maxRecDepth 20000 in
theorem tb_129 : ∀ w ∈ wo_Values_takeConstant, w ∈ lw_tbl := tb_of [(3, 136), (2, 52), (2, 53), (1, 2), (2, 54), (3, 137), (2, 60), (2, 61), (2, 62), (3, 138), (3, 140), (0, 10), (1, 6), (3, 141), (3, 142), (3, 144), (0, 11), (3, 145)] rfl
set_option maxRecDepth 20000 in
theorem tb_130 : ∀ w ∈ wo_Values_takeBytes, w ∈ lw_tbl := tb_of [(3, 137), (2, 60), (2, 61), (1, 2), (2, 62), (1, 125), (3, 146), (3, 147), (3, 148), (3, 149), (3, 151), (2, 70), (2, 71), (1, 3), (2, 72), (3, 138), (3, 140), (0, 10), (1, 6), (3, 141)] rfl
set_option maxRecDepth 20000 in
theorem tb_131 : ∀ w ∈ wo_Waiting_init, w ∈ lw_tbl := tb_of [(1, 178), (1, 25), (1, 26), (1, 49), (1, 179), (1, 180), (1, 181), (1, 182), (1, 183)] rfl
set_option maxRecDepth 20000 in
theorem tb_132 : ∀ w ∈ wo_Waiting_forget, w ∈ lw_tbl := tb_of [(1, 182), (1, 183)] rfl
set_option maxRecDepth 20000 in
theorem tb_133 : ∀ w ∈ wo_Waiting_most, w ∈ lw_tbl := tb_of [(1, 183)] rfl
set_option maxRecDepth 20000 in
theorem tb_134 : ∀ w ∈ wo_Waiting_isEmpty, w ∈ lw_tbl := tb_of [(1, 182)] rfl
set_option maxRecDepth 20000 in
theorem tb_135 : ∀ w ∈ wo_Waiting_push, w ∈ lw_tbl := tb_of [(1, 182), (1, 179), (1, 180), (1, 181), (1, 183), (3, 222), (1, 40), (1, 4), (1, 41)] rfl
set_option maxRecDepth 20000 in
theorem tb_136 : ∀ w ∈ wo_Waiting_pop, w ∈ lw_tbl := tb_of [(1, 182), (3, 222), (1, 40), (1, 4), (1, 41)] rfl
set_option maxRecDepth 20000 in
theorem tb_137 : ∀ w ∈ wo_Waiting_lastNode, w ∈ lw_tbl := tb_of [(1, 182), (4, 177), (4, 179), (0, 36), (1, 9), (4, 180), (1, 179)] rfl
set_option maxRecDepth 20000 in
theorem tb_138 : ∀ w ∈ wo_Waiting_lastScope, w ∈ lw_tbl := tb_of [(1, 182), (4, 177), (4, 179), (0, 36), (1, 9), (4, 180), (1, 180)] rfl
set_option maxRecDepth 20000 in
theorem tb_139 : ∀ w ∈ wo_Waiting_lastFunction, w ∈ lw_tbl := tb_of [(1, 182), (4, 177), (4, 179), (0, 36), (1, 9), (4, 180), (1, 181)] rfl
set_option maxRecDepth 20000 in
theorem tb_140 : ∀ w ∈ wo_Waiting_setLastFunction, w ∈ lw_tbl := tb_of [(1, 182), (4, 177), (4, 179), (0, 36), (1, 9), (4, 180), (1, 181)] rfl
set_option maxRecDepth 20000 in
theorem tb_141 : ∀ w ∈ wo_Waiting_has, w ∈ lw_tbl := tb_of [] rfl
set_option maxRecDepth 20000 in
theorem tb_142 : ∀ w ∈ wo_Cek_init, w ∈ lw_tbl := tb_of [(1, 24), (1, 25), (1, 26), (1, 27), (1, 28), (1, 2), (1, 30), (1, 2), (1, 31), (2, 21), (1, 74), (1, 75), (1, 5), (1, 76), (1, 77), (1, 5), (1, 78), (2, 22), (2, 23)] rfl
set_option maxRecDepth 20000 in
theorem tb_143 : ∀ w ∈ wo_Cek_clear, w ∈ lw_tbl := tb_of [(2, 21), (2, 35), (2, 36), (2, 37), (1, 2), (2, 38)] rfl
set_option maxRecDepth 20000 in
theorem tb_144 : ∀ w ∈ wo_Cek_node, w ∈ lw_tbl := tb_of [(2, 202), (2, 203), (1, 2), (2, 204), (2, 21), (2, 165), (2, 166), (2, 167), (1, 2), (2, 168), (3, 33), (3, 34), (1, 2), (3, 35), (3, 36), (3, 37), (3, 38), (3, 39), (3, 56), (3, 57), (3, 58), (3, 59)] rfl
set_option maxRecDepth 20000 in
theorem tb_145 : ∀ w ∈ wo_Cek_bytes, w ∈ lw_tbl := tb_of [(2, 21), (3, 36), (3, 37), (3, 38), (1, 2), (3, 39), (3, 56), (3, 57), (3, 58), (3, 59), (2, 64), (2, 65), (2, 66), (2, 67), (2, 165), (2, 166), (2, 167), (2, 168)] rfl
set_option maxRecDepth 20000 in
theorem tb_146 : ∀ w ∈ wo_Cek_more, w ∈ lw_tbl := tb_of [(2, 21), (2, 43), (2, 44), (2, 45), (1, 2), (2, 46), (2, 64), (2, 65), (2, 66), (2, 67)] rfl
set_option maxRecDepth 20000 in
theorem tb_147 : ∀ w ∈ wo_Cek_drop, w ∈ lw_tbl := tb_of [(2, 21), (2, 77), (2, 78), (2, 79), (1, 2), (2, 80)] rfl
set_option maxRecDepth 20000 in
theorem tb_148 : ∀ w ∈ wo_Cek_run, w ∈ lw_tbl := tb_of [(2, 21), (2, 165), (2, 166), (2, 167), (1, 2), (2, 168), (2, 173), (2, 174), (2, 175), (2, 176), (2, 22), (3, 97), (3, 98), (3, 99), (1, 5), (3, 100), (2, 23)] rfl
set_option maxRecDepth 20000 in
theorem tb_149 : ∀ w ∈ wo_Cek_kind, w ∈ lw_tbl := tb_of [(2, 22), (1, 231), (2, 89), (2, 91), (0, 1), (1, 1), (2, 92), (2, 97), (2, 98), (2, 99), (1, 6), (2, 100)] rfl
set_option maxRecDepth 20000 in
theorem tb_150 : ∀ w ∈ wo_Cek_number, w ∈ lw_tbl := tb_of [(2, 89), (2, 91), (0, 1), (1, 1), (2, 92), (2, 22), (1, 231), (5, 8), (5, 9), (5, 10), (1, 6), (5, 11)] rfl
set_option maxRecDepth 20000 in
theorem tb_151 : ∀ w ∈ wo_Cek_byteAt, w ∈ lw_tbl := tb_of [(2, 22), (1, 231), (2, 89), (2, 91), (0, 1), (1, 1), (2, 92), (2, 97), (2, 98), (2, 99), (1, 6), (2, 100), (2, 105), (2, 106), (2, 107), (2, 108), (1, 126), (2, 113), (2, 114), (2, 115), (2, 116), (2, 121), (2, 122), (2, 123), (1, 3), (2, 124)] rfl
set_option maxRecDepth 20000 in
theorem tb_152 : ∀ w ∈ wo_Cek_data, w ∈ lw_tbl := tb_of [(2, 22), (1, 231), (1, 130), (2, 129), (2, 131), (0, 4), (1, 1), (2, 132), (2, 141), (2, 142), (2, 143), (1, 7), (2, 144), (2, 145), (2, 146), (2, 147), (2, 148), (2, 149), (2, 150), (2, 151), (2, 152), (2, 153), (2, 154), (2, 155), (2, 156)] rfl
set_option maxRecDepth 20000 in
theorem tb_153 : ∀ w ∈ wo_Cek_dataValue, w ∈ lw_tbl := tb_of [(2, 22), (1, 231), (1, 130), (2, 129), (2, 131), (0, 4), (1, 1), (2, 132), (2, 141), (2, 142), (2, 143), (1, 7), (2, 144), (2, 149), (2, 150), (2, 151), (2, 152)] rfl
set_option maxRecDepth 20000 in
theorem tb_154 : ∀ w ∈ wo_Cek_dataByte, w ∈ lw_tbl := tb_of [(2, 22), (1, 231), (1, 130), (2, 129), (2, 131), (0, 4), (1, 1), (2, 132), (2, 141), (2, 142), (2, 143), (1, 7), (2, 144), (2, 145), (2, 146), (2, 147), (2, 148), (1, 126), (2, 149), (2, 150), (2, 151), (2, 152), (2, 121), (2, 122), (2, 123), (1, 3), (2, 124)] rfl
set_option maxRecDepth 20000 in
theorem tb_155 : ∀ w ∈ wo_Cek_look, w ∈ lw_tbl := tb_of [(2, 21), (2, 165), (2, 166), (2, 167), (1, 2), (2, 168), (2, 169), (2, 170), (2, 171), (2, 172), (2, 173), (2, 174), (2, 175), (2, 176), (2, 23), (2, 22), (1, 233), (2, 181), (2, 182), (2, 183), (1, 8), (2, 184), (2, 185), (2, 186), (2, 187), (2, 188), (1, 235), (2, 189), (2, 190), (2, 191), (1, 9), (2, 192)] rfl
set_option maxRecDepth 20000 in
theorem tb_156 : ∀ w ∈ wo_Cek_result, w ∈ lw_tbl := tb_of [(2, 23), (2, 22), (2, 93), (2, 94), (2, 95), (1, 5), (2, 96)] rfl
set_option maxRecDepth 20000 in
theorem tb_157 : ∀ w ∈ wo_Cek_placeOfData, w ∈ lw_tbl := tb_of [(2, 22), (1, 231), (2, 89), (2, 91), (0, 1), (1, 1), (2, 92), (2, 97), (2, 98), (2, 99), (1, 6), (2, 100), (2, 133), (2, 134), (2, 135), (2, 136), (1, 130), (2, 137), (2, 138), (2, 139), (1, 7), (2, 140)] rfl
set_option maxRecDepth 20000 in
theorem tb_158 : ∀ w ∈ wo_Mod_init, w ∈ lw_tbl := tb_of [(5, 27), (1, 25), (1, 26), (1, 49), (5, 31), (1, 50), (5, 32), (5, 33), (5, 34), (5, 35), (1, 51), (5, 36), (5, 38), (5, 40), (5, 41), (5, 42), (5, 43), (5, 44), (5, 45), (5, 46), (5, 47), (5, 48), (5, 28), (5, 50), (5, 52), (5, 53), (5, 54), (5, 55), (5, 29), (5, 57), (5, 59), (5, 60), (5, 62), (5, 63), (5, 64), (5, 65), (5, 68), (5, 78), (5, 79), (5, 81)] rfl
set_option maxRecDepth 20000 in
theorem tb_159 : ∀ w ∈ wo_Mod_thrown, w ∈ lw_tbl := tb_of [(5, 30)] rfl
set_option maxRecDepth 20000 in
theorem tb_160 : ∀ w ∈ wo_Mod_takes, w ∈ lw_tbl := tb_of [] rfl
set_option maxRecDepth 20000 in
theorem tb_161 : ∀ w ∈ wo_Mod_isArg, w ∈ lw_tbl := tb_of [(5, 202), (5, 203)] rfl
set_option maxRecDepth 20000 in
theorem tb_162 : ∀ w ∈ wo_Mod_clear, w ∈ lw_tbl := tb_of [(5, 30), (5, 37), (5, 39)] rfl
set_option maxRecDepth 20000 in
theorem tb_163 : ∀ w ∈ wo_Mod_node, w ∈ lw_tbl := tb_of [(5, 199), (5, 200), (1, 12), (5, 201), (5, 30), (5, 39), (5, 204), (5, 205), (1, 12), (5, 206), (5, 37), (5, 31), (5, 32), (5, 33), (5, 34), (5, 35), (5, 38)] rfl
set_option maxRecDepth 20000 in
theorem tb_164 : ∀ w ∈ wo_Mod_append, w ∈ lw_tbl := tb_of [(5, 36), (5, 32)] rfl
set_option maxRecDepth 20000 in
theorem tb_165 : ∀ w ∈ wo_Mod_bytes, w ∈ lw_tbl := tb_of [(5, 37), (5, 30), (5, 31), (5, 32), (5, 33), (5, 34), (5, 35), (5, 211), (5, 213), (0, 40), (1, 12), (5, 214), (5, 38), (5, 39)] rfl
set_option maxRecDepth 20000 in
theorem tb_166 : ∀ w ∈ wo_Mod_more, w ∈ lw_tbl := tb_of [(5, 30), (5, 39), (5, 38), (5, 31), (5, 32), (5, 219), (5, 211), (5, 213), (0, 40), (1, 12), (5, 214)] rfl
set_option maxRecDepth 20000 in
theorem tb_167 : ∀ w ∈ wo_Mod_drop, w ∈ lw_tbl := tb_of [(5, 30), (5, 39), (5, 37), (5, 35), (5, 38)] rfl
set_option maxRecDepth 20000 in
theorem tb_168 : ∀ w ∈ wo_Mod_lacking, w ∈ lw_tbl := tb_of [(5, 38), (5, 39), (5, 35), (5, 33), (5, 79), (5, 34), (5, 31), (5, 32)] rfl
set_option maxRecDepth 20000 in
theorem tb_169 : ∀ w ∈ wo_Mod_make, w ∈ lw_tbl := tb_of [(5, 40), (5, 49), (5, 41), (5, 46)] rfl
set_option maxRecDepth 20000 in
theorem tb_170 : ∀ w ∈ wo_Mod_truth, w ∈ lw_tbl := tb_of [(5, 236), (5, 238), (0, 43), (1, 12), (5, 239)] rfl
set_option maxRecDepth 20000 in
theorem tb_171 : ∀ w ∈ wo_Mod_makeBytes, w ∈ lw_tbl := tb_of [(5, 236), (5, 238), (0, 43), (1, 12), (5, 239), (5, 42), (5, 51), (5, 43)] rfl
set_option maxRecDepth 20000 in
theorem tb_172 : ∀ w ∈ wo_Mod_putText, w ∈ lw_tbl := tb_of [(5, 50), (5, 51), (5, 80)] rfl
set_option maxRecDepth 20000 in
theorem tb_173 : ∀ w ∈ wo_Mod_byteOf, w ∈ lw_tbl := tb_of [(5, 50), (5, 42)] rfl
set_option maxRecDepth 20000 in
theorem tb_174 : ∀ w ∈ wo_Mod_putData, w ∈ lw_tbl := tb_of [(5, 52), (5, 56), (5, 53), (5, 54), (5, 55)] rfl
set_option maxRecDepth 20000 in
theorem tb_175 : ∀ w ∈ wo_Mod_makeData, w ∈ lw_tbl := tb_of [(5, 236), (5, 238), (0, 43), (1, 12), (5, 239), (5, 42), (5, 43), (5, 56)] rfl
set_option maxRecDepth 20000 in
theorem tb_176 : ∀ w ∈ wo_Mod_copyData, w ∈ lw_tbl := tb_of [(5, 52), (5, 53), (5, 54), (5, 55), (6, 8), (6, 10), (0, 46), (1, 12), (6, 11)] rfl
set_option maxRecDepth 20000 in
theorem tb_177 : ∀ w ∈ wo_Mod_within, w ∈ lw_tbl := tb_of [(5, 52), (5, 54)] rfl
set_option maxRecDepth 20000 in
theorem tb_178 : ∀ w ∈ wo_Mod_sizeOfData, w ∈ lw_tbl := tb_of [(6, 130), (6, 132), (0, 74), (1, 12), (6, 133)] rfl
set_option maxRecDepth 20000 in
theorem tb_179 : ∀ w ∈ wo_Mod_depthOfData, w ∈ lw_tbl := tb_of [(5, 81), (6, 130), (6, 132), (0, 74), (1, 12), (6, 133)] rfl
set_option maxRecDepth 20000 in
theorem tb_180 : ∀ w ∈ wo_Mod_bytesOfData, w ∈ lw_tbl := tb_of [(5, 52), (5, 54)] rfl
set_option maxRecDepth 20000 in
theorem tb_181 : ∀ w ∈ wo_Mod_sizeOf, w ∈ lw_tbl := tb_of [(5, 40), (5, 43), (5, 42), (6, 59), (6, 61), (0, 58), (1, 12), (6, 62)] rfl
set_option maxRecDepth 20000 in
theorem tb_182 : ∀ w ∈ wo_Mod_arity, w ∈ lw_tbl := tb_of [] rfl
set_option maxRecDepth 20000 in
theorem tb_183 : ∀ w ∈ wo_Mod_fail, w ∈ lw_tbl := tb_of [(5, 73)] rfl
set_option maxRecDepth 20000 in
theorem tb_184 : ∀ w ∈ wo_Mod_isKind, w ∈ lw_tbl := tb_of [(5, 40), (5, 78)] rfl
set_option maxRecDepth 20000 in
theorem tb_185 : ∀ w ∈ wo_Mod_isForm, w ∈ lw_tbl := tb_of [(6, 71), (6, 73), (0, 61), (1, 12), (6, 74), (5, 52), (5, 42), (5, 78)] rfl
set_option maxRecDepth 20000 in
theorem tb_186 : ∀ w ∈ wo_Mod_fits, w ∈ lw_tbl := tb_of [(6, 71), (6, 73), (0, 61), (1, 12), (6, 74), (6, 75), (6, 77), (0, 62), (6, 78)] rfl
set_option maxRecDepth 20000 in
theorem tb_187 : ∀ w ∈ wo_Mod_isProduct, w ∈ lw_tbl := tb_of [(6, 83), (6, 84)] rfl
set_option maxRecDepth 20000 in
theorem tb_188 : ∀ w ∈ wo_Mod_sums, w ∈ lw_tbl := tb_of [(6, 83), (6, 84), (6, 85), (6, 24), (6, 26), (0, 50), (1, 12), (6, 27), (5, 236), (5, 238), (0, 43), (5, 239), (6, 86), (6, 87), (1, 12), (6, 88), (6, 89), (6, 91), (0, 64), (6, 92)] rfl
set_option maxRecDepth 20000 in
theorem tb_189 : ∀ w ∈ wo_Mod_order, w ∈ lw_tbl := tb_of [(5, 43), (6, 97), (6, 99), (0, 66), (1, 12), (6, 100)] rfl
set_option maxRecDepth 20000 in
theorem tb_190 : ∀ w ∈ wo_Mod_ofBytes, w ∈ lw_tbl := tb_of [(5, 80), (5, 78), (5, 43), (6, 24), (6, 26), (0, 50), (1, 12), (6, 27), (6, 97), (6, 99), (0, 66), (6, 100), (6, 0), (6, 2), (0, 44), (6, 3), (6, 4), (6, 6), (0, 45), (6, 7), (5, 236), (5, 238), (0, 43), (5, 239), (5, 41), (6, 101), (6, 103), (0, 67), (6, 104), (6, 89), (6, 91), (0, 64), (6, 92)] rfl
set_option maxRecDepth 20000 in
theorem tb_191 : ∀ w ∈ wo_Mod_sameData, w ∈ lw_tbl := tb_of [(5, 43), (5, 42), (5, 52), (5, 53), (5, 54), (5, 50), (5, 55)] rfl
set_option maxRecDepth 20000 in
theorem tb_192 : ∀ w ∈ wo_Mod_outer, w ∈ lw_tbl := tb_of [(5, 56), (6, 8), (6, 10), (0, 46), (1, 12), (6, 11), (5, 42), (5, 43), (6, 117), (6, 119), (0, 71), (6, 120), (6, 12), (6, 14), (0, 47), (6, 15)] rfl
set_option maxRecDepth 20000 in
theorem tb_193 : ∀ w ∈ wo_Mod_ofData, w ∈ lw_tbl := tb_of [(5, 78), (5, 42), (5, 56), (6, 109), (6, 111), (0, 69), (1, 12), (6, 112), (6, 89), (6, 91), (0, 64), (6, 92), (5, 52), (5, 236), (5, 238), (0, 43), (5, 239), (5, 53), (5, 54), (6, 113), (6, 115), (0, 70), (6, 116), (5, 41), (6, 121), (6, 24), (6, 26), (0, 50), (6, 27), (6, 8), (6, 10), (0, 46), (6, 11), (6, 12), (6, 14), (0, 47), (6, 15), (5, 43), (5, 80), (5, 50), (5, 55), (6, 0), (6, 2), (0, 44), (6, 3), (6, 4), (6, 6), (0, 45), (6, 7), (6, 122), (6, 124), (0, 72), (6, 125)] rfl
set_option maxRecDepth 20000 in
theorem tb_194 : ∀ w ∈ wo_Mod_ofLists, w ∈ lw_tbl := tb_of [(5, 54), (6, 126), (6, 128), (0, 73), (1, 12), (6, 129), (6, 24), (6, 26), (0, 50), (6, 27), (6, 117), (6, 119), (0, 71), (6, 120), (6, 12), (6, 14), (0, 47), (6, 15), (6, 8), (6, 10), (0, 46), (6, 11), (5, 43), (5, 78), (5, 42), (5, 56), (6, 134), (6, 136), (0, 75), (6, 137), (6, 89), (6, 91), (0, 64), (6, 92), (6, 113), (6, 115), (0, 70), (6, 116)] rfl
set_option maxRecDepth 20000 in
theorem tb_195 : ∀ w ∈ wo_Mod_does, w ∈ lw_tbl := tb_of [(6, 67), (6, 69), (0, 60), (1, 12), (6, 70), (6, 24), (6, 26), (0, 50), (6, 27), (5, 41), (5, 78), (6, 79), (6, 81), (0, 63), (6, 82), (6, 93), (6, 95), (0, 65), (6, 96), (6, 105), (6, 107), (0, 68), (6, 108)] rfl
set_option maxRecDepth 20000 in
theorem tb_196 : ∀ w ∈ wo_Mod_step, w ∈ lw_tbl := tb_of [(5, 69), (5, 71), (6, 24), (6, 26), (0, 50), (1, 12), (6, 27)] rfl
set_option maxRecDepth 20000 in
theorem tb_197 : ∀ w ∈ wo_Mod_keep, w ∈ lw_tbl := tb_of [(5, 70), (5, 72), (6, 24), (6, 26), (0, 50), (1, 12), (6, 27)] rfl
set_option maxRecDepth 20000 in
theorem tb_198 : ∀ w ∈ wo_Mod_comes, w ∈ lw_tbl := tb_of [(5, 75), (5, 77)] rfl
set_option maxRecDepth 20000 in
theorem tb_199 : ∀ w ∈ wo_Mod_wait, w ∈ lw_tbl := tb_of [(5, 63), (5, 66), (5, 64), (5, 65), (5, 67)] rfl
set_option maxRecDepth 20000 in
theorem tb_200 : ∀ w ∈ wo_Mod_constant, w ∈ lw_tbl := tb_of [(5, 31), (5, 32), (5, 236), (5, 238), (0, 43), (1, 12), (5, 239), (5, 80), (5, 36), (6, 0), (6, 2), (0, 44), (6, 3), (6, 4), (6, 6), (0, 45), (6, 7), (6, 8), (6, 10), (0, 46), (6, 11), (5, 56), (6, 12), (6, 14), (0, 47), (6, 15), (5, 62)] rfl
set_option maxRecDepth 20000 in
theorem tb_201 : ∀ w ∈ wo_Mod_evaluate, w ∈ lw_tbl := tb_of [(6, 20), (6, 22), (0, 49), (1, 12), (6, 23), (5, 75), (5, 31), (5, 57), (5, 59), (5, 76), (5, 60), (5, 32), (6, 28), (6, 30), (0, 51), (6, 31), (6, 32), (6, 34), (0, 52), (6, 35), (5, 236), (5, 238), (0, 43), (5, 239), (5, 44), (5, 33), (5, 45), (5, 66), (6, 24), (6, 26), (0, 50), (6, 27), (5, 34), (6, 36), (6, 38), (0, 53), (6, 39), (5, 62)] rfl
set_option maxRecDepth 20000 in
theorem tb_202 : ∀ w ∈ wo_Mod_callFunction, w ∈ lw_tbl := tb_of [(6, 32), (6, 34), (0, 52), (1, 12), (6, 35), (5, 45), (5, 59), (5, 61), (5, 58), (5, 60), (5, 57), (5, 76), (5, 44), (5, 75)] rfl
set_option maxRecDepth 20000 in
theorem tb_203 : ∀ w ∈ wo_Mod_callBuiltin, w ∈ lw_tbl := tb_of [(5, 41), (5, 46), (6, 52), (6, 53), (1, 12), (6, 54), (6, 32), (6, 34), (0, 52), (1, 12), (6, 35), (5, 236), (5, 238), (0, 43), (5, 239), (5, 47), (5, 48), (6, 28), (6, 30), (0, 51), (6, 31), (5, 78), (6, 55), (6, 57), (0, 57), (6, 58), (6, 20), (6, 22), (0, 49), (6, 23), (6, 63), (6, 65), (0, 59), (6, 66), (5, 73)] rfl
set_option maxRecDepth 20000 in
theorem tb_204 : ∀ w ∈ wo_Mod_answered, w ∈ lw_tbl := tb_of [(5, 66), (5, 63), (5, 65), (5, 76), (5, 64), (5, 75), (5, 77), (6, 36), (6, 38), (0, 53), (1, 12), (6, 39), (5, 40), (6, 44), (6, 46), (0, 55), (6, 47), (6, 48), (6, 50), (0, 56), (6, 51), (6, 24), (6, 26), (0, 50), (6, 27), (5, 44), (5, 45)] rfl
set_option maxRecDepth 20000 in
theorem tb_205 : ∀ w ∈ wo_Mod_run, w ∈ lw_tbl := tb_of [(5, 39), (5, 30), (5, 228), (5, 230), (0, 41), (1, 12), (5, 231), (5, 71), (5, 72), (5, 69), (5, 70), (5, 73), (5, 49), (5, 51), (5, 56), (5, 58), (5, 61), (5, 59), (5, 60), (5, 66), (5, 67), (5, 38), (5, 35), (5, 232), (5, 234), (0, 42), (5, 235), (5, 75), (5, 76), (6, 16), (6, 18), (0, 48), (6, 19), (6, 40), (6, 42), (0, 54), (6, 43), (5, 68), (5, 77), (5, 74)] rfl
set_option maxRecDepth 20000 in
theorem tb_206 : ∀ w ∈ wo_Mod_kind, w ∈ lw_tbl := tb_of [(5, 30), (5, 68), (5, 40), (5, 74)] rfl
set_option maxRecDepth 20000 in
theorem tb_207 : ∀ w ∈ wo_Mod_number, w ∈ lw_tbl := tb_of [(5, 68), (5, 30), (5, 40), (5, 74), (5, 41), (5, 43)] rfl
set_option maxRecDepth 20000 in
theorem tb_208 : ∀ w ∈ wo_Mod_byteAt, w ∈ lw_tbl := tb_of [(5, 30), (5, 68), (5, 40), (5, 74), (5, 43), (6, 97), (6, 99), (0, 66), (1, 12), (6, 100)] rfl
set_option maxRecDepth 20000 in
theorem tb_209 : ∀ w ∈ wo_Mod_dataAt, w ∈ lw_tbl := tb_of [(5, 68), (5, 40), (5, 74), (5, 43), (5, 42)] rfl
set_option maxRecDepth 20000 in
theorem tb_210 : ∀ w ∈ wo_Mod_data, w ∈ lw_tbl := tb_of [(5, 30), (6, 154), (6, 156), (0, 76), (1, 12), (6, 157), (5, 52), (5, 54), (5, 53), (6, 126), (6, 128), (0, 73), (6, 129), (6, 134), (6, 136), (0, 75), (6, 137)] rfl
set_option maxRecDepth 20000 in
theorem tb_211 : ∀ w ∈ wo_Mod_dataValue, w ∈ lw_tbl := tb_of [(6, 154), (6, 156), (0, 76), (1, 12), (6, 157), (5, 52), (5, 30), (5, 53)] rfl
set_option maxRecDepth 20000 in
theorem tb_212 : ∀ w ∈ wo_Mod_dataByte, w ∈ lw_tbl := tb_of [(5, 30), (6, 154), (6, 156), (0, 76), (1, 12), (6, 157), (5, 52), (5, 54), (5, 50), (5, 55)] rfl
set_option maxRecDepth 20000 in
theorem tb_213 : ∀ w ∈ wo_Mod_look, w ∈ lw_tbl := tb_of [(5, 30), (5, 39), (5, 37), (5, 228), (5, 230), (0, 41), (1, 12), (5, 231), (5, 68), (5, 69), (5, 70), (5, 67)] rfl
set_option maxRecDepth 20000 in
theorem tb_214 : ∀ w ∈ wo_Math_floorDiv, w ∈ lw_tbl := tb_of [] rfl
set_option maxRecDepth 20000 in
theorem tb_215 : ∀ w ∈ wo_Math_floorMod, w ∈ lw_tbl := tb_of [] rfl
set_option maxRecDepth 100000 in
theorem tb_all : ∀ c ∈ [u_ws R_Cek T_Cek 3, u_ws R_Terms T_Terms 7, u_ws R_ByteRow T_ByteRow 2, u_ws R_Evaluator T_Evaluator 9, u_ws R_Values T_Values 7, u_ws R_DataRow T_DataRow 7, u_ws R_Meter T_Meter 5, u_ws R_Waiting T_Waiting 5, u_ws R_Scopes T_Scopes 3, u_ws R_Builtins T_Builtins 4, u_ws R_Mod T_Mod 52, wo_Builtins_init, wo_Builtins_takes, wo_Builtins_forget, wo_Builtins_isReady, wo_Builtins_take, wo_Builtins_perform, wo_Builtins_gather, wo_Builtins_sizeOfGiven, wo_Builtins_allFit, wo_Builtins_fits, wo_Builtins_onIntegers, wo_Builtins_sumFits, wo_Builtins_differenceFits, wo_Builtins_productFits, wo_Builtins_quotientFits, wo_Builtins_onBytes, wo_Builtins_join, wo_Builtins_byteOf, wo_Builtins_slice, wo_Builtins_compareBytes, wo_Builtins_onData, wo_Builtins_toConstructor, wo_Builtins_onLists, wo_Builtins_sameData, wo_Builtins_sameNode, wo_ByteRow_init, wo_ByteRow_at, wo_ByteRow_put, wo_ByteRow_cut, wo_ByteRow_append, wo_ByteRow_end, wo_ByteRow_compare, wo_DataRow_init, wo_DataRow_forget, wo_DataRow_formOf, wo_DataRow_countOf, wo_DataRow_numberOf, wo_DataRow_nodesOf, wo_DataRow_depthOf, wo_DataRow_sizeOf, wo_DataRow_leaf, wo_DataRow_recast, wo_DataRow_prepend, wo_DataRow_rest, wo_DataRow_copy, wo_DataRow_sealed, wo_Evaluator_init, wo_Evaluator_outcome, wo_Evaluator_evaluateLast, wo_Evaluator_goesOn, wo_Evaluator_evaluateIn, wo_Evaluator_evaluateNode, wo_Evaluator_hold, wo_Evaluator_await, wo_Evaluator_goOn, wo_Evaluator_force, wo_Evaluator_call, wo_Meter_init, wo_Meter_start, wo_Meter_steps, wo_Meter_memory, wo_Meter_fault, wo_Meter_fail, wo_Meter_paySteps, wo_Meter_payMemory, wo_Scopes_init, wo_Scopes_forget, wo_Scopes_bind, wo_Scopes_find, wo_Scopes_has, wo_Terms_init, wo_Terms_allows, wo_Terms_partsOf, wo_Terms_count, wo_Terms_nodeCount, wo_Terms_isFull, wo_Terms_last, wo_Terms_lacksOfLast, wo_Terms_kindOf, wo_Terms_argOf, wo_Terms_firstOf, wo_Terms_lastPartOf, wo_Terms_functionOf, wo_Terms_textAt, wo_Terms_forget, wo_Terms_push, wo_Terms_pop, wo_Terms_canLengthen, wo_Terms_lengthen, wo_Terms_has, wo_Terms_lacksOf, wo_Terms_firstOfNew, wo_Terms_lacksOfNew, wo_Values_init, wo_Values_forget, wo_Values_takeConstants, wo_Values_ofInteger, wo_Values_ofTruth, wo_Values_ofBytes, wo_Values_ofData, wo_Values_ofBody, wo_Values_ofBuiltin, wo_Values_kindOf, wo_Values_numberOf, wo_Values_startOf, wo_Values_lengthOf, wo_Values_rootOf, wo_Values_bodyOf, wo_Values_scopeOf, wo_Values_argumentOf, wo_Values_beforeOf, wo_Values_givenTo, wo_Values_sizeOf, wo_Values_asNumber, wo_Values_partOf, wo_Values_linkOf, wo_Values_make, wo_Values_set, wo_Values_takeConstant, wo_Values_takeBytes, wo_Waiting_init, wo_Waiting_forget, wo_Waiting_most, wo_Waiting_isEmpty, wo_Waiting_push, wo_Waiting_pop, wo_Waiting_lastNode, wo_Waiting_lastScope, wo_Waiting_lastFunction, wo_Waiting_setLastFunction, wo_Waiting_has, wo_Cek_init, wo_Cek_clear, wo_Cek_node, wo_Cek_bytes, wo_Cek_more, wo_Cek_drop, wo_Cek_run, wo_Cek_kind, wo_Cek_number, wo_Cek_byteAt, wo_Cek_data, wo_Cek_dataValue, wo_Cek_dataByte, wo_Cek_look, wo_Cek_result, wo_Cek_placeOfData, wo_Mod_init, wo_Mod_thrown, wo_Mod_takes, wo_Mod_isArg, wo_Mod_clear, wo_Mod_node, wo_Mod_append, wo_Mod_bytes, wo_Mod_more, wo_Mod_drop, wo_Mod_lacking, wo_Mod_make, wo_Mod_truth, wo_Mod_makeBytes, wo_Mod_putText, wo_Mod_byteOf, wo_Mod_putData, wo_Mod_makeData, wo_Mod_copyData, wo_Mod_within, wo_Mod_sizeOfData, wo_Mod_depthOfData, wo_Mod_bytesOfData, wo_Mod_sizeOf, wo_Mod_arity, wo_Mod_fail, wo_Mod_isKind, wo_Mod_isForm, wo_Mod_fits, wo_Mod_isProduct, wo_Mod_sums, wo_Mod_order, wo_Mod_ofBytes, wo_Mod_sameData, wo_Mod_outer, wo_Mod_ofData, wo_Mod_ofLists, wo_Mod_does, wo_Mod_step, wo_Mod_keep, wo_Mod_comes, wo_Mod_wait, wo_Mod_constant, wo_Mod_evaluate, wo_Mod_callFunction, wo_Mod_callBuiltin, wo_Mod_answered, wo_Mod_run, wo_Mod_kind, wo_Mod_number, wo_Mod_byteAt, wo_Mod_dataAt, wo_Mod_data, wo_Mod_dataValue, wo_Mod_dataByte, wo_Mod_look, wo_Math_floorDiv, wo_Math_floorMod], ∀ w ∈ c, w ∈ lw_tbl := (List.forall_mem_cons.mpr ⟨tb_0, (List.forall_mem_cons.mpr ⟨tb_1, (List.forall_mem_cons.mpr ⟨tb_2, (List.forall_mem_cons.mpr ⟨tb_3, (List.forall_mem_cons.mpr ⟨tb_4, (List.forall_mem_cons.mpr ⟨tb_5, (List.forall_mem_cons.mpr ⟨tb_6, (List.forall_mem_cons.mpr ⟨tb_7, (List.forall_mem_cons.mpr ⟨tb_8, (List.forall_mem_cons.mpr ⟨tb_9, (List.forall_mem_cons.mpr ⟨tb_10, (List.forall_mem_cons.mpr ⟨tb_11, (List.forall_mem_cons.mpr ⟨tb_12, (List.forall_mem_cons.mpr ⟨tb_13, (List.forall_mem_cons.mpr ⟨tb_14, (List.forall_mem_cons.mpr ⟨tb_15, (List.forall_mem_cons.mpr ⟨tb_16, (List.forall_mem_cons.mpr ⟨tb_17, (List.forall_mem_cons.mpr ⟨tb_18, (List.forall_mem_cons.mpr ⟨tb_19, (List.forall_mem_cons.mpr ⟨tb_20, (List.forall_mem_cons.mpr ⟨tb_21, (List.forall_mem_cons.mpr ⟨tb_22, (List.forall_mem_cons.mpr ⟨tb_23, (List.forall_mem_cons.mpr ⟨tb_24, (List.forall_mem_cons.mpr ⟨tb_25, (List.forall_mem_cons.mpr ⟨tb_26, (List.forall_mem_cons.mpr ⟨tb_27, (List.forall_mem_cons.mpr ⟨tb_28, (List.forall_mem_cons.mpr ⟨tb_29, (List.forall_mem_cons.mpr ⟨tb_30, (List.forall_mem_cons.mpr ⟨tb_31, (List.forall_mem_cons.mpr ⟨tb_32, (List.forall_mem_cons.mpr ⟨tb_33, (List.forall_mem_cons.mpr ⟨tb_34, (List.forall_mem_cons.mpr ⟨tb_35, (List.forall_mem_cons.mpr ⟨tb_36, (List.forall_mem_cons.mpr ⟨tb_37, (List.forall_mem_cons.mpr ⟨tb_38, (List.forall_mem_cons.mpr ⟨tb_39, (List.forall_mem_cons.mpr ⟨tb_40, (List.forall_mem_cons.mpr ⟨tb_41, (List.forall_mem_cons.mpr ⟨tb_42, (List.forall_mem_cons.mpr ⟨tb_43, (List.forall_mem_cons.mpr ⟨tb_44, (List.forall_mem_cons.mpr ⟨tb_45, (List.forall_mem_cons.mpr ⟨tb_46, (List.forall_mem_cons.mpr ⟨tb_47, (List.forall_mem_cons.mpr ⟨tb_48, (List.forall_mem_cons.mpr ⟨tb_49, (List.forall_mem_cons.mpr ⟨tb_50, (List.forall_mem_cons.mpr ⟨tb_51, (List.forall_mem_cons.mpr ⟨tb_52, (List.forall_mem_cons.mpr ⟨tb_53, (List.forall_mem_cons.mpr ⟨tb_54, (List.forall_mem_cons.mpr ⟨tb_55, (List.forall_mem_cons.mpr ⟨tb_56, (List.forall_mem_cons.mpr ⟨tb_57, (List.forall_mem_cons.mpr ⟨tb_58, (List.forall_mem_cons.mpr ⟨tb_59, (List.forall_mem_cons.mpr ⟨tb_60, (List.forall_mem_cons.mpr ⟨tb_61, (List.forall_mem_cons.mpr ⟨tb_62, (List.forall_mem_cons.mpr ⟨tb_63, (List.forall_mem_cons.mpr ⟨tb_64, (List.forall_mem_cons.mpr ⟨tb_65, (List.forall_mem_cons.mpr ⟨tb_66, (List.forall_mem_cons.mpr ⟨tb_67, (List.forall_mem_cons.mpr ⟨tb_68, (List.forall_mem_cons.mpr ⟨tb_69, (List.forall_mem_cons.mpr ⟨tb_70, (List.forall_mem_cons.mpr ⟨tb_71, (List.forall_mem_cons.mpr ⟨tb_72, (List.forall_mem_cons.mpr ⟨tb_73, (List.forall_mem_cons.mpr ⟨tb_74, (List.forall_mem_cons.mpr ⟨tb_75, (List.forall_mem_cons.mpr ⟨tb_76, (List.forall_mem_cons.mpr ⟨tb_77, (List.forall_mem_cons.mpr ⟨tb_78, (List.forall_mem_cons.mpr ⟨tb_79, (List.forall_mem_cons.mpr ⟨tb_80, (List.forall_mem_cons.mpr ⟨tb_81, (List.forall_mem_cons.mpr ⟨tb_82, (List.forall_mem_cons.mpr ⟨tb_83, (List.forall_mem_cons.mpr ⟨tb_84, (List.forall_mem_cons.mpr ⟨tb_85, (List.forall_mem_cons.mpr ⟨tb_86, (List.forall_mem_cons.mpr ⟨tb_87, (List.forall_mem_cons.mpr ⟨tb_88, (List.forall_mem_cons.mpr ⟨tb_89, (List.forall_mem_cons.mpr ⟨tb_90, (List.forall_mem_cons.mpr ⟨tb_91, (List.forall_mem_cons.mpr ⟨tb_92, (List.forall_mem_cons.mpr ⟨tb_93, (List.forall_mem_cons.mpr ⟨tb_94, (List.forall_mem_cons.mpr ⟨tb_95, (List.forall_mem_cons.mpr ⟨tb_96, (List.forall_mem_cons.mpr ⟨tb_97, (List.forall_mem_cons.mpr ⟨tb_98, (List.forall_mem_cons.mpr ⟨tb_99, (List.forall_mem_cons.mpr ⟨tb_100, (List.forall_mem_cons.mpr ⟨tb_101, (List.forall_mem_cons.mpr ⟨tb_102, (List.forall_mem_cons.mpr ⟨tb_103, (List.forall_mem_cons.mpr ⟨tb_104, (List.forall_mem_cons.mpr ⟨tb_105, (List.forall_mem_cons.mpr ⟨tb_106, (List.forall_mem_cons.mpr ⟨tb_107, (List.forall_mem_cons.mpr ⟨tb_108, (List.forall_mem_cons.mpr ⟨tb_109, (List.forall_mem_cons.mpr ⟨tb_110, (List.forall_mem_cons.mpr ⟨tb_111, (List.forall_mem_cons.mpr ⟨tb_112, (List.forall_mem_cons.mpr ⟨tb_113, (List.forall_mem_cons.mpr ⟨tb_114, (List.forall_mem_cons.mpr ⟨tb_115, (List.forall_mem_cons.mpr ⟨tb_116, (List.forall_mem_cons.mpr ⟨tb_117, (List.forall_mem_cons.mpr ⟨tb_118, (List.forall_mem_cons.mpr ⟨tb_119, (List.forall_mem_cons.mpr ⟨tb_120, (List.forall_mem_cons.mpr ⟨tb_121, (List.forall_mem_cons.mpr ⟨tb_122, (List.forall_mem_cons.mpr ⟨tb_123, (List.forall_mem_cons.mpr ⟨tb_124, (List.forall_mem_cons.mpr ⟨tb_125, (List.forall_mem_cons.mpr ⟨tb_126, (List.forall_mem_cons.mpr ⟨tb_127, (List.forall_mem_cons.mpr ⟨tb_128, (List.forall_mem_cons.mpr ⟨tb_129, (List.forall_mem_cons.mpr ⟨tb_130, (List.forall_mem_cons.mpr ⟨tb_131, (List.forall_mem_cons.mpr ⟨tb_132, (List.forall_mem_cons.mpr ⟨tb_133, (List.forall_mem_cons.mpr ⟨tb_134, (List.forall_mem_cons.mpr ⟨tb_135, (List.forall_mem_cons.mpr ⟨tb_136, (List.forall_mem_cons.mpr ⟨tb_137, (List.forall_mem_cons.mpr ⟨tb_138, (List.forall_mem_cons.mpr ⟨tb_139, (List.forall_mem_cons.mpr ⟨tb_140, (List.forall_mem_cons.mpr ⟨tb_141, (List.forall_mem_cons.mpr ⟨tb_142, (List.forall_mem_cons.mpr ⟨tb_143, (List.forall_mem_cons.mpr ⟨tb_144, (List.forall_mem_cons.mpr ⟨tb_145, (List.forall_mem_cons.mpr ⟨tb_146, (List.forall_mem_cons.mpr ⟨tb_147, (List.forall_mem_cons.mpr ⟨tb_148, (List.forall_mem_cons.mpr ⟨tb_149, (List.forall_mem_cons.mpr ⟨tb_150, (List.forall_mem_cons.mpr ⟨tb_151, (List.forall_mem_cons.mpr ⟨tb_152, (List.forall_mem_cons.mpr ⟨tb_153, (List.forall_mem_cons.mpr ⟨tb_154, (List.forall_mem_cons.mpr ⟨tb_155, (List.forall_mem_cons.mpr ⟨tb_156, (List.forall_mem_cons.mpr ⟨tb_157, (List.forall_mem_cons.mpr ⟨tb_158, (List.forall_mem_cons.mpr ⟨tb_159, (List.forall_mem_cons.mpr ⟨tb_160, (List.forall_mem_cons.mpr ⟨tb_161, (List.forall_mem_cons.mpr ⟨tb_162, (List.forall_mem_cons.mpr ⟨tb_163, (List.forall_mem_cons.mpr ⟨tb_164, (List.forall_mem_cons.mpr ⟨tb_165, (List.forall_mem_cons.mpr ⟨tb_166, (List.forall_mem_cons.mpr ⟨tb_167, (List.forall_mem_cons.mpr ⟨tb_168, (List.forall_mem_cons.mpr ⟨tb_169, (List.forall_mem_cons.mpr ⟨tb_170, (List.forall_mem_cons.mpr ⟨tb_171, (List.forall_mem_cons.mpr ⟨tb_172, (List.forall_mem_cons.mpr ⟨tb_173, (List.forall_mem_cons.mpr ⟨tb_174, (List.forall_mem_cons.mpr ⟨tb_175, (List.forall_mem_cons.mpr ⟨tb_176, (List.forall_mem_cons.mpr ⟨tb_177, (List.forall_mem_cons.mpr ⟨tb_178, (List.forall_mem_cons.mpr ⟨tb_179, (List.forall_mem_cons.mpr ⟨tb_180, (List.forall_mem_cons.mpr ⟨tb_181, (List.forall_mem_cons.mpr ⟨tb_182, (List.forall_mem_cons.mpr ⟨tb_183, (List.forall_mem_cons.mpr ⟨tb_184, (List.forall_mem_cons.mpr ⟨tb_185, (List.forall_mem_cons.mpr ⟨tb_186, (List.forall_mem_cons.mpr ⟨tb_187, (List.forall_mem_cons.mpr ⟨tb_188, (List.forall_mem_cons.mpr ⟨tb_189, (List.forall_mem_cons.mpr ⟨tb_190, (List.forall_mem_cons.mpr ⟨tb_191, (List.forall_mem_cons.mpr ⟨tb_192, (List.forall_mem_cons.mpr ⟨tb_193, (List.forall_mem_cons.mpr ⟨tb_194, (List.forall_mem_cons.mpr ⟨tb_195, (List.forall_mem_cons.mpr ⟨tb_196, (List.forall_mem_cons.mpr ⟨tb_197, (List.forall_mem_cons.mpr ⟨tb_198, (List.forall_mem_cons.mpr ⟨tb_199, (List.forall_mem_cons.mpr ⟨tb_200, (List.forall_mem_cons.mpr ⟨tb_201, (List.forall_mem_cons.mpr ⟨tb_202, (List.forall_mem_cons.mpr ⟨tb_203, (List.forall_mem_cons.mpr ⟨tb_204, (List.forall_mem_cons.mpr ⟨tb_205, (List.forall_mem_cons.mpr ⟨tb_206, (List.forall_mem_cons.mpr ⟨tb_207, (List.forall_mem_cons.mpr ⟨tb_208, (List.forall_mem_cons.mpr ⟨tb_209, (List.forall_mem_cons.mpr ⟨tb_210, (List.forall_mem_cons.mpr ⟨tb_211, (List.forall_mem_cons.mpr ⟨tb_212, (List.forall_mem_cons.mpr ⟨tb_213, (List.forall_mem_cons.mpr ⟨tb_214, (List.forall_mem_cons.mpr ⟨tb_215, (fun _ h => absurd h List.not_mem_nil)⟩)⟩)⟩)⟩)⟩)⟩)⟩)⟩)⟩)⟩)⟩)⟩)⟩)⟩)⟩)⟩)⟩)⟩)⟩)⟩)⟩)⟩)⟩)⟩)⟩)⟩)⟩)⟩)⟩)⟩)⟩)⟩)⟩)⟩)⟩)⟩)⟩)⟩)⟩)⟩)⟩)⟩)⟩)⟩)⟩)⟩)⟩)⟩)⟩)⟩)⟩)⟩)⟩)⟩)⟩)⟩)⟩)⟩)⟩)⟩)⟩)⟩)⟩)⟩)⟩)⟩)⟩)⟩)⟩)⟩)⟩)⟩)⟩)⟩)⟩)⟩)⟩)⟩)⟩)⟩)⟩)⟩)⟩)⟩)⟩)⟩)⟩)⟩)⟩)⟩)⟩)⟩)⟩)⟩)⟩)⟩)⟩)⟩)⟩)⟩)⟩)⟩)⟩)⟩)⟩)⟩)⟩)⟩)⟩)⟩)⟩)⟩)⟩)⟩)⟩)⟩)⟩)⟩)⟩)⟩)⟩)⟩)⟩)⟩)⟩)⟩)⟩)⟩)⟩)⟩)⟩)⟩)⟩)⟩)⟩)⟩)⟩)⟩)⟩)⟩)⟩)⟩)⟩)⟩)⟩)⟩)⟩)⟩)⟩)⟩)⟩)⟩)⟩)⟩)⟩)⟩)⟩)⟩)⟩)⟩)⟩)⟩)⟩)⟩)⟩)⟩)⟩)⟩)⟩)⟩)⟩)⟩)⟩)⟩)⟩)⟩)⟩)⟩)⟩)⟩)⟩)⟩)⟩)⟩)⟩)⟩)⟩)⟩)⟩)⟩)⟩)⟩)⟩)⟩)⟩)⟩)⟩)⟩)⟩)⟩)⟩)⟩)⟩)⟩)⟩)⟩)⟩)⟩)⟩)⟩)⟩)⟩)⟩)⟩)⟩)⟩)
theorem tb_A : ∀ w ∈ wA, w ∈ lw_tbl := fun w hw => by
  obtain ⟨c, hc, hw⟩ := List.mem_flatten.mp hw
  exact tb_all c hc w hw
set_option maxRecDepth 20000 in
theorem tb_L : ∀ w ∈ wo_Law, w ∈ lw_tbl := tb_of [(2, 196), (2, 197), (1, 1), (2, 198), (2, 199), (2, 200), (2, 201), (3, 82), (3, 83), (3, 84), (3, 85), (3, 91), (3, 92), (3, 93), (3, 94), (5, 3), (5, 4), (5, 5), (5, 6), (5, 17), (5, 18), (5, 19), (5, 20)] rfl
set_option maxRecDepth 20000 in
theorem tb_M : ∀ w ∈ wo_LawM, w ∈ lw_tbl := tb_of [(1, 21), (1, 22), (1, 1), (1, 23), (5, 24), (5, 25), (1, 12), (5, 26), (2, 31), (2, 32), (2, 33), (2, 34), (5, 191), (5, 192), (5, 193), (5, 194), (2, 193), (2, 194), (1, 0), (2, 195), (5, 195), (5, 196), (5, 197), (5, 198), (5, 187), (5, 188), (5, 189), (5, 190), (3, 79), (3, 80), (3, 81), (5, 207), (5, 208), (5, 209), (5, 210), (2, 39), (2, 40), (2, 41), (2, 42), (5, 215), (5, 216), (5, 217), (5, 218), (2, 73), (2, 74), (2, 75), (2, 76), (5, 220), (5, 221), (5, 222), (5, 223), (3, 88), (3, 89), (3, 90), (5, 224), (5, 225), (5, 226), (5, 227), (2, 85), (2, 86), (2, 87), (2, 88), (6, 138), (6, 139), (6, 140), (6, 141), (5, 0), (5, 1), (5, 2), (6, 142), (6, 143), (6, 144), (6, 145), (2, 101), (2, 102), (2, 103), (2, 104), (6, 146), (6, 147), (6, 148), (6, 149), (2, 125), (2, 126), (2, 127), (2, 128), (6, 150), (6, 151), (6, 152), (6, 153), (5, 14), (5, 15), (5, 16), (6, 158), (6, 159), (6, 160), (6, 161), (2, 157), (2, 158), (2, 159), (2, 160), (6, 162), (6, 163), (6, 164), (6, 165), (2, 161), (2, 162), (2, 163), (2, 164), (6, 166), (6, 167), (6, 168), (6, 169), (1, 19), (1, 20), (5, 22), (5, 23), (1, 50), (6, 170)] rfl
theorem tb_X : ∀ w ∈ wX, w ∈ lw_tbl := tb_of [(1, 13), (2, 229), (2, 238), (3, 1), (3, 4), (3, 6), (2, 230), (2, 231), (1, 25), (1, 26), (2, 232), (2, 237), (3, 2), (3, 22), (2, 219), (3, 23), (2, 221), (3, 24), (2, 223), (2, 233), (2, 235), (2, 225), (3, 18), (3, 19), (3, 21), (2, 225), (3, 9), (3, 10), (3, 11), (3, 12), (3, 12), (3, 13), (3, 14), (3, 15), (3, 15), (3, 16), (3, 17), (3, 18), (3, 8), (2, 208), (2, 216), (2, 217), (2, 218), (2, 220), (2, 222), (2, 224), (2, 228), (2, 227), (2, 226), (1, 13), (2, 229), (2, 238), (3, 1), (3, 4), (3, 6), (2, 230), (2, 231), (1, 25), (1, 26), (2, 232), (2, 237), (3, 2), (3, 22), (2, 219), (3, 23), (2, 221), (3, 24), (2, 223), (2, 233), (2, 235), (2, 225), (3, 18), (3, 19), (3, 21), (2, 225), (3, 51), (3, 52), (3, 53), (3, 12), (3, 12), (3, 13), (3, 14), (3, 15), (3, 15), (3, 16), (3, 17), (3, 18), (3, 50), (3, 41), (3, 43), (3, 0), (3, 44), (3, 45), (3, 46), (3, 47), (2, 228), (2, 227), (3, 48), (2, 207), (3, 40), (1, 16), (1, 17)] (by decide +kernel)
