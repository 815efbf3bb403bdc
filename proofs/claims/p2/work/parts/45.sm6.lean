theorem dX12_sums_0 : decode cX12_sums 0 = .ok (.aload_n 0, 1) := by decide +kernel
theorem dX12_sums_1 : decode cX12_sums 1 = .ok (.getfield 94, 3) := by decide +kernel
theorem dX12_sums_4 : decode cX12_sums 4 = .ok (.iload_n 1, 1) := by decide +kernel
theorem dX12_sums_5 : decode cX12_sums 5 = .ok (.iaload, 1) := by decide +kernel
theorem dX12_sums_6 : decode cX12_sums 6 = .ok (.ifCond .ne 24, 3) := by decide +kernel
theorem dX12_sums_30 : decode cX12_sums 30 = .ok (.aload_n 0, 1) := by decide +kernel
theorem dX12_sums_31 : decode cX12_sums 31 = .ok (.getfield 97, 3) := by decide +kernel
theorem dX12_sums_34 : decode cX12_sums 34 = .ok (.iload_n 1, 1) := by decide +kernel
theorem dX12_sums_35 : decode cX12_sums 35 = .ok (.aload_n 0, 1) := by decide +kernel
theorem dX12_sums_36 : decode cX12_sums 36 = .ok (.getfield 97, 3) := by decide +kernel
theorem dX12_sums_39 : decode cX12_sums 39 = .ok (.iload_n 1, 1) := by decide +kernel
theorem dX12_sums_40 : decode cX12_sums 40 = .ok (.iaload, 1) := by decide +kernel
theorem dX12_sums_41 : decode cX12_sums 41 = .ok (.ifCond .ge 10, 3) := by decide +kernel
theorem dX12_sums_51 : decode cX12_sums 51 = .ok (.aload_n 0, 1) := by decide +kernel
theorem dX12_sums_52 : decode cX12_sums 52 = .ok (.aload_n 0, 1) := by decide +kernel
theorem dX12_sums_53 : decode cX12_sums 53 = .ok (.getfield 100, 3) := by decide +kernel
theorem dX12_sums_56 : decode cX12_sums 56 = .ok (.iload_n 1, 1) := by decide +kernel
theorem dX12_sums_57 : decode cX12_sums 57 = .ok (.iaload, 1) := by decide +kernel
theorem dX12_sums_58 : decode cX12_sums 58 = .ok (.aload_n 0, 1) := by decide +kernel
theorem dX12_sums_59 : decode cX12_sums 59 = .ok (.getfield 97, 3) := by decide +kernel
theorem dX12_sums_62 : decode cX12_sums 62 = .ok (.iload_n 1, 1) := by decide +kernel
theorem dX12_sums_63 : decode cX12_sums 63 = .ok (.iaload, 1) := by decide +kernel
theorem dX12_sums_64 : decode cX12_sums 64 = .ok (.aload_n 0, 1) := by decide +kernel
theorem dX12_sums_65 : decode cX12_sums 65 = .ok (.getfield 343, 3) := by decide +kernel
set_option maxRecDepth 20000 in
theorem ggX12_sums_X12_node : GoodIn wsX12_sums wsX12_node := goodIn_r _ [15, 16, 17, 18, 19, 56, 57, 58, 59, 60, 61, 62, 63, 64, 65, 66, 67, 68, 69, 70, 71, 72, 73, 74, 75, 76, 77, 78, 79, 80, 81, 82, 83, 84, 85, 86, 87, 88, 89, 90, 91, 92, 93, 94, 95, 96, 97, 98, 99, 100, 101, 102, 103, 104, 105, 106, 107, 108, 109, 110, 111, 112, 113, 114, 115, 116, 117, 118, 119, 120, 121, 122, 123, 124, 125, 126, 127, 128, 129, 130, 131, 132, 133, 134, 135, 136, 137, 138, 139, 140, 141, 142, 143, 144, 145, 146, 147, 148, 149, 150, 151] (by decide +kernel) (by decide +kernel)
set_option maxRecDepth 20000 in
theorem gX12_sums_X12_node : GoodIn wsX12_sums (wsV RX12 366 RX12 yX12_node wsX12_node) := goodIn_app (goodIn_of _ (by decide +kernel)) ggX12_sums_X12_node
theorem dX12_sums_68 : decode cX12_sums 68 = .ok (.invokevirtual 366, 3) := by decide +kernel
theorem dX12_sums_71 : decode cX12_sums 71 = .ok (.iastore, 1) := by decide +kernel
theorem dX12_sums_72 : decode cX12_sums 72 = .ok (.iload_n 2, 1) := by decide +kernel
theorem dX12_sums_73 : decode cX12_sums 73 = .ok (.ifCond .eq 33, 3) := by decide +kernel
theorem dX12_sums_76 : decode cX12_sums 76 = .ok (.aload_n 0, 1) := by decide +kernel
theorem dX12_sums_77 : decode cX12_sums 77 = .ok (.bipush 43, 2) := by decide +kernel
set_option maxRecDepth 20000 in
theorem ggX12_sums_X12_isSign : GoodIn wsX12_sums wsX12_isSign := goodIn_r _ [23, 24, 25, 56, 57, 58, 59, 60, 61, 62, 63, 64, 65, 66, 67, 68, 69, 70, 71, 72, 73, 74, 75, 76, 77, 78, 79, 80, 81, 82, 83, 84, 85, 86, 87, 88, 89, 90, 91, 92, 93, 94, 95, 96, 97, 98, 99, 100, 101, 102, 103, 104, 105, 106, 107, 108, 109, 110, 111, 112, 113, 114, 115, 116, 117, 118, 119, 120, 121, 122, 123, 124, 125, 126, 127, 128, 129, 130, 131, 132, 133, 134, 135, 136, 137, 138, 139, 140, 141, 142, 143, 144, 145, 146, 147, 148, 149, 150, 151] (by decide +kernel) (by decide +kernel)
set_option maxRecDepth 20000 in
theorem gX12_sums_X12_isSign : GoodIn wsX12_sums (wsV RX12 298 RX12 yX12_isSign wsX12_isSign) := goodIn_app (goodIn_of _ (by decide +kernel)) ggX12_sums_X12_isSign
theorem dX12_sums_79 : decode cX12_sums 79 = .ok (.invokevirtual 298, 3) := by decide +kernel
theorem dX12_sums_82 : decode cX12_sums 82 = .ok (.ifCond .eq 7, 3) := by decide +kernel
theorem dX12_sums_85 : decode cX12_sums 85 = .ok (.iconst 2, 1) := by decide +kernel
theorem dX12_sums_86 : decode cX12_sums 86 = .ok (.goto 47, 3) := by decide +kernel
theorem dX12_sums_133 : decode cX12_sums 133 = .ok (.istore_n 3, 1) := by decide +kernel
theorem dX12_sums_134 : decode cX12_sums 134 = .ok (.iload_n 3, 1) := by decide +kernel
theorem dX12_sums_135 : decode cX12_sums 135 = .ok (.ifCond .le 30, 3) := by decide +kernel
theorem dX12_sums_138 : decode cX12_sums 138 = .ok (.aload_n 0, 1) := by decide +kernel
set_option maxRecDepth 20000 in
theorem ggX12_sums_X12_next : GoodIn wsX12_sums wsX12_next := goodIn_r _ [29, 30, 31, 32, 33, 25, 34, 24, 35, 36, 37, 38, 39, 8, 40, 41, 42, 43, 44, 45, 46, 47, 48, 49, 50, 51, 56, 57, 58, 59, 60, 61, 62, 63, 64, 65, 66, 67, 68, 69, 70, 71, 72, 73, 74, 75, 76, 77, 78, 79, 80, 81, 82, 83, 84, 85, 86, 87, 88, 89, 90, 91, 92, 93, 94, 95, 96, 97, 98, 99, 100, 101, 102, 103, 104, 105, 106, 107, 108, 109, 110, 111, 112, 113, 114, 115, 116, 117, 118, 119, 120, 121, 122, 123, 124, 125, 126, 127, 128, 129, 130, 131, 132, 133, 134, 135, 136, 137, 138, 139, 140, 141, 142, 143, 144, 145, 146, 147, 148, 149, 150, 151] (by decide +kernel) (by decide +kernel)
set_option maxRecDepth 20000 in
theorem gX12_sums_X12_next : GoodIn wsX12_sums (wsV RX12 301 RX12 yX12_next wsX12_next) := goodIn_app (goodIn_of _ (by decide +kernel)) ggX12_sums_X12_next
theorem dX12_sums_139 : decode cX12_sums 139 = .ok (.invokevirtual 301, 3) := by decide +kernel
theorem dX12_sums_142 : decode cX12_sums 142 = .ok (.aload_n 0, 1) := by decide +kernel
theorem dX12_sums_143 : decode cX12_sums 143 = .ok (.getfield 100, 3) := by decide +kernel
theorem dX12_sums_146 : decode cX12_sums 146 = .ok (.iload_n 1, 1) := by decide +kernel
theorem dX12_sums_147 : decode cX12_sums 147 = .ok (.iload_n 3, 1) := by decide +kernel
theorem dX12_sums_148 : decode cX12_sums 148 = .ok (.iastore, 1) := by decide +kernel
theorem dX12_sums_149 : decode cX12_sums 149 = .ok (.aload_n 0, 1) := by decide +kernel
theorem dX12_sums_150 : decode cX12_sums 150 = .ok (.iload_n 2, 1) := by decide +kernel
theorem dX12_sums_151 : decode cX12_sums 151 = .ok (.ifCond .eq 7, 3) := by decide +kernel
theorem dX12_sums_154 : decode cX12_sums 154 = .ok (.iconst 1, 1) := by decide +kernel
theorem dX12_sums_155 : decode cX12_sums 155 = .ok (.goto 4, 3) := by decide +kernel
set_option maxRecDepth 20000 in
theorem ggX12_sums_X12_begin : GoodIn wsX12_sums wsX12_begin := goodIn_r _ [9, 10, 11, 1, 2, 4, 56, 57, 58, 59, 60, 61, 62, 63, 64, 65, 66, 67, 68, 69, 70, 71, 72, 73, 74, 75, 76, 77, 78, 79, 80, 81, 82, 83, 84, 85, 86, 87, 88, 89, 90, 91, 92, 93, 94, 95, 96, 97, 98, 99, 100, 101, 102, 103, 104, 105, 106, 107, 108, 109, 110, 111, 112, 113, 114, 115, 116, 117, 118, 119, 120, 121, 122, 123, 124, 125, 126, 127, 128, 129, 130, 131, 132, 133, 134, 135, 136, 137, 138, 139, 140, 141, 142, 143, 144, 145, 146, 147, 148, 149, 150, 151] (by decide +kernel) (by decide +kernel)
set_option maxRecDepth 20000 in
theorem gX12_sums_X12_begin : GoodIn wsX12_sums (wsV RX12 349 RX12 yX12_begin wsX12_begin) := goodIn_app (goodIn_of _ (by decide +kernel)) ggX12_sums_X12_begin
theorem dX12_sums_159 : decode cX12_sums 159 = .ok (.invokevirtual 349, 3) := by decide +kernel
theorem dX12_sums_162 : decode cX12_sums 162 = .ok (.goto 13, 3) := by decide +kernel
theorem dX12_sums_175 : decode cX12_sums 175 = .ok (.return_, 1) := by decide +kernel
theorem dX12_sums_89 : decode cX12_sums 89 = .ok (.aload_n 0, 1) := by decide +kernel
theorem dX12_sums_90 : decode cX12_sums 90 = .ok (.bipush 45, 2) := by decide +kernel
theorem dX12_sums_92 : decode cX12_sums 92 = .ok (.invokevirtual 298, 3) := by decide +kernel
theorem dX12_sums_95 : decode cX12_sums 95 = .ok (.ifCond .eq 7, 3) := by decide +kernel
theorem dX12_sums_98 : decode cX12_sums 98 = .ok (.iconst 3, 1) := by decide +kernel
theorem dX12_sums_99 : decode cX12_sums 99 = .ok (.goto 34, 3) := by decide +kernel
theorem dX12_sums_102 : decode cX12_sums 102 = .ok (.iconst 0, 1) := by decide +kernel
theorem dX12_sums_103 : decode cX12_sums 103 = .ok (.goto 30, 3) := by decide +kernel
theorem dX12_sums_165 : decode cX12_sums 165 = .ok (.aload_n 0, 1) := by decide +kernel
theorem dX12_sums_166 : decode cX12_sums 166 = .ok (.aload_n 0, 1) := by decide +kernel
theorem dX12_sums_167 : decode cX12_sums 167 = .ok (.getfield 97, 3) := by decide +kernel
theorem dX12_sums_170 : decode cX12_sums 170 = .ok (.iload_n 1, 1) := by decide +kernel
theorem dX12_sums_171 : decode cX12_sums 171 = .ok (.iaload, 1) := by decide +kernel
set_option maxRecDepth 20000 in
theorem ggX12_sums_X12_ends : GoodIn wsX12_sums wsX12_ends := goodIn_r _ [55, 3, 11, 56, 57, 58, 59, 60, 61, 62, 63, 64, 65, 66, 67, 68, 69, 70, 71, 72, 73, 74, 75, 76, 77, 78, 79, 80, 81, 82, 83, 84, 85, 86, 87, 88, 89, 90, 91, 92, 93, 94, 95, 96, 97, 98, 99, 100, 101, 102, 103, 104, 105, 106, 107, 108, 109, 110, 111, 112, 113, 114, 115, 116, 117, 118, 119, 120, 121, 122, 123, 124, 125, 126, 127, 128, 129, 130, 131, 132, 133, 134, 135, 136, 137, 138, 139, 140, 141, 142, 143, 144, 145, 146, 147, 148, 149, 150, 151] (by decide +kernel) (by decide +kernel)
set_option maxRecDepth 20000 in
theorem gX12_sums_X12_ends : GoodIn wsX12_sums (wsV RX12 369 RX12 yX12_ends wsX12_ends) := goodIn_app (goodIn_of _ (by decide +kernel)) ggX12_sums_X12_ends
theorem dX12_sums_172 : decode cX12_sums 172 = .ok (.invokevirtual 369, 3) := by decide +kernel
theorem dX12_sums_44 : decode cX12_sums 44 = .ok (.aload_n 0, 1) := by decide +kernel
theorem dX12_sums_45 : decode cX12_sums 45 = .ok (.getfield 343, 3) := by decide +kernel
theorem dX12_sums_48 : decode cX12_sums 48 = .ok (.goto 23, 3) := by decide +kernel
theorem dX12_sums_9 : decode cX12_sums 9 = .ok (.aload_n 0, 1) := by decide +kernel
theorem dX12_sums_10 : decode cX12_sums 10 = .ok (.getfield 94, 3) := by decide +kernel
theorem dX12_sums_13 : decode cX12_sums 13 = .ok (.iload_n 1, 1) := by decide +kernel
theorem dX12_sums_14 : decode cX12_sums 14 = .ok (.iconst 1, 1) := by decide +kernel
theorem dX12_sums_15 : decode cX12_sums 15 = .ok (.iastore, 1) := by decide +kernel
theorem dX12_sums_16 : decode cX12_sums 16 = .ok (.aload_n 0, 1) := by decide +kernel
theorem dX12_sums_17 : decode cX12_sums 17 = .ok (.iload_n 2, 1) := by decide +kernel
theorem dX12_sums_18 : decode cX12_sums 18 = .ok (.ifCond .eq 7, 3) := by decide +kernel
theorem dX12_sums_21 : decode cX12_sums 21 = .ok (.iconst 1, 1) := by decide +kernel
theorem dX12_sums_22 : decode cX12_sums 22 = .ok (.goto 4, 3) := by decide +kernel
theorem dX12_sums_26 : decode cX12_sums 26 = .ok (.invokevirtual 349, 3) := by decide +kernel
theorem dX12_sums_29 : decode cX12_sums 29 = .ok (.return_, 1) := by decide +kernel
theorem dX12_sums_106 : decode cX12_sums 106 = .ok (.aload_n 0, 1) := by decide +kernel
theorem dX12_sums_107 : decode cX12_sums 107 = .ok (.bipush 42, 2) := by decide +kernel
theorem dX12_sums_109 : decode cX12_sums 109 = .ok (.invokevirtual 298, 3) := by decide +kernel
theorem dX12_sums_112 : decode cX12_sums 112 = .ok (.ifCond .eq 7, 3) := by decide +kernel
theorem dX12_sums_115 : decode cX12_sums 115 = .ok (.iconst 4, 1) := by decide +kernel
theorem dX12_sums_116 : decode cX12_sums 116 = .ok (.goto 17, 3) := by decide +kernel
theorem dX12_sums_158 : decode cX12_sums 158 = .ok (.iconst 2, 1) := by decide +kernel
theorem dX12_sums_119 : decode cX12_sums 119 = .ok (.aload_n 0, 1) := by decide +kernel
theorem dX12_sums_120 : decode cX12_sums 120 = .ok (.bipush 47, 2) := by decide +kernel
theorem dX12_sums_122 : decode cX12_sums 122 = .ok (.invokevirtual 298, 3) := by decide +kernel
theorem dX12_sums_125 : decode cX12_sums 125 = .ok (.ifCond .eq 7, 3) := by decide +kernel
theorem dX12_sums_128 : decode cX12_sums 128 = .ok (.iconst 5, 1) := by decide +kernel
theorem dX12_sums_129 : decode cX12_sums 129 = .ok (.goto 4, 3) := by decide +kernel
theorem dX12_sums_132 : decode cX12_sums 132 = .ok (.iconst 0, 1) := by decide +kernel
theorem dX12_sums_25 : decode cX12_sums 25 = .ok (.iconst 2, 1) := by decide +kernel
theorem dX12_atom_0 : decode cX12_atom 0 = .ok (.aload_n 0, 1) := by decide +kernel
theorem dX12_atom_1 : decode cX12_atom 1 = .ok (.getfield 94, 3) := by decide +kernel
theorem dX12_atom_4 : decode cX12_atom 4 = .ok (.iload_n 1, 1) := by decide +kernel
theorem dX12_atom_5 : decode cX12_atom 5 = .ok (.iaload, 1) := by decide +kernel
theorem dX12_atom_6 : decode cX12_atom 6 = .ok (.ifCond .ne 192, 3) := by decide +kernel
theorem dX12_atom_198 : decode cX12_atom 198 = .ok (.aload_n 0, 1) := by decide +kernel
theorem dX12_atom_199 : decode cX12_atom 199 = .ok (.getfield 94, 3) := by decide +kernel
theorem dX12_atom_202 : decode cX12_atom 202 = .ok (.iload_n 1, 1) := by decide +kernel
theorem dX12_atom_203 : decode cX12_atom 203 = .ok (.iaload, 1) := by decide +kernel
theorem dX12_atom_204 : decode cX12_atom 204 = .ok (.iconst 2, 1) := by decide +kernel
theorem dX12_atom_205 : decode cX12_atom 205 = .ok (.if_icmp .ne 41, 3) := by decide +kernel
theorem dX12_atom_246 : decode cX12_atom 246 = .ok (.aload_n 0, 1) := by decide +kernel
theorem dX12_atom_247 : decode cX12_atom 247 = .ok (.bipush 41, 2) := by decide +kernel
set_option maxRecDepth 20000 in
theorem ggX12_atom_X12_must : GoodIn wsX12_atom wsX12_must := goodIn_r _ [76, 51, 52, 53, 15, 54, 2, 20, 12, 13, 14, 16, 17, 18, 19, 8, 3, 21, 22, 23, 24, 25, 26, 27, 28, 29, 30, 31, 32, 33, 34, 35, 36, 37, 59, 60, 61, 62, 7, 63, 88, 89, 90, 91, 92, 93, 94, 95, 96, 97, 98, 99, 100, 101, 102, 103, 104, 105, 106, 107, 108, 109, 110, 111, 112, 113, 114, 115, 116, 117, 118, 119, 120, 121, 122, 123, 124, 125, 126, 127, 128, 129, 130, 131, 132, 133, 134, 135, 136, 137, 138, 139, 140, 141, 142, 143, 144, 145, 146, 147, 148, 149, 150, 151, 152, 153, 154, 155, 156, 157, 158, 159, 160, 161, 162, 163, 164, 165, 166, 167, 168, 169, 170, 171, 172, 173, 174, 175, 176, 177, 178, 179, 180, 181, 182, 183] (by decide +kernel) (by decide +kernel)
set_option maxRecDepth 20000 in
theorem gX12_atom_X12_must : GoodIn wsX12_atom (wsV RX12 383 RX12 yX12_must wsX12_must) := goodIn_app (goodIn_of _ (by decide +kernel)) ggX12_atom_X12_must
theorem dX12_atom_249 : decode cX12_atom 249 = .ok (.invokevirtual 383, 3) := by decide +kernel
theorem dX12_atom_252 : decode cX12_atom 252 = .ok (.aload_n 0, 1) := by decide +kernel
theorem dX12_atom_253 : decode cX12_atom 253 = .ok (.dup, 1) := by decide +kernel
theorem dX12_atom_254 : decode cX12_atom 254 = .ok (.getfield 346, 3) := by decide +kernel
theorem dX12_atom_257 : decode cX12_atom 257 = .ok (.iconst 1, 1) := by decide +kernel
theorem dX12_atom_258 : decode cX12_atom 258 = .ok (.isub, 1) := by decide +kernel
theorem dX12_atom_259 : decode cX12_atom 259 = .ok (.putfield 346, 3) := by decide +kernel
theorem dX12_atom_262 : decode cX12_atom 262 = .ok (.aload_n 0, 1) := by decide +kernel
theorem dX12_atom_263 : decode cX12_atom 263 = .ok (.getfield 294, 3) := by decide +kernel
theorem dX12_atom_266 : decode cX12_atom 266 = .ok (.ifCond .eq 4, 3) := by decide +kernel
theorem dX12_atom_270 : decode cX12_atom 270 = .ok (.aload_n 0, 1) := by decide +kernel
theorem dX12_atom_271 : decode cX12_atom 271 = .ok (.aload_n 0, 1) := by decide +kernel
theorem dX12_atom_272 : decode cX12_atom 272 = .ok (.getfield 94, 3) := by decide +kernel
theorem dX12_atom_275 : decode cX12_atom 275 = .ok (.iload_n 1, 1) := by decide +kernel
theorem dX12_atom_276 : decode cX12_atom 276 = .ok (.iaload, 1) := by decide +kernel
theorem dX12_atom_277 : decode cX12_atom 277 = .ok (.iconst 1, 1) := by decide +kernel
theorem dX12_atom_278 : decode cX12_atom 278 = .ok (.if_icmp .ne 10, 3) := by decide +kernel
theorem dX12_atom_288 : decode cX12_atom 288 = .ok (.aload_n 0, 1) := by decide +kernel
theorem dX12_atom_289 : decode cX12_atom 289 = .ok (.aload_n 0, 1) := by decide +kernel
theorem dX12_atom_290 : decode cX12_atom 290 = .ok (.getfield 100, 3) := by decide +kernel
theorem dX12_atom_293 : decode cX12_atom 293 = .ok (.iload_n 1, 1) := by decide +kernel
theorem dX12_atom_294 : decode cX12_atom 294 = .ok (.iaload, 1) := by decide +kernel
theorem dX12_atom_295 : decode cX12_atom 295 = .ok (.aload_n 0, 1) := by decide +kernel
theorem dX12_atom_296 : decode cX12_atom 296 = .ok (.getfield 97, 3) := by decide +kernel
theorem dX12_atom_299 : decode cX12_atom 299 = .ok (.iload_n 1, 1) := by decide +kernel
theorem dX12_atom_300 : decode cX12_atom 300 = .ok (.iaload, 1) := by decide +kernel
theorem dX12_atom_301 : decode cX12_atom 301 = .ok (.aload_n 0, 1) := by decide +kernel
theorem dX12_atom_302 : decode cX12_atom 302 = .ok (.getfield 343, 3) := by decide +kernel
set_option maxRecDepth 20000 in
theorem ggX12_atom_X12_node : GoodIn wsX12_atom wsX12_node := goodIn_r _ [41, 42, 43, 44, 45, 88, 89, 90, 91, 92, 93, 94, 95, 96, 97, 98, 99, 100, 101, 102, 103, 104, 105, 106, 107, 108, 109, 110, 111, 112, 113, 114, 115, 116, 117, 118, 119, 120, 121, 122, 123, 124, 125, 126, 127, 128, 129, 130, 131, 132, 133, 134, 135, 136, 137, 138, 139, 140, 141, 142, 143, 144, 145, 146, 147, 148, 149, 150, 151, 152, 153, 154, 155, 156, 157, 158, 159, 160, 161, 162, 163, 164, 165, 166, 167, 168, 169, 170, 171, 172, 173, 174, 175, 176, 177, 178, 179, 180, 181, 182, 183] (by decide +kernel) (by decide +kernel)
set_option maxRecDepth 20000 in
theorem gX12_atom_X12_node : GoodIn wsX12_atom (wsV RX12 366 RX12 yX12_node wsX12_node) := goodIn_app (goodIn_of _ (by decide +kernel)) ggX12_atom_X12_node
theorem dX12_atom_305 : decode cX12_atom 305 = .ok (.invokevirtual 366, 3) := by decide +kernel
set_option maxRecDepth 20000 in
theorem ggX12_atom_X12_ends : GoodIn wsX12_atom wsX12_ends := goodIn_r _ [49, 10, 50, 88, 89, 90, 91, 92, 93, 94, 95, 96, 97, 98, 99, 100, 101, 102, 103, 104, 105, 106, 107, 108, 109, 110, 111, 112, 113, 114, 115, 116, 117, 118, 119, 120, 121, 122, 123, 124, 125, 126, 127, 128, 129, 130, 131, 132, 133, 134, 135, 136, 137, 138, 139, 140, 141, 142, 143, 144, 145, 146, 147, 148, 149, 150, 151, 152, 153, 154, 155, 156, 157, 158, 159, 160, 161, 162, 163, 164, 165, 166, 167, 168, 169, 170, 171, 172, 173, 174, 175, 176, 177, 178, 179, 180, 181, 182, 183] (by decide +kernel) (by decide +kernel)
set_option maxRecDepth 20000 in
theorem gX12_atom_X12_ends : GoodIn wsX12_atom (wsV RX12 369 RX12 yX12_ends wsX12_ends) := goodIn_app (goodIn_of _ (by decide +kernel)) ggX12_atom_X12_ends
theorem dX12_atom_308 : decode cX12_atom 308 = .ok (.invokevirtual 369, 3) := by decide +kernel
theorem dX12_atom_311 : decode cX12_atom 311 = .ok (.return_, 1) := by decide +kernel
theorem dX12_atom_281 : decode cX12_atom 281 = .ok (.aload_n 0, 1) := by decide +kernel
theorem dX12_atom_282 : decode cX12_atom 282 = .ok (.getfield 343, 3) := by decide +kernel
theorem dX12_atom_285 : decode cX12_atom 285 = .ok (.goto 23, 3) := by decide +kernel
theorem dX12_atom_269 : decode cX12_atom 269 = .ok (.return_, 1) := by decide +kernel
theorem dX12_atom_208 : decode cX12_atom 208 = .ok (.aload_n 0, 1) := by decide +kernel
theorem dX12_atom_209 : decode cX12_atom 209 = .ok (.getfield 97, 3) := by decide +kernel
theorem dX12_atom_212 : decode cX12_atom 212 = .ok (.iload_n 1, 1) := by decide +kernel
theorem dX12_atom_213 : decode cX12_atom 213 = .ok (.aload_n 0, 1) := by decide +kernel
theorem dX12_atom_214 : decode cX12_atom 214 = .ok (.getfield 343, 3) := by decide +kernel
theorem dX12_atom_217 : decode cX12_atom 217 = .ok (.iastore, 1) := by decide +kernel
theorem dX12_atom_218 : decode cX12_atom 218 = .ok (.aload_n 0, 1) := by decide +kernel
theorem dX12_atom_219 : decode cX12_atom 219 = .ok (.bipush 44, 2) := by decide +kernel
theorem dX12_atom_221 : decode cX12_atom 221 = .ok (.invokevirtual 383, 3) := by decide +kernel
theorem dX12_atom_224 : decode cX12_atom 224 = .ok (.aload_n 0, 1) := by decide +kernel
theorem dX12_atom_225 : decode cX12_atom 225 = .ok (.getfield 94, 3) := by decide +kernel
theorem dX12_atom_228 : decode cX12_atom 228 = .ok (.iload_n 1, 1) := by decide +kernel
theorem dX12_atom_229 : decode cX12_atom 229 = .ok (.iconst 3, 1) := by decide +kernel
theorem dX12_atom_230 : decode cX12_atom 230 = .ok (.iastore, 1) := by decide +kernel
theorem dX12_atom_231 : decode cX12_atom 231 = .ok (.aload_n 0, 1) := by decide +kernel
theorem dX12_atom_232 : decode cX12_atom 232 = .ok (.getfield 294, 3) := by decide +kernel
theorem dX12_atom_235 : decode cX12_atom 235 = .ok (.ifCond .ne 76, 3) := by decide +kernel
theorem dX12_atom_238 : decode cX12_atom 238 = .ok (.aload_n 0, 1) := by decide +kernel
theorem dX12_atom_239 : decode cX12_atom 239 = .ok (.iconst 0, 1) := by decide +kernel
set_option maxRecDepth 20000 in
theorem ggX12_atom_X12_begin : GoodIn wsX12_atom wsX12_begin := goodIn_r _ [67, 68, 50, 1, 9, 6, 88, 89, 90, 91, 92, 93, 94, 95, 96, 97, 98, 99, 100, 101, 102, 103, 104, 105, 106, 107, 108, 109, 110, 111, 112, 113, 114, 115, 116, 117, 118, 119, 120, 121, 122, 123, 124, 125, 126, 127, 128, 129, 130, 131, 132, 133, 134, 135, 136, 137, 138, 139, 140, 141, 142, 143, 144, 145, 146, 147, 148, 149, 150, 151, 152, 153, 154, 155, 156, 157, 158, 159, 160, 161, 162, 163, 164, 165, 166, 167, 168, 169, 170, 171, 172, 173, 174, 175, 176, 177, 178, 179, 180, 181, 182, 183] (by decide +kernel) (by decide +kernel)
set_option maxRecDepth 20000 in
theorem gX12_atom_X12_begin : GoodIn wsX12_atom (wsV RX12 349 RX12 yX12_begin wsX12_begin) := goodIn_app (goodIn_of _ (by decide +kernel)) ggX12_atom_X12_begin
theorem dX12_atom_240 : decode cX12_atom 240 = .ok (.invokevirtual 349, 3) := by decide +kernel
theorem dX12_atom_243 : decode cX12_atom 243 = .ok (.goto 68, 3) := by decide +kernel
theorem dX12_atom_9 : decode cX12_atom 9 = .ok (.aload_n 0, 1) := by decide +kernel
theorem dX12_atom_10 : decode cX12_atom 10 = .ok (.getfield 281, 3) := by decide +kernel
theorem dX12_atom_13 : decode cX12_atom 13 = .ok (.iconst 2, 1) := by decide +kernel
theorem dX12_atom_14 : decode cX12_atom 14 = .ok (.if_icmp .ne 26, 3) := by decide +kernel
theorem dX12_atom_40 : decode cX12_atom 40 = .ok (.aload_n 0, 1) := by decide +kernel
theorem dX12_atom_41 : decode cX12_atom 41 = .ok (.bipush 40, 2) := by decide +kernel
set_option maxRecDepth 20000 in
theorem ggX12_atom_X12_isSign : GoodIn wsX12_atom wsX12_isSign := goodIn_r _ [54, 2, 20, 88, 89, 90, 91, 92, 93, 94, 95, 96, 97, 98, 99, 100, 101, 102, 103, 104, 105, 106, 107, 108, 109, 110, 111, 112, 113, 114, 115, 116, 117, 118, 119, 120, 121, 122, 123, 124, 125, 126, 127, 128, 129, 130, 131, 132, 133, 134, 135, 136, 137, 138, 139, 140, 141, 142, 143, 144, 145, 146, 147, 148, 149, 150, 151, 152, 153, 154, 155, 156, 157, 158, 159, 160, 161, 162, 163, 164, 165, 166, 167, 168, 169, 170, 171, 172, 173, 174, 175, 176, 177, 178, 179, 180, 181, 182, 183] (by decide +kernel) (by decide +kernel)
set_option maxRecDepth 20000 in
theorem gX12_atom_X12_isSign : GoodIn wsX12_atom (wsV RX12 298 RX12 yX12_isSign wsX12_isSign) := goodIn_app (goodIn_of _ (by decide +kernel)) ggX12_atom_X12_isSign
theorem dX12_atom_43 : decode cX12_atom 43 = .ok (.invokevirtual 298, 3) := by decide +kernel
theorem dX12_atom_46 : decode cX12_atom 46 = .ok (.ifCond .eq 22, 3) := by decide +kernel
theorem dX12_atom_49 : decode cX12_atom 49 = .ok (.aload_n 0, 1) := by decide +kernel
set_option maxRecDepth 20000 in
theorem ggX12_atom_X12_opens : GoodIn wsX12_atom wsX12_opens := goodIn_r _ [58, 11, 59, 60, 61, 15, 62, 7, 18, 63, 12, 13, 14, 16, 17, 19, 8, 20, 3, 2, 21, 22, 23, 24, 25, 26, 27, 28, 29, 30, 31, 32, 33, 34, 35, 36, 37, 88, 89, 90, 91, 92, 93, 94, 95, 96, 97, 98, 99, 100, 101, 102, 103, 104, 105, 106, 107, 108, 109, 110, 111, 112, 113, 114, 115, 116, 117, 118, 119, 120, 121, 122, 123, 124, 125, 126, 127, 128, 129, 130, 131, 132, 133, 134, 135, 136, 137, 138, 139, 140, 141, 142, 143, 144, 145, 146, 147, 148, 149, 150, 151, 152, 153, 154, 155, 156, 157, 158, 159, 160, 161, 162, 163, 164, 165, 166, 167, 168, 169, 170, 171, 172, 173, 174, 175, 176, 177, 178, 179, 180, 181, 182, 183] (by decide +kernel) (by decide +kernel)
set_option maxRecDepth 20000 in
theorem gX12_atom_X12_opens : GoodIn wsX12_atom (wsV RX12 372 RX12 yX12_opens wsX12_opens) := goodIn_app (goodIn_of _ (by decide +kernel)) ggX12_atom_X12_opens
theorem dX12_atom_50 : decode cX12_atom 50 = .ok (.invokevirtual 372, 3) := by decide +kernel
theorem dX12_atom_53 : decode cX12_atom 53 = .ok (.aload_n 0, 1) := by decide +kernel
theorem dX12_atom_54 : decode cX12_atom 54 = .ok (.getfield 94, 3) := by decide +kernel
theorem dX12_atom_57 : decode cX12_atom 57 = .ok (.iload_n 1, 1) := by decide +kernel
theorem dX12_atom_58 : decode cX12_atom 58 = .ok (.iconst 1, 1) := by decide +kernel
theorem dX12_atom_59 : decode cX12_atom 59 = .ok (.iastore, 1) := by decide +kernel
theorem dX12_atom_60 : decode cX12_atom 60 = .ok (.aload_n 0, 1) := by decide +kernel
theorem dX12_atom_61 : decode cX12_atom 61 = .ok (.iconst 0, 1) := by decide +kernel
theorem dX12_atom_62 : decode cX12_atom 62 = .ok (.invokevirtual 349, 3) := by decide +kernel
theorem dX12_atom_65 : decode cX12_atom 65 = .ok (.goto 246, 3) := by decide +kernel
theorem dX12_atom_68 : decode cX12_atom 68 = .ok (.aload_n 0, 1) := by decide +kernel
theorem dX12_atom_69 : decode cX12_atom 69 = .ok (.ldc2_w 375, 3) := by decide +kernel
set_option maxRecDepth 20000 in
theorem ggX12_atom_X12_isWord : GoodIn wsX12_atom wsX12_isWord := goodIn_r _ [72, 2, 8, 88, 89, 90, 91, 92, 93, 94, 95, 96, 97, 98, 99, 100, 101, 102, 103, 104, 105, 106, 107, 108, 109, 110, 111, 112, 113, 114, 115, 116, 117, 118, 119, 120, 121, 122, 123, 124, 125, 126, 127, 128, 129, 130, 131, 132, 133, 134, 135, 136, 137, 138, 139, 140, 141, 142, 143, 144, 145, 146, 147, 148, 149, 150, 151, 152, 153, 154, 155, 156, 157, 158, 159, 160, 161, 162, 163, 164, 165, 166, 167, 168, 169, 170, 171, 172, 173, 174, 175, 176, 177, 178, 179, 180, 181, 182, 183] (by decide +kernel) (by decide +kernel)
set_option maxRecDepth 20000 in
theorem gX12_atom_X12_isWord : GoodIn wsX12_atom (wsV RX12 377 RX12 yX12_isWord wsX12_isWord) := goodIn_app (goodIn_of _ (by decide +kernel)) ggX12_atom_X12_isWord
theorem dX12_atom_72 : decode cX12_atom 72 = .ok (.invokevirtual 377, 3) := by decide +kernel
theorem dX12_atom_75 : decode cX12_atom 75 = .ok (.ifCond .ne 13, 3) := by decide +kernel
theorem dX12_atom_88 : decode cX12_atom 88 = .ok (.aload_n 0, 1) := by decide +kernel
theorem dX12_atom_89 : decode cX12_atom 89 = .ok (.getfield 100, 3) := by decide +kernel
theorem dX12_atom_92 : decode cX12_atom 92 = .ok (.iload_n 1, 1) := by decide +kernel
theorem dX12_atom_93 : decode cX12_atom 93 = .ok (.aload_n 0, 1) := by decide +kernel
theorem dX12_atom_94 : decode cX12_atom 94 = .ok (.ldc2_w 375, 3) := by decide +kernel
theorem dX12_atom_97 : decode cX12_atom 97 = .ok (.invokevirtual 377, 3) := by decide +kernel
theorem dX12_atom_100 : decode cX12_atom 100 = .ok (.ifCond .eq 8, 3) := by decide +kernel
theorem dX12_atom_103 : decode cX12_atom 103 = .ok (.bipush 6, 2) := by decide +kernel
theorem dX12_atom_105 : decode cX12_atom 105 = .ok (.goto 5, 3) := by decide +kernel
theorem dX12_atom_110 : decode cX12_atom 110 = .ok (.iastore, 1) := by decide +kernel
theorem dX12_atom_111 : decode cX12_atom 111 = .ok (.aload_n 0, 1) := by decide +kernel
theorem dX12_atom_112 : decode cX12_atom 112 = .ok (.invokevirtual 372, 3) := by decide +kernel
theorem dX12_atom_115 : decode cX12_atom 115 = .ok (.aload_n 0, 1) := by decide +kernel
theorem dX12_atom_116 : decode cX12_atom 116 = .ok (.getfield 294, 3) := by decide +kernel
theorem dX12_atom_119 : decode cX12_atom 119 = .ok (.ifCond .ne 9, 3) := by decide +kernel
theorem dX12_atom_128 : decode cX12_atom 128 = .ok (.aload_n 0, 1) := by decide +kernel
theorem dX12_atom_129 : decode cX12_atom 129 = .ok (.getfield 94, 3) := by decide +kernel
theorem dX12_atom_132 : decode cX12_atom 132 = .ok (.iload_n 1, 1) := by decide +kernel
theorem dX12_atom_133 : decode cX12_atom 133 = .ok (.iconst 2, 1) := by decide +kernel
theorem dX12_atom_134 : decode cX12_atom 134 = .ok (.iastore, 1) := by decide +kernel
theorem dX12_atom_135 : decode cX12_atom 135 = .ok (.aload_n 0, 1) := by decide +kernel
theorem dX12_atom_136 : decode cX12_atom 136 = .ok (.getfield 294, 3) := by decide +kernel
theorem dX12_atom_139 : decode cX12_atom 139 = .ok (.ifCond .ne 172, 3) := by decide +kernel
theorem dX12_atom_122 : decode cX12_atom 122 = .ok (.aload_n 0, 1) := by decide +kernel
theorem dX12_atom_123 : decode cX12_atom 123 = .ok (.bipush 40, 2) := by decide +kernel
theorem dX12_atom_125 : decode cX12_atom 125 = .ok (.invokevirtual 383, 3) := by decide +kernel
theorem dX12_atom_142 : decode cX12_atom 142 = .ok (.aload_n 0, 1) := by decide +kernel
theorem dX12_atom_143 : decode cX12_atom 143 = .ok (.iconst 0, 1) := by decide +kernel
theorem dX12_atom_144 : decode cX12_atom 144 = .ok (.invokevirtual 349, 3) := by decide +kernel
theorem dX12_atom_147 : decode cX12_atom 147 = .ok (.goto 164, 3) := by decide +kernel
theorem dX12_atom_108 : decode cX12_atom 108 = .ok (.bipush 7, 2) := by decide +kernel
theorem dX12_atom_78 : decode cX12_atom 78 = .ok (.aload_n 0, 1) := by decide +kernel
theorem dX12_atom_79 : decode cX12_atom 79 = .ok (.ldc2_w 381, 3) := by decide +kernel
theorem dX12_atom_82 : decode cX12_atom 82 = .ok (.invokevirtual 377, 3) := by decide +kernel
theorem dX12_atom_85 : decode cX12_atom 85 = .ok (.ifCond .eq 65, 3) := by decide +kernel
theorem dX12_atom_150 : decode cX12_atom 150 = .ok (.aload_n 0, 1) := by decide +kernel
theorem dX12_atom_151 : decode cX12_atom 151 = .ok (.getfield 281, 3) := by decide +kernel
theorem dX12_atom_154 : decode cX12_atom 154 = .ok (.iconst 1, 1) := by decide +kernel
theorem dX12_atom_155 : decode cX12_atom 155 = .ok (.if_icmp .ne 14, 3) := by decide +kernel
theorem dX12_atom_169 : decode cX12_atom 169 = .ok (.iconst (-1), 1) := by decide +kernel
theorem dX12_atom_170 : decode cX12_atom 170 = .ok (.istore_n 2, 1) := by decide +kernel
theorem dX12_atom_171 : decode cX12_atom 171 = .ok (.iload_n 2, 1) := by decide +kernel
theorem dX12_atom_172 : decode cX12_atom 172 = .ok (.ifCond .ge 8, 3) := by decide +kernel
theorem dX12_atom_175 : decode cX12_atom 175 = .ok (.aload_n 0, 1) := by decide +kernel
set_option maxRecDepth 20000 in
theorem ggX12_atom_X12_errs : GoodIn wsX12_atom wsX12_errs := goodIn_r _ [62, 7, 18, 63, 88, 89, 90, 91, 92, 93, 94, 95, 96, 97, 98, 99, 100, 101, 102, 103, 104, 105, 106, 107, 108, 109, 110, 111, 112, 113, 114, 115, 116, 117, 118, 119, 120, 121, 122, 123, 124, 125, 126, 127, 128, 129, 130, 131, 132, 133, 134, 135, 136, 137, 138, 139, 140, 141, 142, 143, 144, 145, 146, 147, 148, 149, 150, 151, 152, 153, 154, 155, 156, 157, 158, 159, 160, 161, 162, 163, 164, 165, 166, 167, 168, 169, 170, 171, 172, 173, 174, 175, 176, 177, 178, 179, 180, 181, 182, 183] (by decide +kernel) (by decide +kernel)
set_option maxRecDepth 20000 in
theorem gX12_atom_X12_errs : GoodIn wsX12_atom (wsV RX12 304 RX12 yX12_errs wsX12_errs) := goodIn_app (goodIn_of _ (by decide +kernel)) ggX12_atom_X12_errs
theorem dX12_atom_176 : decode cX12_atom 176 = .ok (.invokevirtual 304, 3) := by decide +kernel
theorem dX12_atom_179 : decode cX12_atom 179 = .ok (.return_, 1) := by decide +kernel
theorem dX12_atom_158 : decode cX12_atom 158 = .ok (.aload_n 0, 1) := by decide +kernel
theorem dX12_atom_159 : decode cX12_atom 159 = .ok (.aload_n 0, 1) := by decide +kernel
theorem dX12_atom_160 : decode cX12_atom 160 = .ok (.getfield 271, 3) := by decide +kernel
set_option maxRecDepth 20000 in
theorem ggX12_atom_X12_nameOf : GoodIn wsX12_atom wsX12_nameOf := goodIn_r _ [80, 81, 82, 83, 84, 85, 86, 87] (by decide +kernel) (by decide +kernel)
set_option maxRecDepth 20000 in
theorem gX12_atom_X12_nameOf : GoodIn wsX12_atom (wsV RX12 386 RX12 yX12_nameOf wsX12_nameOf) := goodIn_app (goodIn_of _ (by decide +kernel)) ggX12_atom_X12_nameOf
theorem dX12_atom_163 : decode cX12_atom 163 = .ok (.invokevirtual 386, 3) := by decide +kernel
theorem dX12_atom_166 : decode cX12_atom 166 = .ok (.goto 4, 3) := by decide +kernel
theorem dX12_atom_180 : decode cX12_atom 180 = .ok (.aload_n 0, 1) := by decide +kernel
set_option maxRecDepth 20000 in
theorem ggX12_atom_X12_next : GoodIn wsX12_atom wsX12_next := goodIn_r _ [16, 17, 18, 19, 8, 20, 3, 2, 21, 22, 23, 24, 25, 15, 26, 27, 28, 29, 30, 31, 32, 33, 34, 35, 36, 37, 88, 89, 90, 91, 92, 93, 94, 95, 96, 97, 98, 99, 100, 101, 102, 103, 104, 105, 106, 107, 108, 109, 110, 111, 112, 113, 114, 115, 116, 117, 118, 119, 120, 121, 122, 123, 124, 125, 126, 127, 128, 129, 130, 131, 132, 133, 134, 135, 136, 137, 138, 139, 140, 141, 142, 143, 144, 145, 146, 147, 148, 149, 150, 151, 152, 153, 154, 155, 156, 157, 158, 159, 160, 161, 162, 163, 164, 165, 166, 167, 168, 169, 170, 171, 172, 173, 174, 175, 176, 177, 178, 179, 180, 181, 182, 183] (by decide +kernel) (by decide +kernel)
set_option maxRecDepth 20000 in
theorem gX12_atom_X12_next : GoodIn wsX12_atom (wsV RX12 301 RX12 yX12_next wsX12_next) := goodIn_app (goodIn_of _ (by decide +kernel)) ggX12_atom_X12_next
theorem dX12_atom_181 : decode cX12_atom 181 = .ok (.invokevirtual 301, 3) := by decide +kernel
theorem dX12_atom_184 : decode cX12_atom 184 = .ok (.aload_n 0, 1) := by decide +kernel
theorem dX12_atom_185 : decode cX12_atom 185 = .ok (.aload_n 0, 1) := by decide +kernel
theorem dX12_atom_186 : decode cX12_atom 186 = .ok (.iconst 1, 1) := by decide +kernel
theorem dX12_atom_187 : decode cX12_atom 187 = .ok (.iload_n 2, 1) := by decide +kernel
theorem dX12_atom_188 : decode cX12_atom 188 = .ok (.iconst 0, 1) := by decide +kernel
theorem dX12_atom_189 : decode cX12_atom 189 = .ok (.invokevirtual 366, 3) := by decide +kernel
theorem dX12_atom_192 : decode cX12_atom 192 = .ok (.invokevirtual 369, 3) := by decide +kernel
theorem dX12_atom_195 : decode cX12_atom 195 = .ok (.goto 116, 3) := by decide +kernel
theorem dX12_atom_17 : decode cX12_atom 17 = .ok (.aload_n 0, 1) := by decide +kernel
theorem dX12_atom_18 : decode cX12_atom 18 = .ok (.getfield 278, 3) := by decide +kernel
theorem dX12_atom_21 : decode cX12_atom 21 = .ok (.istore_n 2, 1) := by decide +kernel
theorem dX12_atom_22 : decode cX12_atom 22 = .ok (.aload_n 0, 1) := by decide +kernel
theorem dX12_atom_23 : decode cX12_atom 23 = .ok (.invokevirtual 301, 3) := by decide +kernel
theorem dX12_atom_26 : decode cX12_atom 26 = .ok (.aload_n 0, 1) := by decide +kernel
theorem dX12_atom_27 : decode cX12_atom 27 = .ok (.aload_n 0, 1) := by decide +kernel
theorem dX12_atom_28 : decode cX12_atom 28 = .ok (.iconst 0, 1) := by decide +kernel
theorem dX12_atom_29 : decode cX12_atom 29 = .ok (.iload_n 2, 1) := by decide +kernel
theorem dX12_atom_30 : decode cX12_atom 30 = .ok (.iconst 0, 1) := by decide +kernel
theorem dX12_atom_31 : decode cX12_atom 31 = .ok (.invokevirtual 366, 3) := by decide +kernel
theorem dX12_atom_34 : decode cX12_atom 34 = .ok (.invokevirtual 369, 3) := by decide +kernel
theorem dX12_atom_37 : decode cX12_atom 37 = .ok (.goto 274, 3) := by decide +kernel
theorem dX12_chain_0 : decode cX12_chain 0 = .ok (.aload_n 0, 1) := by decide +kernel
theorem dX12_chain_1 : decode cX12_chain 1 = .ok (.getfield 94, 3) := by decide +kernel
theorem dX12_chain_4 : decode cX12_chain 4 = .ok (.iload_n 1, 1) := by decide +kernel
theorem dX12_chain_5 : decode cX12_chain 5 = .ok (.iaload, 1) := by decide +kernel
theorem dX12_chain_6 : decode cX12_chain 6 = .ok (.ifCond .ne 24, 3) := by decide +kernel
theorem dX12_chain_30 : decode cX12_chain 30 = .ok (.aload_n 0, 1) := by decide +kernel
theorem dX12_chain_31 : decode cX12_chain 31 = .ok (.getfield 97, 3) := by decide +kernel
theorem dX12_chain_34 : decode cX12_chain 34 = .ok (.iload_n 1, 1) := by decide +kernel
theorem dX12_chain_35 : decode cX12_chain 35 = .ok (.aload_n 0, 1) := by decide +kernel
theorem dX12_chain_36 : decode cX12_chain 36 = .ok (.getfield 97, 3) := by decide +kernel
theorem dX12_chain_39 : decode cX12_chain 39 = .ok (.iload_n 1, 1) := by decide +kernel
theorem dX12_chain_40 : decode cX12_chain 40 = .ok (.iaload, 1) := by decide +kernel
theorem dX12_chain_41 : decode cX12_chain 41 = .ok (.ifCond .ge 10, 3) := by decide +kernel
theorem dX12_chain_51 : decode cX12_chain 51 = .ok (.aload_n 0, 1) := by decide +kernel
theorem dX12_chain_52 : decode cX12_chain 52 = .ok (.iload_n 2, 1) := by decide +kernel
theorem dX12_chain_53 : decode cX12_chain 53 = .ok (.ifCond .eq 8, 3) := by decide +kernel
theorem dX12_chain_56 : decode cX12_chain 56 = .ok (.bipush 13, 2) := by decide +kernel
theorem dX12_chain_58 : decode cX12_chain 58 = .ok (.goto 5, 3) := by decide +kernel
theorem dX12_chain_63 : decode cX12_chain 63 = .ok (.aload_n 0, 1) := by decide +kernel
theorem dX12_chain_64 : decode cX12_chain 64 = .ok (.getfield 97, 3) := by decide +kernel
theorem dX12_chain_67 : decode cX12_chain 67 = .ok (.iload_n 1, 1) := by decide +kernel
theorem dX12_chain_68 : decode cX12_chain 68 = .ok (.iaload, 1) := by decide +kernel
theorem dX12_chain_69 : decode cX12_chain 69 = .ok (.aload_n 0, 1) := by decide +kernel
theorem dX12_chain_70 : decode cX12_chain 70 = .ok (.getfield 343, 3) := by decide +kernel
set_option maxRecDepth 20000 in
theorem ggX12_chain_X12_node : GoodIn wsX12_chain wsX12_node := goodIn_r _ [17, 18, 19, 20, 21, 58, 59, 60, 61, 62, 63, 64, 65, 66, 67, 68, 69, 70, 71, 72, 73, 74, 75, 76, 77, 78, 79, 80, 81, 82, 83, 84, 85, 86, 87, 88, 89, 90, 91, 92, 93, 94, 95, 96, 97, 98, 99, 100, 101, 102, 103, 104, 105, 106, 107, 108, 109, 110, 111, 112, 113, 114, 115, 116, 117, 118, 119, 120, 121, 122, 123, 124, 125, 126, 127, 128, 129, 130, 131, 132, 133, 134, 135, 136, 137, 138, 139, 140, 141, 142, 143, 144, 145, 146, 147, 148, 149, 150, 151, 152, 153] (by decide +kernel) (by decide +kernel)
set_option maxRecDepth 20000 in
theorem gX12_chain_X12_node : GoodIn wsX12_chain (wsV RX12 366 RX12 yX12_node wsX12_node) := goodIn_app (goodIn_of _ (by decide +kernel)) ggX12_chain_X12_node
theorem dX12_chain_73 : decode cX12_chain 73 = .ok (.invokevirtual 366, 3) := by decide +kernel
theorem dX12_chain_76 : decode cX12_chain 76 = .ok (.iastore, 1) := by decide +kernel
theorem dX12_chain_77 : decode cX12_chain 77 = .ok (.aload_n 0, 1) := by decide +kernel
theorem dX12_chain_78 : decode cX12_chain 78 = .ok (.iload_n 2, 1) := by decide +kernel
theorem dX12_chain_79 : decode cX12_chain 79 = .ok (.ifCond .eq 9, 3) := by decide +kernel
theorem dX12_chain_82 : decode cX12_chain 82 = .ok (.ldc2_w 390, 3) := by decide +kernel
theorem dX12_chain_85 : decode cX12_chain 85 = .ok (.goto 6, 3) := by decide +kernel
set_option maxRecDepth 20000 in
theorem ggX12_chain_X12_isWord : GoodIn wsX12_chain wsX12_isWord := goodIn_r _ [25, 26, 27, 58, 59, 60, 61, 62, 63, 64, 65, 66, 67, 68, 69, 70, 71, 72, 73, 74, 75, 76, 77, 78, 79, 80, 81, 82, 83, 84, 85, 86, 87, 88, 89, 90, 91, 92, 93, 94, 95, 96, 97, 98, 99, 100, 101, 102, 103, 104, 105, 106, 107, 108, 109, 110, 111, 112, 113, 114, 115, 116, 117, 118, 119, 120, 121, 122, 123, 124, 125, 126, 127, 128, 129, 130, 131, 132, 133, 134, 135, 136, 137, 138, 139, 140, 141, 142, 143, 144, 145, 146, 147, 148, 149, 150, 151, 152, 153] (by decide +kernel) (by decide +kernel)
set_option maxRecDepth 20000 in
theorem gX12_chain_X12_isWord : GoodIn wsX12_chain (wsV RX12 377 RX12 yX12_isWord wsX12_isWord) := goodIn_app (goodIn_of _ (by decide +kernel)) ggX12_chain_X12_isWord
theorem dX12_chain_91 : decode cX12_chain 91 = .ok (.invokevirtual 377, 3) := by decide +kernel
theorem dX12_chain_94 : decode cX12_chain 94 = .ok (.ifCond .eq 23, 3) := by decide +kernel
theorem dX12_chain_97 : decode cX12_chain 97 = .ok (.aload_n 0, 1) := by decide +kernel
set_option maxRecDepth 20000 in
theorem ggX12_chain_X12_next : GoodIn wsX12_chain wsX12_next := goodIn_r _ [31, 32, 33, 34, 27, 35, 36, 26, 37, 38, 39, 40, 41, 9, 42, 43, 44, 45, 46, 47, 48, 49, 50, 51, 52, 53, 58, 59, 60, 61, 62, 63, 64, 65, 66, 67, 68, 69, 70, 71, 72, 73, 74, 75, 76, 77, 78, 79, 80, 81, 82, 83, 84, 85, 86, 87, 88, 89, 90, 91, 92, 93, 94, 95, 96, 97, 98, 99, 100, 101, 102, 103, 104, 105, 106, 107, 108, 109, 110, 111, 112, 113, 114, 115, 116, 117, 118, 119, 120, 121, 122, 123, 124, 125, 126, 127, 128, 129, 130, 131, 132, 133, 134, 135, 136, 137, 138, 139, 140, 141, 142, 143, 144, 145, 146, 147, 148, 149, 150, 151, 152, 153] (by decide +kernel) (by decide +kernel)
set_option maxRecDepth 20000 in
theorem gX12_chain_X12_next : GoodIn wsX12_chain (wsV RX12 301 RX12 yX12_next wsX12_next) := goodIn_app (goodIn_of _ (by decide +kernel)) ggX12_chain_X12_next
theorem dX12_chain_98 : decode cX12_chain 98 = .ok (.invokevirtual 301, 3) := by decide +kernel
theorem dX12_chain_101 : decode cX12_chain 101 = .ok (.aload_n 0, 1) := by decide +kernel
theorem dX12_chain_102 : decode cX12_chain 102 = .ok (.iload_n 2, 1) := by decide +kernel
theorem dX12_chain_103 : decode cX12_chain 103 = .ok (.ifCond .eq 7, 3) := by decide +kernel
theorem dX12_chain_106 : decode cX12_chain 106 = .ok (.iconst 4, 1) := by decide +kernel
theorem dX12_chain_107 : decode cX12_chain 107 = .ok (.goto 4, 3) := by decide +kernel
set_option maxRecDepth 20000 in
theorem ggX12_chain_X12_begin : GoodIn wsX12_chain wsX12_begin := goodIn_r _ [10, 11, 12, 1, 2, 13, 58, 59, 60, 61, 62, 63, 64, 65, 66, 67, 68, 69, 70, 71, 72, 73, 74, 75, 76, 77, 78, 79, 80, 81, 82, 83, 84, 85, 86, 87, 88, 89, 90, 91, 92, 93, 94, 95, 96, 97, 98, 99, 100, 101, 102, 103, 104, 105, 106, 107, 108, 109, 110, 111, 112, 113, 114, 115, 116, 117, 118, 119, 120, 121, 122, 123, 124, 125, 126, 127, 128, 129, 130, 131, 132, 133, 134, 135, 136, 137, 138, 139, 140, 141, 142, 143, 144, 145, 146, 147, 148, 149, 150, 151, 152, 153] (by decide +kernel) (by decide +kernel)
set_option maxRecDepth 20000 in
theorem gX12_chain_X12_begin : GoodIn wsX12_chain (wsV RX12 349 RX12 yX12_begin wsX12_begin) := goodIn_app (goodIn_of _ (by decide +kernel)) ggX12_chain_X12_begin
theorem dX12_chain_111 : decode cX12_chain 111 = .ok (.invokevirtual 349, 3) := by decide +kernel
theorem dX12_chain_114 : decode cX12_chain 114 = .ok (.goto 13, 3) := by decide +kernel
theorem dX12_chain_127 : decode cX12_chain 127 = .ok (.return_, 1) := by decide +kernel
theorem dX12_chain_117 : decode cX12_chain 117 = .ok (.aload_n 0, 1) := by decide +kernel
theorem dX12_chain_118 : decode cX12_chain 118 = .ok (.aload_n 0, 1) := by decide +kernel
theorem dX12_chain_119 : decode cX12_chain 119 = .ok (.getfield 97, 3) := by decide +kernel
theorem dX12_chain_122 : decode cX12_chain 122 = .ok (.iload_n 1, 1) := by decide +kernel
theorem dX12_chain_123 : decode cX12_chain 123 = .ok (.iaload, 1) := by decide +kernel
set_option maxRecDepth 20000 in
theorem ggX12_chain_X12_ends : GoodIn wsX12_chain wsX12_ends := goodIn_r _ [57, 3, 12, 58, 59, 60, 61, 62, 63, 64, 65, 66, 67, 68, 69, 70, 71, 72, 73, 74, 75, 76, 77, 78, 79, 80, 81, 82, 83, 84, 85, 86, 87, 88, 89, 90, 91, 92, 93, 94, 95, 96, 97, 98, 99, 100, 101, 102, 103, 104, 105, 106, 107, 108, 109, 110, 111, 112, 113, 114, 115, 116, 117, 118, 119, 120, 121, 122, 123, 124, 125, 126, 127, 128, 129, 130, 131, 132, 133, 134, 135, 136, 137, 138, 139, 140, 141, 142, 143, 144, 145, 146, 147, 148, 149, 150, 151, 152, 153] (by decide +kernel) (by decide +kernel)
set_option maxRecDepth 20000 in
theorem gX12_chain_X12_ends : GoodIn wsX12_chain (wsV RX12 369 RX12 yX12_ends wsX12_ends) := goodIn_app (goodIn_of _ (by decide +kernel)) ggX12_chain_X12_ends
theorem dX12_chain_124 : decode cX12_chain 124 = .ok (.invokevirtual 369, 3) := by decide +kernel
theorem dX12_chain_44 : decode cX12_chain 44 = .ok (.aload_n 0, 1) := by decide +kernel
theorem dX12_chain_45 : decode cX12_chain 45 = .ok (.getfield 343, 3) := by decide +kernel
theorem dX12_chain_48 : decode cX12_chain 48 = .ok (.goto 28, 3) := by decide +kernel
theorem dX12_chain_9 : decode cX12_chain 9 = .ok (.aload_n 0, 1) := by decide +kernel
theorem dX12_chain_10 : decode cX12_chain 10 = .ok (.getfield 94, 3) := by decide +kernel
theorem dX12_chain_13 : decode cX12_chain 13 = .ok (.iload_n 1, 1) := by decide +kernel
theorem dX12_chain_14 : decode cX12_chain 14 = .ok (.iconst 1, 1) := by decide +kernel
theorem dX12_chain_15 : decode cX12_chain 15 = .ok (.iastore, 1) := by decide +kernel
theorem dX12_chain_16 : decode cX12_chain 16 = .ok (.aload_n 0, 1) := by decide +kernel
theorem dX12_chain_17 : decode cX12_chain 17 = .ok (.iload_n 2, 1) := by decide +kernel
theorem dX12_chain_18 : decode cX12_chain 18 = .ok (.ifCond .eq 7, 3) := by decide +kernel
theorem dX12_chain_21 : decode cX12_chain 21 = .ok (.iconst 4, 1) := by decide +kernel
theorem dX12_chain_22 : decode cX12_chain 22 = .ok (.goto 4, 3) := by decide +kernel
theorem dX12_chain_26 : decode cX12_chain 26 = .ok (.invokevirtual 349, 3) := by decide +kernel
theorem dX12_chain_29 : decode cX12_chain 29 = .ok (.return_, 1) := by decide +kernel
theorem dX12_chain_61 : decode cX12_chain 61 = .ok (.bipush 12, 2) := by decide +kernel
theorem dX12_chain_88 : decode cX12_chain 88 = .ok (.ldc2_w 392, 3) := by decide +kernel
theorem dX12_chain_110 : decode cX12_chain 110 = .ok (.iconst 5, 1) := by decide +kernel
theorem dX12_chain_25 : decode cX12_chain 25 = .ok (.iconst 5, 1) := by decide +kernel
theorem dX12_test_0 : decode cX12_test 0 = .ok (.aload_n 0, 1) := by decide +kernel
theorem dX12_test_1 : decode cX12_test 1 = .ok (.getfield 94, 3) := by decide +kernel
theorem dX12_test_4 : decode cX12_test 4 = .ok (.iload_n 1, 1) := by decide +kernel
theorem dX12_test_5 : decode cX12_test 5 = .ok (.iaload, 1) := by decide +kernel
theorem dX12_test_6 : decode cX12_test 6 = .ok (.ifCond .ne 75, 3) := by decide +kernel
theorem dX12_test_81 : decode cX12_test 81 = .ok (.aload_n 0, 1) := by decide +kernel
theorem dX12_test_82 : decode cX12_test 82 = .ok (.getfield 94, 3) := by decide +kernel
theorem dX12_test_85 : decode cX12_test 85 = .ok (.iload_n 1, 1) := by decide +kernel
theorem dX12_test_86 : decode cX12_test 86 = .ok (.iaload, 1) := by decide +kernel
theorem dX12_test_87 : decode cX12_test 87 = .ok (.iconst 1, 1) := by decide +kernel
theorem dX12_test_88 : decode cX12_test 88 = .ok (.if_icmp .ne 31, 3) := by decide +kernel
theorem dX12_test_119 : decode cX12_test 119 = .ok (.aload_n 0, 1) := by decide +kernel
theorem dX12_test_120 : decode cX12_test 120 = .ok (.getfield 94, 3) := by decide +kernel
theorem dX12_test_123 : decode cX12_test 123 = .ok (.iload_n 1, 1) := by decide +kernel
theorem dX12_test_124 : decode cX12_test 124 = .ok (.iaload, 1) := by decide +kernel
theorem dX12_test_125 : decode cX12_test 125 = .ok (.iconst 2, 1) := by decide +kernel
theorem dX12_test_126 : decode cX12_test 126 = .ok (.if_icmp .ne 37, 3) := by decide +kernel
theorem dX12_test_163 : decode cX12_test 163 = .ok (.aload_n 0, 1) := by decide +kernel
theorem dX12_test_164 : decode cX12_test 164 = .ok (.getfield 94, 3) := by decide +kernel
theorem dX12_test_167 : decode cX12_test 167 = .ok (.iload_n 1, 1) := by decide +kernel
theorem dX12_test_168 : decode cX12_test 168 = .ok (.iaload, 1) := by decide +kernel
theorem dX12_test_169 : decode cX12_test 169 = .ok (.iconst 3, 1) := by decide +kernel
theorem dX12_test_170 : decode cX12_test 170 = .ok (.if_icmp .ne 95, 3) := by decide +kernel
theorem dX12_test_265 : decode cX12_test 265 = .ok (.aload_n 0, 1) := by decide +kernel
theorem dX12_test_266 : decode cX12_test 266 = .ok (.aload_n 0, 1) := by decide +kernel
theorem dX12_test_267 : decode cX12_test 267 = .ok (.aload_n 0, 1) := by decide +kernel
theorem dX12_test_268 : decode cX12_test 268 = .ok (.getfield 100, 3) := by decide +kernel
theorem dX12_test_271 : decode cX12_test 271 = .ok (.iload_n 1, 1) := by decide +kernel
theorem dX12_test_272 : decode cX12_test 272 = .ok (.iaload, 1) := by decide +kernel
theorem dX12_test_273 : decode cX12_test 273 = .ok (.aload_n 0, 1) := by decide +kernel
theorem dX12_test_274 : decode cX12_test 274 = .ok (.getfield 97, 3) := by decide +kernel
theorem dX12_test_277 : decode cX12_test 277 = .ok (.iload_n 1, 1) := by decide +kernel
theorem dX12_test_278 : decode cX12_test 278 = .ok (.iaload, 1) := by decide +kernel
theorem dX12_test_279 : decode cX12_test 279 = .ok (.aload_n 0, 1) := by decide +kernel
theorem dX12_test_280 : decode cX12_test 280 = .ok (.getfield 343, 3) := by decide +kernel
set_option maxRecDepth 20000 in
theorem ggX12_test_X12_node : GoodIn wsX12_test wsX12_node := goodIn_r _ [63, 64, 65, 66, 67, 76, 77, 78, 79, 80, 81, 82, 83, 84, 85, 86, 87, 88, 89, 90, 91, 92, 93, 94, 95, 96, 97, 98, 99, 100, 101, 102, 103, 104, 105, 106, 107, 108, 109, 110, 111, 112, 113, 114, 115, 116, 117, 118, 119, 120, 121, 122, 123, 124, 125, 126, 127, 128, 129, 130, 131, 132, 133, 134, 135, 136, 137, 138, 139, 140, 141, 142, 143, 144, 145, 146, 147, 148, 149, 150, 151, 152, 153, 154, 155, 156, 157, 158, 159, 160, 161, 162, 163, 164, 165, 166, 167, 168, 169, 170, 171] (by decide +kernel) (by decide +kernel)
set_option maxRecDepth 20000 in
theorem gX12_test_X12_node : GoodIn wsX12_test (wsV RX12 366 RX12 yX12_node wsX12_node) := goodIn_app (goodIn_of _ (by decide +kernel)) ggX12_test_X12_node
theorem dX12_test_283 : decode cX12_test 283 = .ok (.invokevirtual 366, 3) := by decide +kernel
set_option maxRecDepth 20000 in
theorem ggX12_test_X12_ends : GoodIn wsX12_test wsX12_ends := goodIn_r _ [71, 4, 55, 76, 77, 78, 79, 80, 81, 82, 83, 84, 85, 86, 87, 88, 89, 90, 91, 92, 93, 94, 95, 96, 97, 98, 99, 100, 101, 102, 103, 104, 105, 106, 107, 108, 109, 110, 111, 112, 113, 114, 115, 116, 117, 118, 119, 120, 121, 122, 123, 124, 125, 126, 127, 128, 129, 130, 131, 132, 133, 134, 135, 136, 137, 138, 139, 140, 141, 142, 143, 144, 145, 146, 147, 148, 149, 150, 151, 152, 153, 154, 155, 156, 157, 158, 159, 160, 161, 162, 163, 164, 165, 166, 167, 168, 169, 170, 171] (by decide +kernel) (by decide +kernel)
set_option maxRecDepth 20000 in
theorem gX12_test_X12_ends : GoodIn wsX12_test (wsV RX12 369 RX12 yX12_ends wsX12_ends) := goodIn_app (goodIn_of _ (by decide +kernel)) ggX12_test_X12_ends
theorem dX12_test_286 : decode cX12_test 286 = .ok (.invokevirtual 369, 3) := by decide +kernel
theorem dX12_test_289 : decode cX12_test 289 = .ok (.return_, 1) := by decide +kernel
theorem dX12_test_173 : decode cX12_test 173 = .ok (.aload_n 0, 1) := by decide +kernel
theorem dX12_test_174 : decode cX12_test 174 = .ok (.getfield 97, 3) := by decide +kernel
theorem dX12_test_177 : decode cX12_test 177 = .ok (.iload_n 1, 1) := by decide +kernel
theorem dX12_test_178 : decode cX12_test 178 = .ok (.aload_n 0, 1) := by decide +kernel
theorem dX12_test_179 : decode cX12_test 179 = .ok (.getfield 343, 3) := by decide +kernel
theorem dX12_test_182 : decode cX12_test 182 = .ok (.iastore, 1) := by decide +kernel
theorem dX12_test_183 : decode cX12_test 183 = .ok (.aload_n 0, 1) := by decide +kernel
theorem dX12_test_184 : decode cX12_test 184 = .ok (.getfield 100, 3) := by decide +kernel
theorem dX12_test_187 : decode cX12_test 187 = .ok (.iload_n 1, 1) := by decide +kernel
theorem dX12_test_188 : decode cX12_test 188 = .ok (.aload_n 0, 1) := by decide +kernel
theorem dX12_test_189 : decode cX12_test 189 = .ok (.bipush 60, 2) := by decide +kernel
set_option maxRecDepth 20000 in
theorem ggX12_test_X12_isSign : GoodIn wsX12_test wsX12_isSign := goodIn_r _ [59, 13, 31, 76, 77, 78, 79, 80, 81, 82, 83, 84, 85, 86, 87, 88, 89, 90, 91, 92, 93, 94, 95, 96, 97, 98, 99, 100, 101, 102, 103, 104, 105, 106, 107, 108, 109, 110, 111, 112, 113, 114, 115, 116, 117, 118, 119, 120, 121, 122, 123, 124, 125, 126, 127, 128, 129, 130, 131, 132, 133, 134, 135, 136, 137, 138, 139, 140, 141, 142, 143, 144, 145, 146, 147, 148, 149, 150, 151, 152, 153, 154, 155, 156, 157, 158, 159, 160, 161, 162, 163, 164, 165, 166, 167, 168, 169, 170, 171] (by decide +kernel) (by decide +kernel)
set_option maxRecDepth 20000 in
theorem gX12_test_X12_isSign : GoodIn wsX12_test (wsV RX12 298 RX12 yX12_isSign wsX12_isSign) := goodIn_app (goodIn_of _ (by decide +kernel)) ggX12_test_X12_isSign
theorem dX12_test_191 : decode cX12_test 191 = .ok (.invokevirtual 298, 3) := by decide +kernel
theorem dX12_test_194 : decode cX12_test 194 = .ok (.ifCond .eq 8, 3) := by decide +kernel
theorem dX12_test_197 : decode cX12_test 197 = .ok (.bipush 8, 2) := by decide +kernel
theorem dX12_test_199 : decode cX12_test 199 = .ok (.goto 32, 3) := by decide +kernel
theorem dX12_test_231 : decode cX12_test 231 = .ok (.iastore, 1) := by decide +kernel
theorem dX12_test_232 : decode cX12_test 232 = .ok (.aload_n 0, 1) := by decide +kernel
theorem dX12_test_233 : decode cX12_test 233 = .ok (.getfield 100, 3) := by decide +kernel
theorem dX12_test_236 : decode cX12_test 236 = .ok (.iload_n 1, 1) := by decide +kernel
theorem dX12_test_237 : decode cX12_test 237 = .ok (.iaload, 1) := by decide +kernel
theorem dX12_test_238 : decode cX12_test 238 = .ok (.ifCond .ne 8, 3) := by decide +kernel
theorem dX12_test_246 : decode cX12_test 246 = .ok (.aload_n 0, 1) := by decide +kernel
set_option maxRecDepth 20000 in
theorem ggX12_test_X12_next : GoodIn wsX12_test wsX12_next := goodIn_r _ [28, 29, 23, 30, 14, 31, 32, 13, 33, 34, 35, 36, 37, 11, 38, 39, 40, 41, 42, 43, 44, 45, 46, 47, 48, 49, 76, 77, 78, 79, 80, 81, 82, 83, 84, 85, 86, 87, 88, 89, 90, 91, 92, 93, 94, 95, 96, 97, 98, 99, 100, 101, 102, 103, 104, 105, 106, 107, 108, 109, 110, 111, 112, 113, 114, 115, 116, 117, 118, 119, 120, 121, 122, 123, 124, 125, 126, 127, 128, 129, 130, 131, 132, 133, 134, 135, 136, 137, 138, 139, 140, 141, 142, 143, 144, 145, 146, 147, 148, 149, 150, 151, 152, 153, 154, 155, 156, 157, 158, 159, 160, 161, 162, 163, 164, 165, 166, 167, 168, 169, 170, 171] (by decide +kernel) (by decide +kernel)
set_option maxRecDepth 20000 in
theorem gX12_test_X12_next : GoodIn wsX12_test (wsV RX12 301 RX12 yX12_next wsX12_next) := goodIn_app (goodIn_of _ (by decide +kernel)) ggX12_test_X12_next
theorem dX12_test_247 : decode cX12_test 247 = .ok (.invokevirtual 301, 3) := by decide +kernel
theorem dX12_test_250 : decode cX12_test 250 = .ok (.aload_n 0, 1) := by decide +kernel
theorem dX12_test_251 : decode cX12_test 251 = .ok (.getfield 94, 3) := by decide +kernel
theorem dX12_test_254 : decode cX12_test 254 = .ok (.iload_n 1, 1) := by decide +kernel
theorem dX12_test_255 : decode cX12_test 255 = .ok (.iconst 4, 1) := by decide +kernel
theorem dX12_test_256 : decode cX12_test 256 = .ok (.iastore, 1) := by decide +kernel
theorem dX12_test_257 : decode cX12_test 257 = .ok (.aload_n 0, 1) := by decide +kernel
theorem dX12_test_258 : decode cX12_test 258 = .ok (.iconst 0, 1) := by decide +kernel
set_option maxRecDepth 20000 in
theorem ggX12_test_X12_begin : GoodIn wsX12_test wsX12_begin := goodIn_r _ [53, 54, 55, 1, 6, 7, 76, 77, 78, 79, 80, 81, 82, 83, 84, 85, 86, 87, 88, 89, 90, 91, 92, 93, 94, 95, 96, 97, 98, 99, 100, 101, 102, 103, 104, 105, 106, 107, 108, 109, 110, 111, 112, 113, 114, 115, 116, 117, 118, 119, 120, 121, 122, 123, 124, 125, 126, 127, 128, 129, 130, 131, 132, 133, 134, 135, 136, 137, 138, 139, 140, 141, 142, 143, 144, 145, 146, 147, 148, 149, 150, 151, 152, 153, 154, 155, 156, 157, 158, 159, 160, 161, 162, 163, 164, 165, 166, 167, 168, 169, 170, 171] (by decide +kernel) (by decide +kernel)
set_option maxRecDepth 20000 in
theorem gX12_test_X12_begin : GoodIn wsX12_test (wsV RX12 349 RX12 yX12_begin wsX12_begin) := goodIn_app (goodIn_of _ (by decide +kernel)) ggX12_test_X12_begin
theorem dX12_test_259 : decode cX12_test 259 = .ok (.invokevirtual 349, 3) := by decide +kernel
theorem dX12_test_262 : decode cX12_test 262 = .ok (.goto 27, 3) := by decide +kernel
theorem dX12_test_202 : decode cX12_test 202 = .ok (.aload_n 0, 1) := by decide +kernel
theorem dX12_test_203 : decode cX12_test 203 = .ok (.bipush 62, 2) := by decide +kernel
theorem dX12_test_205 : decode cX12_test 205 = .ok (.invokevirtual 298, 3) := by decide +kernel
theorem dX12_test_208 : decode cX12_test 208 = .ok (.ifCond .eq 8, 3) := by decide +kernel
theorem dX12_test_211 : decode cX12_test 211 = .ok (.bipush 9, 2) := by decide +kernel
theorem dX12_test_213 : decode cX12_test 213 = .ok (.goto 18, 3) := by decide +kernel
theorem dX12_test_216 : decode cX12_test 216 = .ok (.aload_n 0, 1) := by decide +kernel
theorem dX12_test_217 : decode cX12_test 217 = .ok (.bipush 61, 2) := by decide +kernel
theorem dX12_test_219 : decode cX12_test 219 = .ok (.invokevirtual 298, 3) := by decide +kernel
theorem dX12_test_222 : decode cX12_test 222 = .ok (.ifCond .eq 8, 3) := by decide +kernel
theorem dX12_test_225 : decode cX12_test 225 = .ok (.bipush 10, 2) := by decide +kernel
theorem dX12_test_227 : decode cX12_test 227 = .ok (.goto 4, 3) := by decide +kernel
theorem dX12_test_230 : decode cX12_test 230 = .ok (.iconst 0, 1) := by decide +kernel
theorem dX12_test_241 : decode cX12_test 241 = .ok (.aload_n 0, 1) := by decide +kernel
set_option maxRecDepth 20000 in
theorem ggX12_test_X12_errs : GoodIn wsX12_test wsX12_errs := goodIn_r _ [22, 5, 23, 24, 76, 77, 78, 79, 80, 81, 82, 83, 84, 85, 86, 87, 88, 89, 90, 91, 92, 93, 94, 95, 96, 97, 98, 99, 100, 101, 102, 103, 104, 105, 106, 107, 108, 109, 110, 111, 112, 113, 114, 115, 116, 117, 118, 119, 120, 121, 122, 123, 124, 125, 126, 127, 128, 129, 130, 131, 132, 133, 134, 135, 136, 137, 138, 139, 140, 141, 142, 143, 144, 145, 146, 147, 148, 149, 150, 151, 152, 153, 154, 155, 156, 157, 158, 159, 160, 161, 162, 163, 164, 165, 166, 167, 168, 169, 170, 171] (by decide +kernel) (by decide +kernel)
set_option maxRecDepth 20000 in
theorem gX12_test_X12_errs : GoodIn wsX12_test (wsV RX12 304 RX12 yX12_errs wsX12_errs) := goodIn_app (goodIn_of _ (by decide +kernel)) ggX12_test_X12_errs
theorem dX12_test_242 : decode cX12_test 242 = .ok (.invokevirtual 304, 3) := by decide +kernel
theorem dX12_test_245 : decode cX12_test 245 = .ok (.return_, 1) := by decide +kernel
theorem dX12_test_129 : decode cX12_test 129 = .ok (.aload_n 0, 1) := by decide +kernel
theorem dX12_test_130 : decode cX12_test 130 = .ok (.bipush 125, 2) := by decide +kernel
set_option maxRecDepth 20000 in
theorem ggX12_test_X12_must : GoodIn wsX12_test wsX12_must := goodIn_r _ [75, 56, 57, 58, 11, 59, 13, 31, 25, 26, 27, 28, 29, 23, 30, 14, 32, 33, 34, 35, 36, 37, 38, 39, 40, 41, 42, 43, 44, 45, 46, 47, 48, 49, 19, 20, 21, 22, 5, 24, 76, 77, 78, 79, 80, 81, 82, 83, 84, 85, 86, 87, 88, 89, 90, 91, 92, 93, 94, 95, 96, 97, 98, 99, 100, 101, 102, 103, 104, 105, 106, 107, 108, 109, 110, 111, 112, 113, 114, 115, 116, 117, 118, 119, 120, 121, 122, 123, 124, 125, 126, 127, 128, 129, 130, 131, 132, 133, 134, 135, 136, 137, 138, 139, 140, 141, 142, 143, 144, 145, 146, 147, 148, 149, 150, 151, 152, 153, 154, 155, 156, 157, 158, 159, 160, 161, 162, 163, 164, 165, 166, 167, 168, 169, 170, 171] (by decide +kernel) (by decide +kernel)
set_option maxRecDepth 20000 in
theorem gX12_test_X12_must : GoodIn wsX12_test (wsV RX12 383 RX12 yX12_must wsX12_must) := goodIn_app (goodIn_of _ (by decide +kernel)) ggX12_test_X12_must
theorem dX12_test_132 : decode cX12_test 132 = .ok (.invokevirtual 383, 3) := by decide +kernel
theorem dX12_test_135 : decode cX12_test 135 = .ok (.aload_n 0, 1) := by decide +kernel
theorem dX12_test_136 : decode cX12_test 136 = .ok (.dup, 1) := by decide +kernel
theorem dX12_test_137 : decode cX12_test 137 = .ok (.getfield 346, 3) := by decide +kernel
theorem dX12_test_140 : decode cX12_test 140 = .ok (.iconst 1, 1) := by decide +kernel
theorem dX12_test_141 : decode cX12_test 141 = .ok (.isub, 1) := by decide +kernel
theorem dX12_test_142 : decode cX12_test 142 = .ok (.putfield 346, 3) := by decide +kernel
theorem dX12_test_145 : decode cX12_test 145 = .ok (.aload_n 0, 1) := by decide +kernel
theorem dX12_test_146 : decode cX12_test 146 = .ok (.getfield 294, 3) := by decide +kernel
theorem dX12_test_149 : decode cX12_test 149 = .ok (.ifCond .ne 140, 3) := by decide +kernel
theorem dX12_test_152 : decode cX12_test 152 = .ok (.aload_n 0, 1) := by decide +kernel
theorem dX12_test_153 : decode cX12_test 153 = .ok (.aload_n 0, 1) := by decide +kernel
theorem dX12_test_154 : decode cX12_test 154 = .ok (.getfield 343, 3) := by decide +kernel
theorem dX12_test_157 : decode cX12_test 157 = .ok (.invokevirtual 369, 3) := by decide +kernel
theorem dX12_test_160 : decode cX12_test 160 = .ok (.goto 129, 3) := by decide +kernel
theorem dX12_test_91 : decode cX12_test 91 = .ok (.aload_n 0, 1) := by decide +kernel
theorem dX12_test_92 : decode cX12_test 92 = .ok (.dup, 1) := by decide +kernel
theorem dX12_test_93 : decode cX12_test 93 = .ok (.getfield 346, 3) := by decide +kernel
theorem dX12_test_96 : decode cX12_test 96 = .ok (.iconst 1, 1) := by decide +kernel
theorem dX12_test_97 : decode cX12_test 97 = .ok (.isub, 1) := by decide +kernel
theorem dX12_test_98 : decode cX12_test 98 = .ok (.putfield 346, 3) := by decide +kernel
theorem dX12_test_101 : decode cX12_test 101 = .ok (.aload_n 0, 1) := by decide +kernel
theorem dX12_test_102 : decode cX12_test 102 = .ok (.aload_n 0, 1) := by decide +kernel
theorem dX12_test_103 : decode cX12_test 103 = .ok (.bipush 11, 2) := by decide +kernel
theorem dX12_test_105 : decode cX12_test 105 = .ok (.aload_n 0, 1) := by decide +kernel
theorem dX12_test_106 : decode cX12_test 106 = .ok (.getfield 343, 3) := by decide +kernel
theorem dX12_test_109 : decode cX12_test 109 = .ok (.iconst 0, 1) := by decide +kernel
theorem dX12_test_110 : decode cX12_test 110 = .ok (.invokevirtual 366, 3) := by decide +kernel
theorem dX12_test_113 : decode cX12_test 113 = .ok (.invokevirtual 369, 3) := by decide +kernel
theorem dX12_test_116 : decode cX12_test 116 = .ok (.goto 173, 3) := by decide +kernel
theorem dX12_test_9 : decode cX12_test 9 = .ok (.aload_n 0, 1) := by decide +kernel
theorem dX12_test_10 : decode cX12_test 10 = .ok (.ldc2_w 394, 3) := by decide +kernel
set_option maxRecDepth 20000 in
theorem ggX12_test_X12_isWord : GoodIn wsX12_test wsX12_isWord := goodIn_r _ [12, 13, 14, 76, 77, 78, 79, 80, 81, 82, 83, 84, 85, 86, 87, 88, 89, 90, 91, 92, 93, 94, 95, 96, 97, 98, 99, 100, 101, 102, 103, 104, 105, 106, 107, 108, 109, 110, 111, 112, 113, 114, 115, 116, 117, 118, 119, 120, 121, 122, 123, 124, 125, 126, 127, 128, 129, 130, 131, 132, 133, 134, 135, 136, 137, 138, 139, 140, 141, 142, 143, 144, 145, 146, 147, 148, 149, 150, 151, 152, 153, 154, 155, 156, 157, 158, 159, 160, 161, 162, 163, 164, 165, 166, 167, 168, 169, 170, 171] (by decide +kernel) (by decide +kernel)
set_option maxRecDepth 20000 in
theorem gX12_test_X12_isWord : GoodIn wsX12_test (wsV RX12 377 RX12 yX12_isWord wsX12_isWord) := goodIn_app (goodIn_of _ (by decide +kernel)) ggX12_test_X12_isWord
theorem dX12_test_13 : decode cX12_test 13 = .ok (.invokevirtual 377, 3) := by decide +kernel
theorem dX12_test_16 : decode cX12_test 16 = .ok (.ifCond .eq 22, 3) := by decide +kernel
theorem dX12_test_19 : decode cX12_test 19 = .ok (.aload_n 0, 1) := by decide +kernel
set_option maxRecDepth 20000 in
theorem ggX12_test_X12_opens : GoodIn wsX12_test wsX12_opens := goodIn_r _ [18, 3, 19, 20, 21, 11, 22, 5, 23, 24, 25, 26, 27, 28, 29, 30, 14, 31, 32, 13, 33, 34, 35, 36, 37, 38, 39, 40, 41, 42, 43, 44, 45, 46, 47, 48, 49, 76, 77, 78, 79, 80, 81, 82, 83, 84, 85, 86, 87, 88, 89, 90, 91, 92, 93, 94, 95, 96, 97, 98, 99, 100, 101, 102, 103, 104, 105, 106, 107, 108, 109, 110, 111, 112, 113, 114, 115, 116, 117, 118, 119, 120, 121, 122, 123, 124, 125, 126, 127, 128, 129, 130, 131, 132, 133, 134, 135, 136, 137, 138, 139, 140, 141, 142, 143, 144, 145, 146, 147, 148, 149, 150, 151, 152, 153, 154, 155, 156, 157, 158, 159, 160, 161, 162, 163, 164, 165, 166, 167, 168, 169, 170, 171] (by decide +kernel) (by decide +kernel)
set_option maxRecDepth 20000 in
theorem gX12_test_X12_opens : GoodIn wsX12_test (wsV RX12 372 RX12 yX12_opens wsX12_opens) := goodIn_app (goodIn_of _ (by decide +kernel)) ggX12_test_X12_opens
theorem dX12_test_20 : decode cX12_test 20 = .ok (.invokevirtual 372, 3) := by decide +kernel
theorem dX12_test_23 : decode cX12_test 23 = .ok (.aload_n 0, 1) := by decide +kernel
theorem dX12_test_24 : decode cX12_test 24 = .ok (.getfield 94, 3) := by decide +kernel
theorem dX12_test_27 : decode cX12_test 27 = .ok (.iload_n 1, 1) := by decide +kernel
theorem dX12_test_28 : decode cX12_test 28 = .ok (.iconst 1, 1) := by decide +kernel
theorem dX12_test_29 : decode cX12_test 29 = .ok (.iastore, 1) := by decide +kernel
theorem dX12_test_30 : decode cX12_test 30 = .ok (.aload_n 0, 1) := by decide +kernel
theorem dX12_test_31 : decode cX12_test 31 = .ok (.iconst 5, 1) := by decide +kernel
theorem dX12_test_32 : decode cX12_test 32 = .ok (.invokevirtual 349, 3) := by decide +kernel
theorem dX12_test_35 : decode cX12_test 35 = .ok (.goto 254, 3) := by decide +kernel
theorem dX12_test_38 : decode cX12_test 38 = .ok (.aload_n 0, 1) := by decide +kernel
theorem dX12_test_39 : decode cX12_test 39 = .ok (.bipush 123, 2) := by decide +kernel
theorem dX12_test_41 : decode cX12_test 41 = .ok (.invokevirtual 298, 3) := by decide +kernel
theorem dX12_test_44 : decode cX12_test 44 = .ok (.ifCond .eq 22, 3) := by decide +kernel
theorem dX12_test_47 : decode cX12_test 47 = .ok (.aload_n 0, 1) := by decide +kernel
theorem dX12_test_48 : decode cX12_test 48 = .ok (.invokevirtual 372, 3) := by decide +kernel
theorem dX12_test_51 : decode cX12_test 51 = .ok (.aload_n 0, 1) := by decide +kernel
theorem dX12_test_52 : decode cX12_test 52 = .ok (.getfield 94, 3) := by decide +kernel
theorem dX12_test_55 : decode cX12_test 55 = .ok (.iload_n 1, 1) := by decide +kernel
theorem dX12_test_56 : decode cX12_test 56 = .ok (.iconst 2, 1) := by decide +kernel
theorem dX12_test_57 : decode cX12_test 57 = .ok (.iastore, 1) := by decide +kernel
theorem dX12_test_58 : decode cX12_test 58 = .ok (.aload_n 0, 1) := by decide +kernel
theorem dX12_test_59 : decode cX12_test 59 = .ok (.iconst 3, 1) := by decide +kernel
theorem dX12_test_60 : decode cX12_test 60 = .ok (.invokevirtual 349, 3) := by decide +kernel
theorem dX12_test_63 : decode cX12_test 63 = .ok (.goto 226, 3) := by decide +kernel
theorem dX12_test_66 : decode cX12_test 66 = .ok (.aload_n 0, 1) := by decide +kernel
theorem dX12_test_67 : decode cX12_test 67 = .ok (.getfield 94, 3) := by decide +kernel
theorem dX12_test_70 : decode cX12_test 70 = .ok (.iload_n 1, 1) := by decide +kernel
theorem dX12_test_71 : decode cX12_test 71 = .ok (.iconst 3, 1) := by decide +kernel
theorem dX12_test_72 : decode cX12_test 72 = .ok (.iastore, 1) := by decide +kernel
theorem dX12_test_73 : decode cX12_test 73 = .ok (.aload_n 0, 1) := by decide +kernel
theorem dX12_test_74 : decode cX12_test 74 = .ok (.iconst 0, 1) := by decide +kernel
theorem dX12_test_75 : decode cX12_test 75 = .ok (.invokevirtual 349, 3) := by decide +kernel
theorem dX12_test_78 : decode cX12_test 78 = .ok (.goto 211, 3) := by decide +kernel
theorem z_l13 : (13 : Int32).toInt = 13 := by decide
def L_X12_sums_1 : z_L := [(0, 35), (0, 36), (0, 37), (0, 38), (0, 34), (0, 42), (0, 32), (0, 39), (21, 999), (22, 999), (23, 999), (0, 15), (26, 999), (27, 999), (28, 999), (29, 999), (0, 47), (0, 40)]
theorem zj_X12_sums_X12 : ∀ w ∈ wsX120, w ∈ wsX12_sums := fun w h => (List.mem_cons_of_mem _ (List.mem_append_right _ h))
set_option maxHeartbeats 8000000 in
set_option maxRecDepth 100000 in
theorem sx_X12_sums_1 (l : Launch) (G : z_G) (ad : Nat → Nat) (I : z_I) (J : z_J) (hmp : z_imp I) (hmt : z_imt I) (hmd : z_imd I) (hmg : z_img I) (hmn : z_imn I) (hNd : z_Nd I) (hrp : z_irp I) (B : Int) (a1 : Int32) (q1 : 0 ≤ a1.toInt ∧ a1.toInt ≤ 33) (hwd : (I 26 a1.toNatClampNeg).toInt = 0) (hPS : z_PS I (a1.toNatClampNeg + 1) B) : z_Mv l yX12_sums wsX12_sums { frames := 3, cells := 0, slots := 0, locals := 55 } [.ref (ad 0), .int a1, .int 1] G (shM, ad, I, J, PM ad) (fun u1 => ∃ (I1 : z_I) (J1 : z_J), u1 = (shM, ad, I1, J1, PM ad) ∧ z_imp I1 ∧ z_imt I1 ∧ z_imd I1 ∧ z_img I1 ∧ z_imn I1 ∧ z_Nd I1 ∧ z_irp I1 ∧ z_fr L_X12_sums_1 I1 I ∧ (¬ (I1 0 42).toInt = 0 ∨ ∃ n, z_PS I1 n (B - 1))) 0 0 := by
  intro sz
  refine z_headQ (cc := cX12_sums) (maxL := 4) (ret := none) (by decide) rfl (Nat.le_of_ble_eq_true rfl) ?_
  intro p e s m below meth c0 ls hIn hK hsz hW hl
  obtain ⟨hx, hb, hr, hml, hown, hts, hlocks, hname⟩ := hIn
  subst hsz
  have hown : s.vm.findClass RX12 = some m.cls := hown
  have hA : ∀ q : Nat, s.heap.size ≤ q → z_A (shM, ad, I, J, PM ad) s.heap.size q := fun q h => Or.inr h
  generalize hAe : z_A (shM, ad, I, J, PM ad) s.heap.size = A at *
  have hS : va_S A s.heap s.heap [] := va_S.rf
  have hl : lv_has ls 4 [(0, .ref (ad 0)), (1, .int a1), (2, .int 1)] := hl
  obtain ⟨va, eva⟩ : ∃ y, y = I 27 a1.toNatClampNeg := ⟨_, rfl⟩
  obtain ⟨vo, evo⟩ : ∃ y, y = I 28 a1.toNatClampNeg := ⟨_, rfl⟩
  obtain ⟨vs, evs⟩ : ∃ y, y = I 29 a1.toNatClampNeg := ⟨_, rfl⟩
  have hT := z_top hPS
  unfold z_fv at hT
  rw [hwd, ← eva, ← evo, ← evs] at hT
  obtain ⟨t1, t2, t3, t4, t5, t6, t7, t8, t9, t10, t11, t12, t13, t14, t15, t16, t17, t18, t19, t20, t21⟩ := hT
  have hk9 := z_clt (x := a1) rfl q1.1
  obtain ⟨vw, evw⟩ : ∃ y, y = I 26 a1.toNatClampNeg := ⟨_, rfl⟩
  have hvw : vw.toInt = 0 := by rw [evw]; exact hwd
  have krp : 0 ≤ (I 0 35).toInt ∧ (I 0 35).toInt ≤ (I 0 34).toInt ∧ (I 0 34).toInt ≤ (I 0 33).toInt ∧ (I 0 33).toInt ≤ 500 ∧ ((I 0 36).toInt = 0 ∨ (I 0 35).toInt + 1 ≤ (I 0 34).toInt) := hrp
  refine lv_aload_n hx hb dX12_sums_0 rfl (lv_at hl 0 rfl) ?_
  refine z_get (T := TX12) (N := 96) (ci := 12) (i := 0) (v := .ref (ad 27)) hx hb hts zj_X12_sums_X12 hown hK hW rfl rfl 44 (by decide) (hts (.fieldLink RX12 94 "PetrolBoardModel" "at" "[I") (List.mem_of_getElem? (i := 1) rfl)) (fun _ h => h) rfl dX12_sums_1 ?_
  refine lv_iload_n hx hb dX12_sums_4 rfl (lv_at hl 1 rfl) ?_
  refine z_iald (i := 27) hx hb hK hW rfl (z_ix rfl (by omega) (by omega)) dX12_sums_5 ?_
  refine z_topi (v := va) eva.symm ?_
  refine lv_if_ne (tgt := 30) hx hb dX12_sums_6 (by decide) (fun c1 => ?_) (fun c1 => ?_)
  · have g2 := z_f_ne rfl z_l0 c1
    refine lv_aload_n hx hb dX12_sums_30 rfl (lv_at hl 0 rfl) ?_
    refine z_get (T := TX12) (N := 96) (ci := 12) (i := 0) (v := .ref (ad 28)) hx hb hts zj_X12_sums_X12 hown hK hW rfl rfl 45 (by decide) (hts (.fieldLink RX12 97 "PetrolBoardModel" "one" "[I") (List.mem_of_getElem? (i := 2) rfl)) (fun _ h => h) rfl dX12_sums_31 ?_
    refine lv_iload_n hx hb dX12_sums_34 rfl (lv_at hl 1 rfl) ?_
    refine lv_aload_n hx hb dX12_sums_35 rfl (lv_at hl 0 rfl) ?_
    refine z_get (T := TX12) (N := 96) (ci := 12) (i := 0) (v := .ref (ad 28)) hx hb hts zj_X12_sums_X12 hown hK hW rfl rfl 45 (by decide) (hts (.fieldLink RX12 97 "PetrolBoardModel" "one" "[I") (List.mem_of_getElem? (i := 2) rfl)) (fun _ h => h) rfl dX12_sums_36 ?_
    refine lv_iload_n hx hb dX12_sums_39 rfl (lv_at hl 1 rfl) ?_
    refine z_iald (i := 28) hx hb hK hW rfl (z_ix rfl (by omega) (by omega)) dX12_sums_40 ?_
    refine z_topi (v := vo) evo.symm ?_
    refine lv_if_ge (tgt := 51) hx hb dX12_sums_41 (by decide) (fun c3 => ?_) (fun c3 => ?_)
    · have g4 := z_f_ge rfl z_l0 c3
      refine lv_aload_n hx hb dX12_sums_51 rfl (lv_at hl 0 rfl) ?_
      refine lv_aload_n hx hb dX12_sums_52 rfl (lv_at hl 0 rfl) ?_
      refine z_get (T := TX12) (N := 96) (ci := 12) (i := 0) (v := .ref (ad 29)) hx hb hts zj_X12_sums_X12 hown hK hW rfl rfl 46 (by decide) (hts (.fieldLink RX12 100 "PetrolBoardModel" "sort" "[I") (List.mem_of_getElem? (i := 4) rfl)) (fun _ h => h) rfl dX12_sums_53 ?_
      refine lv_iload_n hx hb dX12_sums_56 rfl (lv_at hl 1 rfl) ?_
      refine z_iald (i := 29) hx hb hK hW rfl (z_ix rfl (by omega) (by omega)) dX12_sums_57 ?_
      refine z_topi (v := vs) evs.symm ?_
      refine lv_aload_n hx hb dX12_sums_58 rfl (lv_at hl 0 rfl) ?_
      refine z_get (T := TX12) (N := 96) (ci := 12) (i := 0) (v := .ref (ad 28)) hx hb hts zj_X12_sums_X12 hown hK hW rfl rfl 45 (by decide) (hts (.fieldLink RX12 97 "PetrolBoardModel" "one" "[I") (List.mem_of_getElem? (i := 2) rfl)) (fun _ h => h) rfl dX12_sums_59 ?_
      refine lv_iload_n hx hb dX12_sums_62 rfl (lv_at hl 1 rfl) ?_
      refine z_iald (i := 28) hx hb hK hW rfl (z_ix rfl (by omega) (by omega)) dX12_sums_63 ?_
      refine z_topi (v := vo) evo.symm ?_
      refine lv_aload_n hx hb dX12_sums_64 rfl (lv_at hl 0 rfl) ?_
      have r5 : 0 ≤ (I 0 40).toInt ∧ (I 0 40).toInt ≤ 6199 := hmg
      refine z_get (T := TX12) (N := 96) (ci := 12) (i := 0) (v := .int (I 0 40)) hx hb hts zj_X12_sums_X12 hown hK hW rfl rfl 40 (by decide) (hts (.fieldLink RX12 343 "PetrolBoardModel" "got" "I") (List.mem_of_getElem? (i := 3) rfl)) (fun _ h => h) rfl dX12_sums_65 ?_
      refine z_ci hW hS hA (va_runV (As := [.int vs, .int vo, .int (I 0 40)]) (rest := [.int a1, .ref (ad 28)]) ⟨hx, hb, hml, hown, hts⟩ (sx_X12_node l G ad I J (by show 0 ≤ (I 0 15).toInt ∧ (I 0 15).toInt ≤ 6100; exact hmn) hNd vs vo (I 0 40) (by show (I 0 15).toInt ≤ 6099; omega) (by first | omega | decide) (by first | omega | decide) (by first | omega | decide) _) (cwV 3 hts gX12_sums_X12_node rfl rfl rfl (by decide +kernel) ⟨Nat.le_of_ble_eq_true rfl, Nat.le_of_ble_eq_true rfl⟩) (z_preV (i := 0) hK hW rfl rfl) rfl rfl hl.1 rfl (lv_room (Nat.le_of_ble_eq_true rfl)) dX12_sums_68 ⟨Nat.le_of_ble_eq_true rfl, Nat.le_of_ble_eq_true rfl⟩) (fun r u1 H locs hp hW hS => ?_)
      obtain ⟨I6, J8, e9, hI6mn, hI6Nd, fI6, hp⟩ := hp
      rw [e9] at hW
      have f7 := z_fr_sub (L := L_X12_sums_1) z_fr_0 fI6 (by decide)
      have k9 : 0 ≤ (I6 0 31).toInt ∧ (I6 0 31).toInt ≤ 500 := by rw [fI6 0 31 (by decide)]; exact (by show 0 ≤ (I 0 31).toInt ∧ (I 0 31).toInt ≤ 500; exact hmp.1)
      have k10 : 0 ≤ (I6 0 33).toInt ∧ (I6 0 33).toInt ≤ 500 := by rw [fI6 0 33 (by decide)]; exact (by show 0 ≤ (I 0 33).toInt ∧ (I 0 33).toInt ≤ 500; exact hmp.2.1)
      have k11 : 0 ≤ (I6 0 34).toInt ∧ (I6 0 34).toInt ≤ 500 := by rw [fI6 0 34 (by decide)]; exact (by show 0 ≤ (I 0 34).toInt ∧ (I 0 34).toInt ≤ 500; exact hmp.2.2.1)
      have k12 : 0 ≤ (I6 0 35).toInt ∧ (I6 0 35).toInt ≤ 500 := by rw [fI6 0 35 (by decide)]; exact (by show 0 ≤ (I 0 35).toInt ∧ (I 0 35).toInt ≤ 500; exact hmp.2.2.2)
      have k13 : 0 ≤ (I6 0 36).toInt ∧ (I6 0 36).toInt ≤ 4 := by rw [fI6 0 36 (by decide)]; exact (by show 0 ≤ (I 0 36).toInt ∧ (I 0 36).toInt ≤ 4; exact hmt.1)
      have k14 : 0 ≤ (I6 0 42).toInt ∧ (I6 0 42).toInt ≤ 1 := by rw [fI6 0 42 (by decide)]; exact (by show 0 ≤ (I 0 42).toInt ∧ (I 0 42).toInt ≤ 1; exact hmt.2)
      have k15 : 0 ≤ (I6 0 47).toInt ∧ (I6 0 47).toInt ≤ 119 := by rw [fI6 0 47 (by decide)]; exact (by show 0 ≤ (I 0 47).toInt ∧ (I 0 47).toInt ≤ 119; exact hmd.1)
      have k16 : 0 ≤ (I6 0 39).toInt ∧ (I6 0 39).toInt ≤ 100 := by rw [fI6 0 39 (by decide)]; exact (by show 0 ≤ (I 0 39).toInt ∧ (I 0 39).toInt ≤ 100; exact hmd.2)
      have k17 : 0 ≤ (I6 0 40).toInt ∧ (I6 0 40).toInt ≤ 6199 := by rw [fI6 0 40 (by decide)]; exact (by show 0 ≤ (I 0 40).toInt ∧ (I 0 40).toInt ≤ 6199; exact hmg)
      have k18 : 0 ≤ (I6 0 35).toInt ∧ (I6 0 35).toInt ≤ (I6 0 34).toInt ∧ (I6 0 34).toInt ≤ (I6 0 33).toInt ∧ (I6 0 33).toInt ≤ 500 ∧ ((I6 0 36).toInt = 0 ∨ (I6 0 35).toInt + 1 ≤ (I6 0 34).toInt) := (by have q0 : (I6 0 35) = (I 0 35) := by rw [fI6 0 35 (by decide)]; have q1 : (I6 0 34) = (I 0 34) := by rw [fI6 0 34 (by decide)]; have q2 : (I6 0 33) = (I 0 33) := by rw [fI6 0 33 (by decide)]; have q3 : (I6 0 36) = (I 0 36) := by rw [fI6 0 36 (by decide)]; show 0 ≤ (I6 0 35).toInt ∧ (I6 0 35).toInt ≤ (I6 0 34).toInt ∧ (I6 0 34).toInt ≤ (I6 0 33).toInt ∧ (I6 0 33).toInt ≤ 500 ∧ ((I6 0 36).toInt = 0 ∨ (I6 0 35).toInt + 1 ≤ (I6 0 34).toInt); rw [q0, q1, q2, q3]; first | omega | decide)
      have k19 : (I6 0 35).toInt = (I 0 35).toInt := by rw [fI6 0 35 (by decide)]
      have k20 : (I6 0 34).toInt = (I 0 34).toInt := by rw [fI6 0 34 (by decide)]
      have k21 : (I6 0 36).toInt = (I 0 36).toInt := by rw [fI6 0 36 (by decide)]
      have k22 : (I6 0 42).toInt = (I 0 42).toInt := by rw [fI6 0 42 (by decide)]
      have k23 : (I6 0 47).toInt = (I 0 47).toInt := by rw [fI6 0 47 (by decide)]
      have k24 : (I6 0 39).toInt = (I 0 39).toInt := by rw [fI6 0 39 (by decide)]
      have k25 : (I6 0 40).toInt = (I 0 40).toInt := by rw [fI6 0 40 (by decide)]
      refine lv_topi (fun x26 ex26 => ?_)
      rw [← ex26] at hp
      obtain ⟨h27, h28⟩ := hp
      refine z_iast (i := 28) hx hb hK hW hS rfl (z_ix rfl (by omega) (by omega)) dX12_sums_71 (fun H locs hz1 hW hS => ?_)
      obtain ⟨I29, eI29⟩ : ∃ K : z_I, K = z_up I6 28 a1.toNatClampNeg x26 := ⟨_, rfl⟩
      rw [← eI29] at hW
      have f30 := z_fr_a f7 (show z_wa L_X12_sums_1 28 = true by decide) eI29
      have a31 := z_Nd_n hI6Nd (by decide) eI29
      refine lv_iload_n hx hb dX12_sums_72 rfl (lv_at hl 2 rfl) ?_
      refine lv_if_eq (tgt := 106) hx hb dX12_sums_73 (by decide) (fun c32 => absurd c32 (by decide)) (fun c32 => ?_)
      refine lv_aload_n hx hb dX12_sums_76 rfl (lv_at hl 0 rfl) ?_
      refine lv_bipush (v := 43) hx hb dX12_sums_77 (by decide) ?_
      refine z_ci hW hS hA (va_runV (As := [.int 43]) (rest := []) ⟨hx, hb, hml, hown, hts⟩ (sx_X12_isSign l G ad I29 J8 ⟨(by show 0 ≤ (I29 0 36).toInt ∧ (I29 0 36).toInt ≤ 4; rw [eI29, z_up_n (by decide)]; exact k13), (by show 0 ≤ (I29 0 42).toInt ∧ (I29 0 42).toInt ≤ 1; rw [eI29, z_up_n (by decide)]; exact k14)⟩ 43 _) (cwV 1 hts gX12_sums_X12_isSign rfl rfl rfl (by decide +kernel) ⟨Nat.le_of_ble_eq_true rfl, Nat.le_of_ble_eq_true rfl⟩) (z_preV (i := 0) hK hW rfl rfl) rfl rfl hl.1 rfl (lv_room (Nat.le_of_ble_eq_true rfl)) dX12_sums_79 ⟨Nat.le_of_ble_eq_true rfl, Nat.le_of_ble_eq_true rfl⟩) (fun r u1 H locs hp hW hS => ?_)
      obtain ⟨e9, hp⟩ := hp
      rw [e9] at hW
      rcases hp with ⟨rfl, h33⟩ | rfl
      · rw [show (I29 0 36) = (I6 0 36) from by rw [eI29, z_up_n (by decide)]] at h33
        have h34 : (I6 0 35).toInt + 1 ≤ (I6 0 34).toInt := by omega
        refine lv_if_eq (tgt := 89) hx hb dX12_sums_82 (by decide) (fun c35 => absurd c35 (by decide)) (fun c35 => ?_)
        refine lv_iconst (v := 2) hx hb dX12_sums_85 (by decide) ?_
        refine lv_goto (tgt := 133) hx hb dX12_sums_86 (by decide) ?_
        refine lv_istore_n (lv' := [(3, .int 2), (0, .ref (ad 0)), (1, .int a1), (2, .int 1)]) hx hb dX12_sums_133 rfl hl (by decide) rfl (fun ls hl => ?_)
        refine lv_iload_n hx hb dX12_sums_134 rfl (lv_at hl 0 rfl) ?_
        refine lv_if_le (tgt := 165) hx hb dX12_sums_135 (by decide) (fun c36 => absurd c36 (by decide)) (fun c36 => ?_)
        refine lv_aload_n hx hb dX12_sums_138 rfl (lv_at hl 1 rfl) ?_
        refine z_cv hW hS hA (va_runV (As := []) (rest := []) ⟨hx, hb, hml, hown, hts⟩ (sx_X12_next l G ad I29 J8 ⟨(by show 0 ≤ (I29 0 31).toInt ∧ (I29 0 31).toInt ≤ 500; rw [eI29, z_up_n (by decide)]; exact k9), (by show 0 ≤ (I29 0 33).toInt ∧ (I29 0 33).toInt ≤ 500; rw [eI29, z_up_n (by decide)]; exact k10), (by show 0 ≤ (I29 0 34).toInt ∧ (I29 0 34).toInt ≤ 500; rw [eI29, z_up_n (by decide)]; exact k11), (by show 0 ≤ (I29 0 35).toInt ∧ (I29 0 35).toInt ≤ 500; rw [eI29, z_up_n (by decide)]; exact k12)⟩ ⟨(by show 0 ≤ (I29 0 36).toInt ∧ (I29 0 36).toInt ≤ 4; rw [eI29, z_up_n (by decide)]; exact k13), (by show 0 ≤ (I29 0 42).toInt ∧ (I29 0 42).toInt ≤ 1; rw [eI29, z_up_n (by decide)]; exact k14)⟩ (by have q0 : (I29 0 34) = (I6 0 34) := by rw [eI29, z_up_n (by decide)]; have q1 : (I29 0 33) = (I6 0 33) := by rw [eI29, z_up_n (by decide)]; show 0 ≤ (I29 0 34).toInt ∧ (I29 0 34).toInt ≤ (I29 0 33).toInt ∧ (I29 0 33).toInt ≤ 500; rw [q0, q1]; first | omega | decide)  _) (cwV 0 hts gX12_sums_X12_next rfl rfl rfl (by decide +kernel) ⟨Nat.le_of_ble_eq_true rfl, Nat.le_of_ble_eq_true rfl⟩) (z_preV (i := 0) hK hW rfl rfl) rfl rfl hl.1 rfl (lv_room (Nat.le_of_ble_eq_true rfl)) dX12_sums_139 ⟨Nat.le_of_ble_eq_true rfl, Nat.le_of_ble_eq_true rfl⟩) (fun u1 H locs hp hW hS => ?_)
        obtain ⟨I37, J39, e9, hI37mp, hI37mt, hI37rp, fI37, hp⟩ := hp
        rw [e9] at hW
        have f38 := z_fr_sub (L := L_X12_sums_1) f30 fI37 (by decide)
        have k40 : 0 ≤ (I37 0 47).toInt ∧ (I37 0 47).toInt ≤ 119 := by rw [fI37 0 47 (by decide)]; exact (by show 0 ≤ (I29 0 47).toInt ∧ (I29 0 47).toInt ≤ 119; rw [eI29, z_up_n (by decide)]; exact k15)
        have k41 : 0 ≤ (I37 0 39).toInt ∧ (I37 0 39).toInt ≤ 100 := by rw [fI37 0 39 (by decide)]; exact (by show 0 ≤ (I29 0 39).toInt ∧ (I29 0 39).toInt ≤ 100; rw [eI29, z_up_n (by decide)]; exact k16)
        have k42 : 0 ≤ (I37 0 40).toInt ∧ (I37 0 40).toInt ≤ 6199 := by rw [fI37 0 40 (by decide)]; exact (by show 0 ≤ (I29 0 40).toInt ∧ (I29 0 40).toInt ≤ 6199; rw [eI29, z_up_n (by decide)]; exact k17)
        have k43 : 0 ≤ (I37 0 15).toInt ∧ (I37 0 15).toInt ≤ 6100 := by rw [fI37 0 15 (by decide)]; exact (by show 0 ≤ (I29 0 15).toInt ∧ (I29 0 15).toInt ≤ 6100; rw [eI29, z_up_n (by decide)]; exact hI6mn)
        have k44 : 0 ≤ (I37 0 35).toInt ∧ (I37 0 35).toInt ≤ (I37 0 34).toInt ∧ (I37 0 34).toInt ≤ (I37 0 33).toInt ∧ (I37 0 33).toInt ≤ 500 ∧ ((I37 0 36).toInt = 0 ∨ (I37 0 35).toInt + 1 ≤ (I37 0 34).toInt) := hI37rp
        have k45 : (I37 0 42).toInt = (I6 0 42).toInt := by rw [fI37 0 42 (by decide), eI29, z_up_n (by decide)]
        have k46 : (I37 0 47).toInt = (I6 0 47).toInt := by rw [fI37 0 47 (by decide), eI29, z_up_n (by decide)]
        have k47 : (I37 0 39).toInt = (I6 0 39).toInt := by rw [fI37 0 39 (by decide), eI29, z_up_n (by decide)]
        have k48 : (I37 0 15).toInt = (I6 0 15).toInt := by rw [fI37 0 15 (by decide), eI29, z_up_n (by decide)]
        have k49 : (I37 0 40).toInt = (I6 0 40).toInt := by rw [fI37 0 40 (by decide), eI29, z_up_n (by decide)]
        have h50 := hp
        rw [show (I29 0 34) = (I6 0 34) from by rw [eI29, z_up_n (by decide)]] at h50
        refine lv_aload_n hx hb dX12_sums_142 rfl (lv_at hl 1 rfl) ?_
        refine z_get (T := TX12) (N := 96) (ci := 12) (i := 0) (v := .ref (ad 29)) hx hb hts zj_X12_sums_X12 hown hK hW rfl rfl 46 (by decide) (hts (.fieldLink RX12 100 "PetrolBoardModel" "sort" "[I") (List.mem_of_getElem? (i := 4) rfl)) (fun _ h => h) rfl dX12_sums_143 ?_
        refine lv_iload_n hx hb dX12_sums_146 rfl (lv_at hl 2 rfl) ?_
        refine lv_iload_n hx hb dX12_sums_147 rfl (lv_at hl 0 rfl) ?_
        refine z_iast (i := 29) hx hb hK hW hS rfl (z_ix rfl (by omega) (by omega)) dX12_sums_148 (fun H locs hz1 hW hS => ?_)
        obtain ⟨I51, eI51⟩ : ∃ K : z_I, K = z_up I37 29 a1.toNatClampNeg 2 := ⟨_, rfl⟩
        rw [← eI51] at hW
        have f52 := z_fr_a f38 (show z_wa L_X12_sums_1 29 = true by decide) eI51
        have a53 := z_Nd_n (z_Nd_fr a31 fI37 (by decide)) (by decide) eI51
        refine lv_aload_n hx hb dX12_sums_149 rfl (lv_at hl 1 rfl) ?_
        refine lv_iload_n hx hb dX12_sums_150 rfl (lv_at hl 3 rfl) ?_
        refine lv_if_eq (tgt := 158) hx hb dX12_sums_151 (by decide) (fun c54 => absurd c54 (by decide)) (fun c54 => ?_)
        refine lv_iconst (v := 1) hx hb dX12_sums_154 (by decide) ?_
        refine lv_goto (tgt := 159) hx hb dX12_sums_155 (by decide) ?_
        refine z_cv hW hS hA (va_runV (As := [.int 1]) (rest := []) ⟨hx, hb, hml, hown, hts⟩ (sx_X12_begin l G ad I51 J39 ⟨(by show 0 ≤ (I51 0 47).toInt ∧ (I51 0 47).toInt ≤ 119; rw [eI51, z_up_n (by decide)]; exact k40), (by show 0 ≤ (I51 0 39).toInt ∧ (I51 0 39).toInt ≤ 100; rw [eI51, z_up_n (by decide)]; exact k41)⟩ 1 (by have q0 : (I51 0 47) = (I37 0 47) := by rw [eI51, z_up_n (by decide)]; show (I51 0 47).toInt ≤ 118; rw [q0]; omega) _) (cwV 1 hts gX12_sums_X12_begin rfl rfl rfl (by decide +kernel) ⟨Nat.le_of_ble_eq_true rfl, Nat.le_of_ble_eq_true rfl⟩) (z_preV (i := 0) hK hW rfl rfl) rfl rfl hl.1 rfl (lv_room (Nat.le_of_ble_eq_true rfl)) dX12_sums_159 ⟨Nat.le_of_ble_eq_true rfl, Nat.le_of_ble_eq_true rfl⟩) (fun u1 H locs hp hW hS => ?_)
        obtain ⟨I55, J57, e9, hI55md, fI55, hp⟩ := hp
        rw [e9] at hW
        have f56 := z_fr_sub (L := L_X12_sums_1) f52 fI55 (by decide)
        have k58 : 0 ≤ (I55 0 31).toInt ∧ (I55 0 31).toInt ≤ 500 := by rw [fI55 0 31 (by decide)]; exact (by show 0 ≤ (I51 0 31).toInt ∧ (I51 0 31).toInt ≤ 500; rw [eI51, z_up_n (by decide)]; exact hI37mp.1)
        have k59 : 0 ≤ (I55 0 33).toInt ∧ (I55 0 33).toInt ≤ 500 := by rw [fI55 0 33 (by decide)]; exact (by show 0 ≤ (I51 0 33).toInt ∧ (I51 0 33).toInt ≤ 500; rw [eI51, z_up_n (by decide)]; exact hI37mp.2.1)
        have k60 : 0 ≤ (I55 0 34).toInt ∧ (I55 0 34).toInt ≤ 500 := by rw [fI55 0 34 (by decide)]; exact (by show 0 ≤ (I51 0 34).toInt ∧ (I51 0 34).toInt ≤ 500; rw [eI51, z_up_n (by decide)]; exact hI37mp.2.2.1)
        have k61 : 0 ≤ (I55 0 35).toInt ∧ (I55 0 35).toInt ≤ 500 := by rw [fI55 0 35 (by decide)]; exact (by show 0 ≤ (I51 0 35).toInt ∧ (I51 0 35).toInt ≤ 500; rw [eI51, z_up_n (by decide)]; exact hI37mp.2.2.2)
        have k62 : 0 ≤ (I55 0 36).toInt ∧ (I55 0 36).toInt ≤ 4 := by rw [fI55 0 36 (by decide)]; exact (by show 0 ≤ (I51 0 36).toInt ∧ (I51 0 36).toInt ≤ 4; rw [eI51, z_up_n (by decide)]; exact hI37mt.1)
        have k63 : 0 ≤ (I55 0 42).toInt ∧ (I55 0 42).toInt ≤ 1 := by rw [fI55 0 42 (by decide)]; exact (by show 0 ≤ (I51 0 42).toInt ∧ (I51 0 42).toInt ≤ 1; rw [eI51, z_up_n (by decide)]; exact hI37mt.2)
        have k64 : 0 ≤ (I55 0 40).toInt ∧ (I55 0 40).toInt ≤ 6199 := by rw [fI55 0 40 (by decide)]; exact (by show 0 ≤ (I51 0 40).toInt ∧ (I51 0 40).toInt ≤ 6199; rw [eI51, z_up_n (by decide)]; exact k42)
        have k65 : 0 ≤ (I55 0 15).toInt ∧ (I55 0 15).toInt ≤ 6100 := by rw [fI55 0 15 (by decide)]; exact (by show 0 ≤ (I51 0 15).toInt ∧ (I51 0 15).toInt ≤ 6100; rw [eI51, z_up_n (by decide)]; exact k43)
        have k66 : 0 ≤ (I55 0 35).toInt ∧ (I55 0 35).toInt ≤ (I55 0 34).toInt ∧ (I55 0 34).toInt ≤ (I55 0 33).toInt ∧ (I55 0 33).toInt ≤ 500 ∧ ((I55 0 36).toInt = 0 ∨ (I55 0 35).toInt + 1 ≤ (I55 0 34).toInt) := (by have q0 : (I55 0 35) = (I37 0 35) := by rw [fI55 0 35 (by decide), eI51, z_up_n (by decide)]; have q1 : (I55 0 34) = (I37 0 34) := by rw [fI55 0 34 (by decide), eI51, z_up_n (by decide)]; have q2 : (I55 0 33) = (I37 0 33) := by rw [fI55 0 33 (by decide), eI51, z_up_n (by decide)]; have q3 : (I55 0 36) = (I37 0 36) := by rw [fI55 0 36 (by decide), eI51, z_up_n (by decide)]; show 0 ≤ (I55 0 35).toInt ∧ (I55 0 35).toInt ≤ (I55 0 34).toInt ∧ (I55 0 34).toInt ≤ (I55 0 33).toInt ∧ (I55 0 33).toInt ≤ 500 ∧ ((I55 0 36).toInt = 0 ∨ (I55 0 35).toInt + 1 ≤ (I55 0 34).toInt); rw [q0, q1, q2, q3]; first | omega | decide)
        have k67 : (I55 0 35).toInt = (I37 0 35).toInt := by rw [fI55 0 35 (by decide), eI51, z_up_n (by decide)]
        have k68 : (I55 0 34).toInt = (I37 0 34).toInt := by rw [fI55 0 34 (by decide), eI51, z_up_n (by decide)]
        have k69 : (I55 0 36).toInt = (I37 0 36).toInt := by rw [fI55 0 36 (by decide), eI51, z_up_n (by decide)]
        have k70 : (I55 0 42).toInt = (I37 0 42).toInt := by rw [fI55 0 42 (by decide), eI51, z_up_n (by decide)]
        have k71 : (I55 0 39).toInt = (I37 0 39).toInt := by rw [fI55 0 39 (by decide), eI51, z_up_n (by decide)]
        have k72 : (I55 0 15).toInt = (I37 0 15).toInt := by rw [fI55 0 15 (by decide), eI51, z_up_n (by decide)]
        have k73 : (I55 0 40).toInt = (I37 0 40).toInt := by rw [fI55 0 40 (by decide), eI51, z_up_n (by decide)]
        have h74 := hp
        refine lv_goto (tgt := 175) hx hb dX12_sums_162 (by decide) ?_
        exact z_vret hx hb hr hK hS (Nat.le_of_ble_eq_true rfl) (Nat.le_of_ble_eq_true rfl) hlocks dX12_sums_175 (shM, ad, I55, J57, PM ad) hW ⟨I55, J57, rfl, ⟨(by show 0 ≤ (I55 0 31).toInt ∧ (I55 0 31).toInt ≤ 500; exact k58), (by show 0 ≤ (I55 0 33).toInt ∧ (I55 0 33).toInt ≤ 500; exact k59), (by show 0 ≤ (I55 0 34).toInt ∧ (I55 0 34).toInt ≤ 500; exact k60), (by show 0 ≤ (I55 0 35).toInt ∧ (I55 0 35).toInt ≤ 500; exact k61)⟩, ⟨(by show 0 ≤ (I55 0 36).toInt ∧ (I55 0 36).toInt ≤ 4; exact k62), (by show 0 ≤ (I55 0 42).toInt ∧ (I55 0 42).toInt ≤ 1; exact k63)⟩, ⟨(by show 0 ≤ (I55 0 47).toInt ∧ (I55 0 47).toInt ≤ 119; exact hI55md.1), (by show 0 ≤ (I55 0 39).toInt ∧ (I55 0 39).toInt ≤ 100; exact hI55md.2)⟩, (by show 0 ≤ (I55 0 40).toInt ∧ (I55 0 40).toInt ≤ 6199; exact k64), (by show 0 ≤ (I55 0 15).toInt ∧ (I55 0 15).toInt ≤ 6100; exact k65), (z_Nd_fr a53 fI55 (by decide)), (by show 0 ≤ (I55 0 35).toInt ∧ (I55 0 35).toInt ≤ (I55 0 34).toInt ∧ (I55 0 34).toInt ≤ (I55 0 33).toInt ∧ (I55 0 33).toInt ≤ 500 ∧ ((I55 0 36).toInt = 0 ∨ (I55 0 35).toInt + 1 ≤ (I55 0 34).toInt); first | omega | decide), f56, ((Classical.em ((I55 0 42).toInt = 0)).elim (fun hw9 => Or.inr ⟨a1.toNatClampNeg + 2, by have w1 := z_fw_0np (a := va.toInt) (o := vo.toInt) (by omega) (by omega); have w2 := z_fo_0n (a := va.toInt); have w3 := z_fw_0np (a := va.toInt) (o := x26.toInt) (by omega) (by omega); have w4 := z_fo_0n (a := va.toInt); have w5 := z_fw_10 (a := 0) (o := -1) (by omega); have w6 := z_rk_0; have w7 := z_rk_1; exact z_PUSH (d := a1.toNatClampNeg) (w := 0) (a := va.toInt) (o := x26.toInt) (s := 2) (wi := 1) hPS (fun i hi => ⟨by rw [eI51, z_up_n (by decide), fI37 26 i (z_wr_c (by decide)), eI29, z_up_n (by decide), fI6 26 i (z_wr_c (by decide))], by rw [eI51, z_up_n (by decide), fI37 27 i (z_wr_c (by decide)), eI29, z_up_n (by decide), fI6 27 i (z_wr_c (by decide))], by rw [eI51, z_up_n (by decide), fI37 28 i (z_wr_c (by decide)), eI29, z_up_k (by omega), fI6 28 i (z_wr_c (by decide))], by rw [eI51, z_up_k (by omega), fI37 29 i (z_wr_c (by decide)), eI29, z_up_n (by decide), fI6 29 i (z_wr_c (by decide))]⟩) (by rw [show I51 26 a1.toNatClampNeg = vw from (by rw [eI51, z_up_n (by decide), fI37 26 a1.toNatClampNeg (z_wr_c (by decide)), eI29, z_up_n (by decide), fI6 26 a1.toNatClampNeg (z_wr_c (by decide))]; exact evw.symm)]; exact hvw) (by rw [show I51 27 a1.toNatClampNeg = va from (by rw [eI51, z_up_n (by decide), fI37 27 a1.toNatClampNeg (z_wr_c (by decide)), eI29, z_up_n (by decide), fI6 27 a1.toNatClampNeg (z_wr_c (by decide))]; exact eva.symm)]; exact rfl) (by rw [show I51 28 a1.toNatClampNeg = x26 from (by rw [eI51, z_up_n (by decide), fI37 28 a1.toNatClampNeg (z_wr_c (by decide)), eI29, z_up_s])]; exact rfl) (by rw [show I51 29 a1.toNatClampNeg = 2 from (by rw [eI51, z_up_s])]; exact z_l2) (by unfold z_fv; omega) hwd (by rw [eI51, z_up_n (by decide)]; omega) h74 z_l1 (by omega) (by omega) (by omega) (by omega) (by omega) (by omega) (by omega) (by omega)⟩) Or.inl)⟩
      · refine lv_if_eq (tgt := 89) hx hb dX12_sums_82 (by decide) (fun c75 => ?_) (fun c75 => absurd (by decide) c75)
        refine lv_aload_n hx hb dX12_sums_89 rfl (lv_at hl 0 rfl) ?_
        refine lv_bipush (v := 45) hx hb dX12_sums_90 (by decide) ?_
        refine z_ci hW hS hA (va_runV (As := [.int 45]) (rest := []) ⟨hx, hb, hml, hown, hts⟩ (sx_X12_isSign l G ad I29 J8 ⟨(by show 0 ≤ (I29 0 36).toInt ∧ (I29 0 36).toInt ≤ 4; rw [eI29, z_up_n (by decide)]; exact k13), (by show 0 ≤ (I29 0 42).toInt ∧ (I29 0 42).toInt ≤ 1; rw [eI29, z_up_n (by decide)]; exact k14)⟩ 45 _) (cwV 1 hts gX12_sums_X12_isSign rfl rfl rfl (by decide +kernel) ⟨Nat.le_of_ble_eq_true rfl, Nat.le_of_ble_eq_true rfl⟩) (z_preV (i := 0) hK hW rfl rfl) rfl rfl hl.1 rfl (lv_room (Nat.le_of_ble_eq_true rfl)) dX12_sums_92 ⟨Nat.le_of_ble_eq_true rfl, Nat.le_of_ble_eq_true rfl⟩) (fun r u1 H locs hp hW hS => ?_)
        obtain ⟨e9, hp⟩ := hp
        rw [e9] at hW
        rcases hp with ⟨rfl, h76⟩ | rfl
        · rw [show (I29 0 36) = (I6 0 36) from by rw [eI29, z_up_n (by decide)]] at h76
          have h77 : (I6 0 35).toInt + 1 ≤ (I6 0 34).toInt := by omega
          refine lv_if_eq (tgt := 102) hx hb dX12_sums_95 (by decide) (fun c78 => absurd c78 (by decide)) (fun c78 => ?_)
          refine lv_iconst (v := 3) hx hb dX12_sums_98 (by decide) ?_
          refine lv_goto (tgt := 133) hx hb dX12_sums_99 (by decide) ?_
          refine lv_istore_n (lv' := [(3, .int 3), (0, .ref (ad 0)), (1, .int a1), (2, .int 1)]) hx hb dX12_sums_133 rfl hl (by decide) rfl (fun ls hl => ?_)
          refine lv_iload_n hx hb dX12_sums_134 rfl (lv_at hl 0 rfl) ?_
          refine lv_if_le (tgt := 165) hx hb dX12_sums_135 (by decide) (fun c79 => absurd c79 (by decide)) (fun c79 => ?_)
          refine lv_aload_n hx hb dX12_sums_138 rfl (lv_at hl 1 rfl) ?_
          refine z_cv hW hS hA (va_runV (As := []) (rest := []) ⟨hx, hb, hml, hown, hts⟩ (sx_X12_next l G ad I29 J8 ⟨(by show 0 ≤ (I29 0 31).toInt ∧ (I29 0 31).toInt ≤ 500; rw [eI29, z_up_n (by decide)]; exact k9), (by show 0 ≤ (I29 0 33).toInt ∧ (I29 0 33).toInt ≤ 500; rw [eI29, z_up_n (by decide)]; exact k10), (by show 0 ≤ (I29 0 34).toInt ∧ (I29 0 34).toInt ≤ 500; rw [eI29, z_up_n (by decide)]; exact k11), (by show 0 ≤ (I29 0 35).toInt ∧ (I29 0 35).toInt ≤ 500; rw [eI29, z_up_n (by decide)]; exact k12)⟩ ⟨(by show 0 ≤ (I29 0 36).toInt ∧ (I29 0 36).toInt ≤ 4; rw [eI29, z_up_n (by decide)]; exact k13), (by show 0 ≤ (I29 0 42).toInt ∧ (I29 0 42).toInt ≤ 1; rw [eI29, z_up_n (by decide)]; exact k14)⟩ (by have q0 : (I29 0 34) = (I6 0 34) := by rw [eI29, z_up_n (by decide)]; have q1 : (I29 0 33) = (I6 0 33) := by rw [eI29, z_up_n (by decide)]; show 0 ≤ (I29 0 34).toInt ∧ (I29 0 34).toInt ≤ (I29 0 33).toInt ∧ (I29 0 33).toInt ≤ 500; rw [q0, q1]; first | omega | decide)  _) (cwV 0 hts gX12_sums_X12_next rfl rfl rfl (by decide +kernel) ⟨Nat.le_of_ble_eq_true rfl, Nat.le_of_ble_eq_true rfl⟩) (z_preV (i := 0) hK hW rfl rfl) rfl rfl hl.1 rfl (lv_room (Nat.le_of_ble_eq_true rfl)) dX12_sums_139 ⟨Nat.le_of_ble_eq_true rfl, Nat.le_of_ble_eq_true rfl⟩) (fun u1 H locs hp hW hS => ?_)
          obtain ⟨I80, J82, e9, hI80mp, hI80mt, hI80rp, fI80, hp⟩ := hp
          rw [e9] at hW
          have f81 := z_fr_sub (L := L_X12_sums_1) f30 fI80 (by decide)
          have k83 : 0 ≤ (I80 0 47).toInt ∧ (I80 0 47).toInt ≤ 119 := by rw [fI80 0 47 (by decide)]; exact (by show 0 ≤ (I29 0 47).toInt ∧ (I29 0 47).toInt ≤ 119; rw [eI29, z_up_n (by decide)]; exact k15)
          have k84 : 0 ≤ (I80 0 39).toInt ∧ (I80 0 39).toInt ≤ 100 := by rw [fI80 0 39 (by decide)]; exact (by show 0 ≤ (I29 0 39).toInt ∧ (I29 0 39).toInt ≤ 100; rw [eI29, z_up_n (by decide)]; exact k16)
          have k85 : 0 ≤ (I80 0 40).toInt ∧ (I80 0 40).toInt ≤ 6199 := by rw [fI80 0 40 (by decide)]; exact (by show 0 ≤ (I29 0 40).toInt ∧ (I29 0 40).toInt ≤ 6199; rw [eI29, z_up_n (by decide)]; exact k17)
          have k86 : 0 ≤ (I80 0 15).toInt ∧ (I80 0 15).toInt ≤ 6100 := by rw [fI80 0 15 (by decide)]; exact (by show 0 ≤ (I29 0 15).toInt ∧ (I29 0 15).toInt ≤ 6100; rw [eI29, z_up_n (by decide)]; exact hI6mn)
          have k87 : 0 ≤ (I80 0 35).toInt ∧ (I80 0 35).toInt ≤ (I80 0 34).toInt ∧ (I80 0 34).toInt ≤ (I80 0 33).toInt ∧ (I80 0 33).toInt ≤ 500 ∧ ((I80 0 36).toInt = 0 ∨ (I80 0 35).toInt + 1 ≤ (I80 0 34).toInt) := hI80rp
          have k88 : (I80 0 42).toInt = (I6 0 42).toInt := by rw [fI80 0 42 (by decide), eI29, z_up_n (by decide)]
          have k89 : (I80 0 47).toInt = (I6 0 47).toInt := by rw [fI80 0 47 (by decide), eI29, z_up_n (by decide)]
          have k90 : (I80 0 39).toInt = (I6 0 39).toInt := by rw [fI80 0 39 (by decide), eI29, z_up_n (by decide)]
          have k91 : (I80 0 15).toInt = (I6 0 15).toInt := by rw [fI80 0 15 (by decide), eI29, z_up_n (by decide)]
          have k92 : (I80 0 40).toInt = (I6 0 40).toInt := by rw [fI80 0 40 (by decide), eI29, z_up_n (by decide)]
          have h93 := hp
          rw [show (I29 0 34) = (I6 0 34) from by rw [eI29, z_up_n (by decide)]] at h93
          refine lv_aload_n hx hb dX12_sums_142 rfl (lv_at hl 1 rfl) ?_
          refine z_get (T := TX12) (N := 96) (ci := 12) (i := 0) (v := .ref (ad 29)) hx hb hts zj_X12_sums_X12 hown hK hW rfl rfl 46 (by decide) (hts (.fieldLink RX12 100 "PetrolBoardModel" "sort" "[I") (List.mem_of_getElem? (i := 4) rfl)) (fun _ h => h) rfl dX12_sums_143 ?_
          refine lv_iload_n hx hb dX12_sums_146 rfl (lv_at hl 2 rfl) ?_
          refine lv_iload_n hx hb dX12_sums_147 rfl (lv_at hl 0 rfl) ?_
          refine z_iast (i := 29) hx hb hK hW hS rfl (z_ix rfl (by omega) (by omega)) dX12_sums_148 (fun H locs hz1 hW hS => ?_)
          obtain ⟨I94, eI94⟩ : ∃ K : z_I, K = z_up I80 29 a1.toNatClampNeg 3 := ⟨_, rfl⟩
          rw [← eI94] at hW
          have f95 := z_fr_a f81 (show z_wa L_X12_sums_1 29 = true by decide) eI94
          have a96 := z_Nd_n (z_Nd_fr a31 fI80 (by decide)) (by decide) eI94
          refine lv_aload_n hx hb dX12_sums_149 rfl (lv_at hl 1 rfl) ?_
          refine lv_iload_n hx hb dX12_sums_150 rfl (lv_at hl 3 rfl) ?_
          refine lv_if_eq (tgt := 158) hx hb dX12_sums_151 (by decide) (fun c97 => absurd c97 (by decide)) (fun c97 => ?_)
          refine lv_iconst (v := 1) hx hb dX12_sums_154 (by decide) ?_
          refine lv_goto (tgt := 159) hx hb dX12_sums_155 (by decide) ?_
          refine z_cv hW hS hA (va_runV (As := [.int 1]) (rest := []) ⟨hx, hb, hml, hown, hts⟩ (sx_X12_begin l G ad I94 J82 ⟨(by show 0 ≤ (I94 0 47).toInt ∧ (I94 0 47).toInt ≤ 119; rw [eI94, z_up_n (by decide)]; exact k83), (by show 0 ≤ (I94 0 39).toInt ∧ (I94 0 39).toInt ≤ 100; rw [eI94, z_up_n (by decide)]; exact k84)⟩ 1 (by have q0 : (I94 0 47) = (I80 0 47) := by rw [eI94, z_up_n (by decide)]; show (I94 0 47).toInt ≤ 118; rw [q0]; omega) _) (cwV 1 hts gX12_sums_X12_begin rfl rfl rfl (by decide +kernel) ⟨Nat.le_of_ble_eq_true rfl, Nat.le_of_ble_eq_true rfl⟩) (z_preV (i := 0) hK hW rfl rfl) rfl rfl hl.1 rfl (lv_room (Nat.le_of_ble_eq_true rfl)) dX12_sums_159 ⟨Nat.le_of_ble_eq_true rfl, Nat.le_of_ble_eq_true rfl⟩) (fun u1 H locs hp hW hS => ?_)
          obtain ⟨I98, J100, e9, hI98md, fI98, hp⟩ := hp
          rw [e9] at hW
          have f99 := z_fr_sub (L := L_X12_sums_1) f95 fI98 (by decide)
          have k101 : 0 ≤ (I98 0 31).toInt ∧ (I98 0 31).toInt ≤ 500 := by rw [fI98 0 31 (by decide)]; exact (by show 0 ≤ (I94 0 31).toInt ∧ (I94 0 31).toInt ≤ 500; rw [eI94, z_up_n (by decide)]; exact hI80mp.1)
          have k102 : 0 ≤ (I98 0 33).toInt ∧ (I98 0 33).toInt ≤ 500 := by rw [fI98 0 33 (by decide)]; exact (by show 0 ≤ (I94 0 33).toInt ∧ (I94 0 33).toInt ≤ 500; rw [eI94, z_up_n (by decide)]; exact hI80mp.2.1)
          have k103 : 0 ≤ (I98 0 34).toInt ∧ (I98 0 34).toInt ≤ 500 := by rw [fI98 0 34 (by decide)]; exact (by show 0 ≤ (I94 0 34).toInt ∧ (I94 0 34).toInt ≤ 500; rw [eI94, z_up_n (by decide)]; exact hI80mp.2.2.1)
          have k104 : 0 ≤ (I98 0 35).toInt ∧ (I98 0 35).toInt ≤ 500 := by rw [fI98 0 35 (by decide)]; exact (by show 0 ≤ (I94 0 35).toInt ∧ (I94 0 35).toInt ≤ 500; rw [eI94, z_up_n (by decide)]; exact hI80mp.2.2.2)
          have k105 : 0 ≤ (I98 0 36).toInt ∧ (I98 0 36).toInt ≤ 4 := by rw [fI98 0 36 (by decide)]; exact (by show 0 ≤ (I94 0 36).toInt ∧ (I94 0 36).toInt ≤ 4; rw [eI94, z_up_n (by decide)]; exact hI80mt.1)
          have k106 : 0 ≤ (I98 0 42).toInt ∧ (I98 0 42).toInt ≤ 1 := by rw [fI98 0 42 (by decide)]; exact (by show 0 ≤ (I94 0 42).toInt ∧ (I94 0 42).toInt ≤ 1; rw [eI94, z_up_n (by decide)]; exact hI80mt.2)
          have k107 : 0 ≤ (I98 0 40).toInt ∧ (I98 0 40).toInt ≤ 6199 := by rw [fI98 0 40 (by decide)]; exact (by show 0 ≤ (I94 0 40).toInt ∧ (I94 0 40).toInt ≤ 6199; rw [eI94, z_up_n (by decide)]; exact k85)
          have k108 : 0 ≤ (I98 0 15).toInt ∧ (I98 0 15).toInt ≤ 6100 := by rw [fI98 0 15 (by decide)]; exact (by show 0 ≤ (I94 0 15).toInt ∧ (I94 0 15).toInt ≤ 6100; rw [eI94, z_up_n (by decide)]; exact k86)
          have k109 : 0 ≤ (I98 0 35).toInt ∧ (I98 0 35).toInt ≤ (I98 0 34).toInt ∧ (I98 0 34).toInt ≤ (I98 0 33).toInt ∧ (I98 0 33).toInt ≤ 500 ∧ ((I98 0 36).toInt = 0 ∨ (I98 0 35).toInt + 1 ≤ (I98 0 34).toInt) := (by have q0 : (I98 0 35) = (I80 0 35) := by rw [fI98 0 35 (by decide), eI94, z_up_n (by decide)]; have q1 : (I98 0 34) = (I80 0 34) := by rw [fI98 0 34 (by decide), eI94, z_up_n (by decide)]; have q2 : (I98 0 33) = (I80 0 33) := by rw [fI98 0 33 (by decide), eI94, z_up_n (by decide)]; have q3 : (I98 0 36) = (I80 0 36) := by rw [fI98 0 36 (by decide), eI94, z_up_n (by decide)]; show 0 ≤ (I98 0 35).toInt ∧ (I98 0 35).toInt ≤ (I98 0 34).toInt ∧ (I98 0 34).toInt ≤ (I98 0 33).toInt ∧ (I98 0 33).toInt ≤ 500 ∧ ((I98 0 36).toInt = 0 ∨ (I98 0 35).toInt + 1 ≤ (I98 0 34).toInt); rw [q0, q1, q2, q3]; first | omega | decide)
          have k110 : (I98 0 35).toInt = (I80 0 35).toInt := by rw [fI98 0 35 (by decide), eI94, z_up_n (by decide)]
          have k111 : (I98 0 34).toInt = (I80 0 34).toInt := by rw [fI98 0 34 (by decide), eI94, z_up_n (by decide)]
          have k112 : (I98 0 36).toInt = (I80 0 36).toInt := by rw [fI98 0 36 (by decide), eI94, z_up_n (by decide)]
          have k113 : (I98 0 42).toInt = (I80 0 42).toInt := by rw [fI98 0 42 (by decide), eI94, z_up_n (by decide)]
          have k114 : (I98 0 39).toInt = (I80 0 39).toInt := by rw [fI98 0 39 (by decide), eI94, z_up_n (by decide)]
          have k115 : (I98 0 15).toInt = (I80 0 15).toInt := by rw [fI98 0 15 (by decide), eI94, z_up_n (by decide)]
          have k116 : (I98 0 40).toInt = (I80 0 40).toInt := by rw [fI98 0 40 (by decide), eI94, z_up_n (by decide)]
          have h117 := hp
          refine lv_goto (tgt := 175) hx hb dX12_sums_162 (by decide) ?_
          exact z_vret hx hb hr hK hS (Nat.le_of_ble_eq_true rfl) (Nat.le_of_ble_eq_true rfl) hlocks dX12_sums_175 (shM, ad, I98, J100, PM ad) hW ⟨I98, J100, rfl, ⟨(by show 0 ≤ (I98 0 31).toInt ∧ (I98 0 31).toInt ≤ 500; exact k101), (by show 0 ≤ (I98 0 33).toInt ∧ (I98 0 33).toInt ≤ 500; exact k102), (by show 0 ≤ (I98 0 34).toInt ∧ (I98 0 34).toInt ≤ 500; exact k103), (by show 0 ≤ (I98 0 35).toInt ∧ (I98 0 35).toInt ≤ 500; exact k104)⟩, ⟨(by show 0 ≤ (I98 0 36).toInt ∧ (I98 0 36).toInt ≤ 4; exact k105), (by show 0 ≤ (I98 0 42).toInt ∧ (I98 0 42).toInt ≤ 1; exact k106)⟩, ⟨(by show 0 ≤ (I98 0 47).toInt ∧ (I98 0 47).toInt ≤ 119; exact hI98md.1), (by show 0 ≤ (I98 0 39).toInt ∧ (I98 0 39).toInt ≤ 100; exact hI98md.2)⟩, (by show 0 ≤ (I98 0 40).toInt ∧ (I98 0 40).toInt ≤ 6199; exact k107), (by show 0 ≤ (I98 0 15).toInt ∧ (I98 0 15).toInt ≤ 6100; exact k108), (z_Nd_fr a96 fI98 (by decide)), (by show 0 ≤ (I98 0 35).toInt ∧ (I98 0 35).toInt ≤ (I98 0 34).toInt ∧ (I98 0 34).toInt ≤ (I98 0 33).toInt ∧ (I98 0 33).toInt ≤ 500 ∧ ((I98 0 36).toInt = 0 ∨ (I98 0 35).toInt + 1 ≤ (I98 0 34).toInt); first | omega | decide), f99, ((Classical.em ((I98 0 42).toInt = 0)).elim (fun hw9 => Or.inr ⟨a1.toNatClampNeg + 2, by have w1 := z_fw_0np (a := va.toInt) (o := vo.toInt) (by omega) (by omega); have w2 := z_fo_0n (a := va.toInt); have w3 := z_fw_0np (a := va.toInt) (o := x26.toInt) (by omega) (by omega); have w4 := z_fo_0n (a := va.toInt); have w5 := z_fw_10 (a := 0) (o := -1) (by omega); have w6 := z_rk_0; have w7 := z_rk_1; exact z_PUSH (d := a1.toNatClampNeg) (w := 0) (a := va.toInt) (o := x26.toInt) (s := 3) (wi := 1) hPS (fun i hi => ⟨by rw [eI94, z_up_n (by decide), fI80 26 i (z_wr_c (by decide)), eI29, z_up_n (by decide), fI6 26 i (z_wr_c (by decide))], by rw [eI94, z_up_n (by decide), fI80 27 i (z_wr_c (by decide)), eI29, z_up_n (by decide), fI6 27 i (z_wr_c (by decide))], by rw [eI94, z_up_n (by decide), fI80 28 i (z_wr_c (by decide)), eI29, z_up_k (by omega), fI6 28 i (z_wr_c (by decide))], by rw [eI94, z_up_k (by omega), fI80 29 i (z_wr_c (by decide)), eI29, z_up_n (by decide), fI6 29 i (z_wr_c (by decide))]⟩) (by rw [show I94 26 a1.toNatClampNeg = vw from (by rw [eI94, z_up_n (by decide), fI80 26 a1.toNatClampNeg (z_wr_c (by decide)), eI29, z_up_n (by decide), fI6 26 a1.toNatClampNeg (z_wr_c (by decide))]; exact evw.symm)]; exact hvw) (by rw [show I94 27 a1.toNatClampNeg = va from (by rw [eI94, z_up_n (by decide), fI80 27 a1.toNatClampNeg (z_wr_c (by decide)), eI29, z_up_n (by decide), fI6 27 a1.toNatClampNeg (z_wr_c (by decide))]; exact eva.symm)]; exact rfl) (by rw [show I94 28 a1.toNatClampNeg = x26 from (by rw [eI94, z_up_n (by decide), fI80 28 a1.toNatClampNeg (z_wr_c (by decide)), eI29, z_up_s])]; exact rfl) (by rw [show I94 29 a1.toNatClampNeg = 3 from (by rw [eI94, z_up_s])]; exact z_l3) (by unfold z_fv; omega) hwd (by rw [eI94, z_up_n (by decide)]; omega) h117 z_l1 (by omega) (by omega) (by omega) (by omega) (by omega) (by omega) (by omega) (by omega)⟩) Or.inl)⟩
        · refine lv_if_eq (tgt := 102) hx hb dX12_sums_95 (by decide) (fun c118 => ?_) (fun c118 => absurd (by decide) c118)
          refine lv_iconst (v := 0) hx hb dX12_sums_102 (by decide) ?_
          refine lv_goto (tgt := 133) hx hb dX12_sums_103 (by decide) ?_
          refine lv_istore_n (lv' := [(3, .int 0), (0, .ref (ad 0)), (1, .int a1), (2, .int 1)]) hx hb dX12_sums_133 rfl hl (by decide) rfl (fun ls hl => ?_)
          refine lv_iload_n hx hb dX12_sums_134 rfl (lv_at hl 0 rfl) ?_
          refine lv_if_le (tgt := 165) hx hb dX12_sums_135 (by decide) (fun c119 => ?_) (fun c119 => absurd (by decide) c119)
          refine lv_aload_n hx hb dX12_sums_165 rfl (lv_at hl 1 rfl) ?_
          refine lv_aload_n hx hb dX12_sums_166 rfl (lv_at hl 1 rfl) ?_
          refine z_get (T := TX12) (N := 96) (ci := 12) (i := 0) (v := .ref (ad 28)) hx hb hts zj_X12_sums_X12 hown hK hW rfl rfl 45 (by decide) (hts (.fieldLink RX12 97 "PetrolBoardModel" "one" "[I") (List.mem_of_getElem? (i := 2) rfl)) (fun _ h => h) rfl dX12_sums_167 ?_
          refine lv_iload_n hx hb dX12_sums_170 rfl (lv_at hl 2 rfl) ?_
          refine z_iald (i := 28) hx hb hK hW rfl (z_ix rfl (by omega) (by omega)) dX12_sums_171 ?_
          refine z_topi (v := x26) (by rw [eI29, z_up_s]) ?_
          refine z_cv hW hS hA (va_runV (As := [.int x26]) (rest := []) ⟨hx, hb, hml, hown, hts⟩ (sx_X12_ends l G ad I29 J8 ⟨(by show 0 ≤ (I29 0 47).toInt ∧ (I29 0 47).toInt ≤ 119; rw [eI29, z_up_n (by decide)]; exact k15), (by show 0 ≤ (I29 0 39).toInt ∧ (I29 0 39).toInt ≤ 100; rw [eI29, z_up_n (by decide)]; exact k16)⟩ (by show 0 ≤ (I29 0 40).toInt ∧ (I29 0 40).toInt ≤ 6199; rw [eI29, z_up_n (by decide)]; exact k17) x26 (by first | omega | decide) (by have q0 : (I29 0 47) = (I6 0 47) := by rw [eI29, z_up_n (by decide)]; show 1 ≤ (I29 0 47).toInt; rw [q0]; omega) _) (cwV 1 hts gX12_sums_X12_ends rfl rfl rfl (by decide +kernel) ⟨Nat.le_of_ble_eq_true rfl, Nat.le_of_ble_eq_true rfl⟩) (z_preV (i := 0) hK hW rfl rfl) rfl rfl hl.1 rfl (lv_room (Nat.le_of_ble_eq_true rfl)) dX12_sums_172 ⟨Nat.le_of_ble_eq_true rfl, Nat.le_of_ble_eq_true rfl⟩) (fun u1 H locs hp hW hS => ?_)
          obtain ⟨I120, J122, e9, hI120md, hI120mg, fI120, hp⟩ := hp
          rw [e9] at hW
          have f121 := z_fr_sub (L := L_X12_sums_1) f30 fI120 (by decide)
          have k123 : 0 ≤ (I120 0 31).toInt ∧ (I120 0 31).toInt ≤ 500 := by rw [fI120 0 31 (by decide)]; exact (by show 0 ≤ (I29 0 31).toInt ∧ (I29 0 31).toInt ≤ 500; rw [eI29, z_up_n (by decide)]; exact k9)
          have k124 : 0 ≤ (I120 0 33).toInt ∧ (I120 0 33).toInt ≤ 500 := by rw [fI120 0 33 (by decide)]; exact (by show 0 ≤ (I29 0 33).toInt ∧ (I29 0 33).toInt ≤ 500; rw [eI29, z_up_n (by decide)]; exact k10)
          have k125 : 0 ≤ (I120 0 34).toInt ∧ (I120 0 34).toInt ≤ 500 := by rw [fI120 0 34 (by decide)]; exact (by show 0 ≤ (I29 0 34).toInt ∧ (I29 0 34).toInt ≤ 500; rw [eI29, z_up_n (by decide)]; exact k11)
          have k126 : 0 ≤ (I120 0 35).toInt ∧ (I120 0 35).toInt ≤ 500 := by rw [fI120 0 35 (by decide)]; exact (by show 0 ≤ (I29 0 35).toInt ∧ (I29 0 35).toInt ≤ 500; rw [eI29, z_up_n (by decide)]; exact k12)
          have k127 : 0 ≤ (I120 0 36).toInt ∧ (I120 0 36).toInt ≤ 4 := by rw [fI120 0 36 (by decide)]; exact (by show 0 ≤ (I29 0 36).toInt ∧ (I29 0 36).toInt ≤ 4; rw [eI29, z_up_n (by decide)]; exact k13)
          have k128 : 0 ≤ (I120 0 42).toInt ∧ (I120 0 42).toInt ≤ 1 := by rw [fI120 0 42 (by decide)]; exact (by show 0 ≤ (I29 0 42).toInt ∧ (I29 0 42).toInt ≤ 1; rw [eI29, z_up_n (by decide)]; exact k14)
          have k129 : 0 ≤ (I120 0 15).toInt ∧ (I120 0 15).toInt ≤ 6100 := by rw [fI120 0 15 (by decide)]; exact (by show 0 ≤ (I29 0 15).toInt ∧ (I29 0 15).toInt ≤ 6100; rw [eI29, z_up_n (by decide)]; exact hI6mn)
          have k130 : 0 ≤ (I120 0 35).toInt ∧ (I120 0 35).toInt ≤ (I120 0 34).toInt ∧ (I120 0 34).toInt ≤ (I120 0 33).toInt ∧ (I120 0 33).toInt ≤ 500 ∧ ((I120 0 36).toInt = 0 ∨ (I120 0 35).toInt + 1 ≤ (I120 0 34).toInt) := (by have q0 : (I120 0 35) = (I6 0 35) := by rw [fI120 0 35 (by decide), eI29, z_up_n (by decide)]; have q1 : (I120 0 34) = (I6 0 34) := by rw [fI120 0 34 (by decide), eI29, z_up_n (by decide)]; have q2 : (I120 0 33) = (I6 0 33) := by rw [fI120 0 33 (by decide), eI29, z_up_n (by decide)]; have q3 : (I120 0 36) = (I6 0 36) := by rw [fI120 0 36 (by decide), eI29, z_up_n (by decide)]; show 0 ≤ (I120 0 35).toInt ∧ (I120 0 35).toInt ≤ (I120 0 34).toInt ∧ (I120 0 34).toInt ≤ (I120 0 33).toInt ∧ (I120 0 33).toInt ≤ 500 ∧ ((I120 0 36).toInt = 0 ∨ (I120 0 35).toInt + 1 ≤ (I120 0 34).toInt); rw [q0, q1, q2, q3]; first | omega | decide)
          have k131 : (I120 0 35).toInt = (I6 0 35).toInt := by rw [fI120 0 35 (by decide), eI29, z_up_n (by decide)]
          have k132 : (I120 0 34).toInt = (I6 0 34).toInt := by rw [fI120 0 34 (by decide), eI29, z_up_n (by decide)]
          have k133 : (I120 0 36).toInt = (I6 0 36).toInt := by rw [fI120 0 36 (by decide), eI29, z_up_n (by decide)]
          have k134 : (I120 0 42).toInt = (I6 0 42).toInt := by rw [fI120 0 42 (by decide), eI29, z_up_n (by decide)]
          have k135 : (I120 0 39).toInt = (I6 0 39).toInt := by rw [fI120 0 39 (by decide), eI29, z_up_n (by decide)]
          have k136 : (I120 0 15).toInt = (I6 0 15).toInt := by rw [fI120 0 15 (by decide), eI29, z_up_n (by decide)]
          have h137 := hp
          rw [show (I29 0 47) = (I6 0 47) from by rw [eI29, z_up_n (by decide)]] at h137
          exact z_vret hx hb hr hK hS (Nat.le_of_ble_eq_true rfl) (Nat.le_of_ble_eq_true rfl) hlocks dX12_sums_175 (shM, ad, I120, J122, PM ad) hW ⟨I120, J122, rfl, ⟨(by show 0 ≤ (I120 0 31).toInt ∧ (I120 0 31).toInt ≤ 500; exact k123), (by show 0 ≤ (I120 0 33).toInt ∧ (I120 0 33).toInt ≤ 500; exact k124), (by show 0 ≤ (I120 0 34).toInt ∧ (I120 0 34).toInt ≤ 500; exact k125), (by show 0 ≤ (I120 0 35).toInt ∧ (I120 0 35).toInt ≤ 500; exact k126)⟩, ⟨(by show 0 ≤ (I120 0 36).toInt ∧ (I120 0 36).toInt ≤ 4; exact k127), (by show 0 ≤ (I120 0 42).toInt ∧ (I120 0 42).toInt ≤ 1; exact k128)⟩, ⟨(by show 0 ≤ (I120 0 47).toInt ∧ (I120 0 47).toInt ≤ 119; exact hI120md.1), (by show 0 ≤ (I120 0 39).toInt ∧ (I120 0 39).toInt ≤ 100; exact hI120md.2)⟩, (by show 0 ≤ (I120 0 40).toInt ∧ (I120 0 40).toInt ≤ 6199; exact hI120mg), (by show 0 ≤ (I120 0 15).toInt ∧ (I120 0 15).toInt ≤ 6100; exact k129), (z_Nd_fr a31 fI120 (by decide)), (by show 0 ≤ (I120 0 35).toInt ∧ (I120 0 35).toInt ≤ (I120 0 34).toInt ∧ (I120 0 34).toInt ≤ (I120 0 33).toInt ∧ (I120 0 33).toInt ≤ 500 ∧ ((I120 0 36).toInt = 0 ∨ (I120 0 35).toInt + 1 ≤ (I120 0 34).toInt); first | omega | decide), f121, ((Classical.em ((I120 0 42).toInt = 0)).elim (fun hw9 => Or.inr ⟨a1.toNatClampNeg, by have w1 := z_fw_0np (a := va.toInt) (o := vo.toInt) (by omega) (by omega); have w2 := z_fo_0n (a := va.toInt); exact z_POP (d := a1.toNatClampNeg) hPS (fun i hi => ⟨by rw [fI120 26 i (z_wr_c (by decide)), eI29, z_up_n (by decide), fI6 26 i (z_wr_c (by decide))], by rw [fI120 27 i (z_wr_c (by decide)), eI29, z_up_n (by decide), fI6 27 i (z_wr_c (by decide))], by rw [fI120 28 i (z_wr_c (by decide)), eI29, z_up_k (by omega), fI6 28 i (z_wr_c (by decide))], by rw [fI120 29 i (z_wr_c (by decide)), eI29, z_up_n (by decide), fI6 29 i (z_wr_c (by decide))]⟩) (by omega) (by omega) (by omega) (by omega) (by omega) (by omega)⟩) Or.inl)⟩
    · have g138 := z_f_nge rfl z_l0 c3
      refine lv_aload_n hx hb dX12_sums_44 rfl (lv_at hl 0 rfl) ?_
      have r139 : 0 ≤ (I 0 40).toInt ∧ (I 0 40).toInt ≤ 6199 := hmg
      refine z_get (T := TX12) (N := 96) (ci := 12) (i := 0) (v := .int (I 0 40)) hx hb hts zj_X12_sums_X12 hown hK hW rfl rfl 40 (by decide) (hts (.fieldLink RX12 343 "PetrolBoardModel" "got" "I") (List.mem_of_getElem? (i := 3) rfl)) (fun _ h => h) rfl dX12_sums_45 ?_
      refine lv_goto (tgt := 71) hx hb dX12_sums_48 (by decide) ?_
      refine z_iast (i := 28) hx hb hK hW hS rfl (z_ix rfl (by omega) (by omega)) dX12_sums_71 (fun H locs hz1 hW hS => ?_)
      obtain ⟨I140, eI140⟩ : ∃ K : z_I, K = z_up I 28 a1.toNatClampNeg (I 0 40) := ⟨_, rfl⟩
      rw [← eI140] at hW
      have f141 := z_fr_a z_fr_0 (show z_wa L_X12_sums_1 28 = true by decide) eI140
      have a142 := z_Nd_n hNd (by decide) eI140
      refine lv_iload_n hx hb dX12_sums_72 rfl (lv_at hl 2 rfl) ?_
      refine lv_if_eq (tgt := 106) hx hb dX12_sums_73 (by decide) (fun c143 => absurd c143 (by decide)) (fun c143 => ?_)
      refine lv_aload_n hx hb dX12_sums_76 rfl (lv_at hl 0 rfl) ?_
      refine lv_bipush (v := 43) hx hb dX12_sums_77 (by decide) ?_
      refine z_ci hW hS hA (va_runV (As := [.int 43]) (rest := []) ⟨hx, hb, hml, hown, hts⟩ (sx_X12_isSign l G ad I140 J ⟨(by show 0 ≤ (I140 0 36).toInt ∧ (I140 0 36).toInt ≤ 4; rw [eI140, z_up_n (by decide)]; exact hmt.1), (by show 0 ≤ (I140 0 42).toInt ∧ (I140 0 42).toInt ≤ 1; rw [eI140, z_up_n (by decide)]; exact hmt.2)⟩ 43 _) (cwV 1 hts gX12_sums_X12_isSign rfl rfl rfl (by decide +kernel) ⟨Nat.le_of_ble_eq_true rfl, Nat.le_of_ble_eq_true rfl⟩) (z_preV (i := 0) hK hW rfl rfl) rfl rfl hl.1 rfl (lv_room (Nat.le_of_ble_eq_true rfl)) dX12_sums_79 ⟨Nat.le_of_ble_eq_true rfl, Nat.le_of_ble_eq_true rfl⟩) (fun r u1 H locs hp hW hS => ?_)
      obtain ⟨e9, hp⟩ := hp
      rw [e9] at hW
      rcases hp with ⟨rfl, h144⟩ | rfl
      · rw [show (I140 0 36) = (I 0 36) from by rw [eI140, z_up_n (by decide)]] at h144
        have h145 : (I 0 35).toInt + 1 ≤ (I 0 34).toInt := by omega
        refine lv_if_eq (tgt := 89) hx hb dX12_sums_82 (by decide) (fun c146 => absurd c146 (by decide)) (fun c146 => ?_)
        refine lv_iconst (v := 2) hx hb dX12_sums_85 (by decide) ?_
        refine lv_goto (tgt := 133) hx hb dX12_sums_86 (by decide) ?_
        refine lv_istore_n (lv' := [(3, .int 2), (0, .ref (ad 0)), (1, .int a1), (2, .int 1)]) hx hb dX12_sums_133 rfl hl (by decide) rfl (fun ls hl => ?_)
        refine lv_iload_n hx hb dX12_sums_134 rfl (lv_at hl 0 rfl) ?_
        refine lv_if_le (tgt := 165) hx hb dX12_sums_135 (by decide) (fun c147 => absurd c147 (by decide)) (fun c147 => ?_)
        refine lv_aload_n hx hb dX12_sums_138 rfl (lv_at hl 1 rfl) ?_
        refine z_cv hW hS hA (va_runV (As := []) (rest := []) ⟨hx, hb, hml, hown, hts⟩ (sx_X12_next l G ad I140 J ⟨(by show 0 ≤ (I140 0 31).toInt ∧ (I140 0 31).toInt ≤ 500; rw [eI140, z_up_n (by decide)]; exact hmp.1), (by show 0 ≤ (I140 0 33).toInt ∧ (I140 0 33).toInt ≤ 500; rw [eI140, z_up_n (by decide)]; exact hmp.2.1), (by show 0 ≤ (I140 0 34).toInt ∧ (I140 0 34).toInt ≤ 500; rw [eI140, z_up_n (by decide)]; exact hmp.2.2.1), (by show 0 ≤ (I140 0 35).toInt ∧ (I140 0 35).toInt ≤ 500; rw [eI140, z_up_n (by decide)]; exact hmp.2.2.2)⟩ ⟨(by show 0 ≤ (I140 0 36).toInt ∧ (I140 0 36).toInt ≤ 4; rw [eI140, z_up_n (by decide)]; exact hmt.1), (by show 0 ≤ (I140 0 42).toInt ∧ (I140 0 42).toInt ≤ 1; rw [eI140, z_up_n (by decide)]; exact hmt.2)⟩ (by have q0 : (I140 0 34) = (I 0 34) := by rw [eI140, z_up_n (by decide)]; have q1 : (I140 0 33) = (I 0 33) := by rw [eI140, z_up_n (by decide)]; show 0 ≤ (I140 0 34).toInt ∧ (I140 0 34).toInt ≤ (I140 0 33).toInt ∧ (I140 0 33).toInt ≤ 500; rw [q0, q1]; first | omega | decide)  _) (cwV 0 hts gX12_sums_X12_next rfl rfl rfl (by decide +kernel) ⟨Nat.le_of_ble_eq_true rfl, Nat.le_of_ble_eq_true rfl⟩) (z_preV (i := 0) hK hW rfl rfl) rfl rfl hl.1 rfl (lv_room (Nat.le_of_ble_eq_true rfl)) dX12_sums_139 ⟨Nat.le_of_ble_eq_true rfl, Nat.le_of_ble_eq_true rfl⟩) (fun u1 H locs hp hW hS => ?_)
        obtain ⟨I148, J150, e9, hI148mp, hI148mt, hI148rp, fI148, hp⟩ := hp
        rw [e9] at hW
        have f149 := z_fr_sub (L := L_X12_sums_1) f141 fI148 (by decide)
        have k151 : 0 ≤ (I148 0 47).toInt ∧ (I148 0 47).toInt ≤ 119 := by rw [fI148 0 47 (by decide)]; exact (by show 0 ≤ (I140 0 47).toInt ∧ (I140 0 47).toInt ≤ 119; rw [eI140, z_up_n (by decide)]; exact hmd.1)
        have k152 : 0 ≤ (I148 0 39).toInt ∧ (I148 0 39).toInt ≤ 100 := by rw [fI148 0 39 (by decide)]; exact (by show 0 ≤ (I140 0 39).toInt ∧ (I140 0 39).toInt ≤ 100; rw [eI140, z_up_n (by decide)]; exact hmd.2)
        have k153 : 0 ≤ (I148 0 40).toInt ∧ (I148 0 40).toInt ≤ 6199 := by rw [fI148 0 40 (by decide)]; exact (by show 0 ≤ (I140 0 40).toInt ∧ (I140 0 40).toInt ≤ 6199; rw [eI140, z_up_n (by decide)]; exact hmg)
        have k154 : 0 ≤ (I148 0 15).toInt ∧ (I148 0 15).toInt ≤ 6100 := by rw [fI148 0 15 (by decide)]; exact (by show 0 ≤ (I140 0 15).toInt ∧ (I140 0 15).toInt ≤ 6100; rw [eI140, z_up_n (by decide)]; exact hmn)
        have k155 : 0 ≤ (I148 0 35).toInt ∧ (I148 0 35).toInt ≤ (I148 0 34).toInt ∧ (I148 0 34).toInt ≤ (I148 0 33).toInt ∧ (I148 0 33).toInt ≤ 500 ∧ ((I148 0 36).toInt = 0 ∨ (I148 0 35).toInt + 1 ≤ (I148 0 34).toInt) := hI148rp
        have k156 : (I148 0 42).toInt = (I 0 42).toInt := by rw [fI148 0 42 (by decide), eI140, z_up_n (by decide)]
        have k157 : (I148 0 47).toInt = (I 0 47).toInt := by rw [fI148 0 47 (by decide), eI140, z_up_n (by decide)]
        have k158 : (I148 0 39).toInt = (I 0 39).toInt := by rw [fI148 0 39 (by decide), eI140, z_up_n (by decide)]
        have k159 : (I148 0 15).toInt = (I 0 15).toInt := by rw [fI148 0 15 (by decide), eI140, z_up_n (by decide)]
        have k160 : (I148 0 40).toInt = (I 0 40).toInt := by rw [fI148 0 40 (by decide), eI140, z_up_n (by decide)]
        have h161 := hp
        rw [show (I140 0 34) = (I 0 34) from by rw [eI140, z_up_n (by decide)]] at h161
        refine lv_aload_n hx hb dX12_sums_142 rfl (lv_at hl 1 rfl) ?_
        refine z_get (T := TX12) (N := 96) (ci := 12) (i := 0) (v := .ref (ad 29)) hx hb hts zj_X12_sums_X12 hown hK hW rfl rfl 46 (by decide) (hts (.fieldLink RX12 100 "PetrolBoardModel" "sort" "[I") (List.mem_of_getElem? (i := 4) rfl)) (fun _ h => h) rfl dX12_sums_143 ?_
        refine lv_iload_n hx hb dX12_sums_146 rfl (lv_at hl 2 rfl) ?_
        refine lv_iload_n hx hb dX12_sums_147 rfl (lv_at hl 0 rfl) ?_
        refine z_iast (i := 29) hx hb hK hW hS rfl (z_ix rfl (by omega) (by omega)) dX12_sums_148 (fun H locs hz1 hW hS => ?_)
        obtain ⟨I162, eI162⟩ : ∃ K : z_I, K = z_up I148 29 a1.toNatClampNeg 2 := ⟨_, rfl⟩
        rw [← eI162] at hW
        have f163 := z_fr_a f149 (show z_wa L_X12_sums_1 29 = true by decide) eI162
        have a164 := z_Nd_n (z_Nd_fr a142 fI148 (by decide)) (by decide) eI162
        refine lv_aload_n hx hb dX12_sums_149 rfl (lv_at hl 1 rfl) ?_
        refine lv_iload_n hx hb dX12_sums_150 rfl (lv_at hl 3 rfl) ?_
        refine lv_if_eq (tgt := 158) hx hb dX12_sums_151 (by decide) (fun c165 => absurd c165 (by decide)) (fun c165 => ?_)
        refine lv_iconst (v := 1) hx hb dX12_sums_154 (by decide) ?_
        refine lv_goto (tgt := 159) hx hb dX12_sums_155 (by decide) ?_
        refine z_cv hW hS hA (va_runV (As := [.int 1]) (rest := []) ⟨hx, hb, hml, hown, hts⟩ (sx_X12_begin l G ad I162 J150 ⟨(by show 0 ≤ (I162 0 47).toInt ∧ (I162 0 47).toInt ≤ 119; rw [eI162, z_up_n (by decide)]; exact k151), (by show 0 ≤ (I162 0 39).toInt ∧ (I162 0 39).toInt ≤ 100; rw [eI162, z_up_n (by decide)]; exact k152)⟩ 1 (by have q0 : (I162 0 47) = (I148 0 47) := by rw [eI162, z_up_n (by decide)]; show (I162 0 47).toInt ≤ 118; rw [q0]; omega) _) (cwV 1 hts gX12_sums_X12_begin rfl rfl rfl (by decide +kernel) ⟨Nat.le_of_ble_eq_true rfl, Nat.le_of_ble_eq_true rfl⟩) (z_preV (i := 0) hK hW rfl rfl) rfl rfl hl.1 rfl (lv_room (Nat.le_of_ble_eq_true rfl)) dX12_sums_159 ⟨Nat.le_of_ble_eq_true rfl, Nat.le_of_ble_eq_true rfl⟩) (fun u1 H locs hp hW hS => ?_)
        obtain ⟨I166, J168, e9, hI166md, fI166, hp⟩ := hp
        rw [e9] at hW
        have f167 := z_fr_sub (L := L_X12_sums_1) f163 fI166 (by decide)
        have k169 : 0 ≤ (I166 0 31).toInt ∧ (I166 0 31).toInt ≤ 500 := by rw [fI166 0 31 (by decide)]; exact (by show 0 ≤ (I162 0 31).toInt ∧ (I162 0 31).toInt ≤ 500; rw [eI162, z_up_n (by decide)]; exact hI148mp.1)
        have k170 : 0 ≤ (I166 0 33).toInt ∧ (I166 0 33).toInt ≤ 500 := by rw [fI166 0 33 (by decide)]; exact (by show 0 ≤ (I162 0 33).toInt ∧ (I162 0 33).toInt ≤ 500; rw [eI162, z_up_n (by decide)]; exact hI148mp.2.1)
        have k171 : 0 ≤ (I166 0 34).toInt ∧ (I166 0 34).toInt ≤ 500 := by rw [fI166 0 34 (by decide)]; exact (by show 0 ≤ (I162 0 34).toInt ∧ (I162 0 34).toInt ≤ 500; rw [eI162, z_up_n (by decide)]; exact hI148mp.2.2.1)
        have k172 : 0 ≤ (I166 0 35).toInt ∧ (I166 0 35).toInt ≤ 500 := by rw [fI166 0 35 (by decide)]; exact (by show 0 ≤ (I162 0 35).toInt ∧ (I162 0 35).toInt ≤ 500; rw [eI162, z_up_n (by decide)]; exact hI148mp.2.2.2)
        have k173 : 0 ≤ (I166 0 36).toInt ∧ (I166 0 36).toInt ≤ 4 := by rw [fI166 0 36 (by decide)]; exact (by show 0 ≤ (I162 0 36).toInt ∧ (I162 0 36).toInt ≤ 4; rw [eI162, z_up_n (by decide)]; exact hI148mt.1)
        have k174 : 0 ≤ (I166 0 42).toInt ∧ (I166 0 42).toInt ≤ 1 := by rw [fI166 0 42 (by decide)]; exact (by show 0 ≤ (I162 0 42).toInt ∧ (I162 0 42).toInt ≤ 1; rw [eI162, z_up_n (by decide)]; exact hI148mt.2)
        have k175 : 0 ≤ (I166 0 40).toInt ∧ (I166 0 40).toInt ≤ 6199 := by rw [fI166 0 40 (by decide)]; exact (by show 0 ≤ (I162 0 40).toInt ∧ (I162 0 40).toInt ≤ 6199; rw [eI162, z_up_n (by decide)]; exact k153)
        have k176 : 0 ≤ (I166 0 15).toInt ∧ (I166 0 15).toInt ≤ 6100 := by rw [fI166 0 15 (by decide)]; exact (by show 0 ≤ (I162 0 15).toInt ∧ (I162 0 15).toInt ≤ 6100; rw [eI162, z_up_n (by decide)]; exact k154)
        have k177 : 0 ≤ (I166 0 35).toInt ∧ (I166 0 35).toInt ≤ (I166 0 34).toInt ∧ (I166 0 34).toInt ≤ (I166 0 33).toInt ∧ (I166 0 33).toInt ≤ 500 ∧ ((I166 0 36).toInt = 0 ∨ (I166 0 35).toInt + 1 ≤ (I166 0 34).toInt) := (by have q0 : (I166 0 35) = (I148 0 35) := by rw [fI166 0 35 (by decide), eI162, z_up_n (by decide)]; have q1 : (I166 0 34) = (I148 0 34) := by rw [fI166 0 34 (by decide), eI162, z_up_n (by decide)]; have q2 : (I166 0 33) = (I148 0 33) := by rw [fI166 0 33 (by decide), eI162, z_up_n (by decide)]; have q3 : (I166 0 36) = (I148 0 36) := by rw [fI166 0 36 (by decide), eI162, z_up_n (by decide)]; show 0 ≤ (I166 0 35).toInt ∧ (I166 0 35).toInt ≤ (I166 0 34).toInt ∧ (I166 0 34).toInt ≤ (I166 0 33).toInt ∧ (I166 0 33).toInt ≤ 500 ∧ ((I166 0 36).toInt = 0 ∨ (I166 0 35).toInt + 1 ≤ (I166 0 34).toInt); rw [q0, q1, q2, q3]; first | omega | decide)
        have k178 : (I166 0 35).toInt = (I148 0 35).toInt := by rw [fI166 0 35 (by decide), eI162, z_up_n (by decide)]
        have k179 : (I166 0 34).toInt = (I148 0 34).toInt := by rw [fI166 0 34 (by decide), eI162, z_up_n (by decide)]
        have k180 : (I166 0 36).toInt = (I148 0 36).toInt := by rw [fI166 0 36 (by decide), eI162, z_up_n (by decide)]
        have k181 : (I166 0 42).toInt = (I148 0 42).toInt := by rw [fI166 0 42 (by decide), eI162, z_up_n (by decide)]
        have k182 : (I166 0 39).toInt = (I148 0 39).toInt := by rw [fI166 0 39 (by decide), eI162, z_up_n (by decide)]
        have k183 : (I166 0 15).toInt = (I148 0 15).toInt := by rw [fI166 0 15 (by decide), eI162, z_up_n (by decide)]
        have k184 : (I166 0 40).toInt = (I148 0 40).toInt := by rw [fI166 0 40 (by decide), eI162, z_up_n (by decide)]
        have h185 := hp
        refine lv_goto (tgt := 175) hx hb dX12_sums_162 (by decide) ?_
        exact z_vret hx hb hr hK hS (Nat.le_of_ble_eq_true rfl) (Nat.le_of_ble_eq_true rfl) hlocks dX12_sums_175 (shM, ad, I166, J168, PM ad) hW ⟨I166, J168, rfl, ⟨(by show 0 ≤ (I166 0 31).toInt ∧ (I166 0 31).toInt ≤ 500; exact k169), (by show 0 ≤ (I166 0 33).toInt ∧ (I166 0 33).toInt ≤ 500; exact k170), (by show 0 ≤ (I166 0 34).toInt ∧ (I166 0 34).toInt ≤ 500; exact k171), (by show 0 ≤ (I166 0 35).toInt ∧ (I166 0 35).toInt ≤ 500; exact k172)⟩, ⟨(by show 0 ≤ (I166 0 36).toInt ∧ (I166 0 36).toInt ≤ 4; exact k173), (by show 0 ≤ (I166 0 42).toInt ∧ (I166 0 42).toInt ≤ 1; exact k174)⟩, ⟨(by show 0 ≤ (I166 0 47).toInt ∧ (I166 0 47).toInt ≤ 119; exact hI166md.1), (by show 0 ≤ (I166 0 39).toInt ∧ (I166 0 39).toInt ≤ 100; exact hI166md.2)⟩, (by show 0 ≤ (I166 0 40).toInt ∧ (I166 0 40).toInt ≤ 6199; exact k175), (by show 0 ≤ (I166 0 15).toInt ∧ (I166 0 15).toInt ≤ 6100; exact k176), (z_Nd_fr a164 fI166 (by decide)), (by show 0 ≤ (I166 0 35).toInt ∧ (I166 0 35).toInt ≤ (I166 0 34).toInt ∧ (I166 0 34).toInt ≤ (I166 0 33).toInt ∧ (I166 0 33).toInt ≤ 500 ∧ ((I166 0 36).toInt = 0 ∨ (I166 0 35).toInt + 1 ≤ (I166 0 34).toInt); first | omega | decide), f167, ((Classical.em ((I166 0 42).toInt = 0)).elim (fun hw9 => Or.inr ⟨a1.toNatClampNeg + 2, by have w1 := z_fw_0nm (a := va.toInt) (o := vo.toInt) (by omega) (by omega); have w2 := z_fo_0n (a := va.toInt); have w3 := z_fw_0np (a := va.toInt) (o := (I 0 40).toInt) (by omega) (by omega); have w4 := z_fo_0n (a := va.toInt); have w5 := z_fw_10 (a := 0) (o := -1) (by omega); have w6 := z_rk_0; have w7 := z_rk_1; exact z_PUSH (d := a1.toNatClampNeg) (w := 0) (a := va.toInt) (o := (I 0 40).toInt) (s := 2) (wi := 1) hPS (fun i hi => ⟨by rw [eI162, z_up_n (by decide), fI148 26 i (z_wr_c (by decide)), eI140, z_up_n (by decide)], by rw [eI162, z_up_n (by decide), fI148 27 i (z_wr_c (by decide)), eI140, z_up_n (by decide)], by rw [eI162, z_up_n (by decide), fI148 28 i (z_wr_c (by decide)), eI140, z_up_k (by omega)], by rw [eI162, z_up_k (by omega), fI148 29 i (z_wr_c (by decide)), eI140, z_up_n (by decide)]⟩) (by rw [show I162 26 a1.toNatClampNeg = vw from (by rw [eI162, z_up_n (by decide), fI148 26 a1.toNatClampNeg (z_wr_c (by decide)), eI140, z_up_n (by decide)]; exact evw.symm)]; exact hvw) (by rw [show I162 27 a1.toNatClampNeg = va from (by rw [eI162, z_up_n (by decide), fI148 27 a1.toNatClampNeg (z_wr_c (by decide)), eI140, z_up_n (by decide)]; exact eva.symm)]; exact rfl) (by rw [show I162 28 a1.toNatClampNeg = (I 0 40) from (by rw [eI162, z_up_n (by decide), fI148 28 a1.toNatClampNeg (z_wr_c (by decide)), eI140, z_up_s])]; exact rfl) (by rw [show I162 29 a1.toNatClampNeg = 2 from (by rw [eI162, z_up_s])]; exact z_l2) (by unfold z_fv; omega) hwd (by rw [eI162, z_up_n (by decide)]; omega) h185 z_l1 (by omega) (by omega) (by omega) (by omega) (by omega) (by omega) (by omega) (by omega)⟩) Or.inl)⟩
      · refine lv_if_eq (tgt := 89) hx hb dX12_sums_82 (by decide) (fun c186 => ?_) (fun c186 => absurd (by decide) c186)
        refine lv_aload_n hx hb dX12_sums_89 rfl (lv_at hl 0 rfl) ?_
        refine lv_bipush (v := 45) hx hb dX12_sums_90 (by decide) ?_
        refine z_ci hW hS hA (va_runV (As := [.int 45]) (rest := []) ⟨hx, hb, hml, hown, hts⟩ (sx_X12_isSign l G ad I140 J ⟨(by show 0 ≤ (I140 0 36).toInt ∧ (I140 0 36).toInt ≤ 4; rw [eI140, z_up_n (by decide)]; exact hmt.1), (by show 0 ≤ (I140 0 42).toInt ∧ (I140 0 42).toInt ≤ 1; rw [eI140, z_up_n (by decide)]; exact hmt.2)⟩ 45 _) (cwV 1 hts gX12_sums_X12_isSign rfl rfl rfl (by decide +kernel) ⟨Nat.le_of_ble_eq_true rfl, Nat.le_of_ble_eq_true rfl⟩) (z_preV (i := 0) hK hW rfl rfl) rfl rfl hl.1 rfl (lv_room (Nat.le_of_ble_eq_true rfl)) dX12_sums_92 ⟨Nat.le_of_ble_eq_true rfl, Nat.le_of_ble_eq_true rfl⟩) (fun r u1 H locs hp hW hS => ?_)
        obtain ⟨e9, hp⟩ := hp
        rw [e9] at hW
        rcases hp with ⟨rfl, h187⟩ | rfl
        · rw [show (I140 0 36) = (I 0 36) from by rw [eI140, z_up_n (by decide)]] at h187
          have h188 : (I 0 35).toInt + 1 ≤ (I 0 34).toInt := by omega
          refine lv_if_eq (tgt := 102) hx hb dX12_sums_95 (by decide) (fun c189 => absurd c189 (by decide)) (fun c189 => ?_)
          refine lv_iconst (v := 3) hx hb dX12_sums_98 (by decide) ?_
          refine lv_goto (tgt := 133) hx hb dX12_sums_99 (by decide) ?_
          refine lv_istore_n (lv' := [(3, .int 3), (0, .ref (ad 0)), (1, .int a1), (2, .int 1)]) hx hb dX12_sums_133 rfl hl (by decide) rfl (fun ls hl => ?_)
          refine lv_iload_n hx hb dX12_sums_134 rfl (lv_at hl 0 rfl) ?_
          refine lv_if_le (tgt := 165) hx hb dX12_sums_135 (by decide) (fun c190 => absurd c190 (by decide)) (fun c190 => ?_)
          refine lv_aload_n hx hb dX12_sums_138 rfl (lv_at hl 1 rfl) ?_
          refine z_cv hW hS hA (va_runV (As := []) (rest := []) ⟨hx, hb, hml, hown, hts⟩ (sx_X12_next l G ad I140 J ⟨(by show 0 ≤ (I140 0 31).toInt ∧ (I140 0 31).toInt ≤ 500; rw [eI140, z_up_n (by decide)]; exact hmp.1), (by show 0 ≤ (I140 0 33).toInt ∧ (I140 0 33).toInt ≤ 500; rw [eI140, z_up_n (by decide)]; exact hmp.2.1), (by show 0 ≤ (I140 0 34).toInt ∧ (I140 0 34).toInt ≤ 500; rw [eI140, z_up_n (by decide)]; exact hmp.2.2.1), (by show 0 ≤ (I140 0 35).toInt ∧ (I140 0 35).toInt ≤ 500; rw [eI140, z_up_n (by decide)]; exact hmp.2.2.2)⟩ ⟨(by show 0 ≤ (I140 0 36).toInt ∧ (I140 0 36).toInt ≤ 4; rw [eI140, z_up_n (by decide)]; exact hmt.1), (by show 0 ≤ (I140 0 42).toInt ∧ (I140 0 42).toInt ≤ 1; rw [eI140, z_up_n (by decide)]; exact hmt.2)⟩ (by have q0 : (I140 0 34) = (I 0 34) := by rw [eI140, z_up_n (by decide)]; have q1 : (I140 0 33) = (I 0 33) := by rw [eI140, z_up_n (by decide)]; show 0 ≤ (I140 0 34).toInt ∧ (I140 0 34).toInt ≤ (I140 0 33).toInt ∧ (I140 0 33).toInt ≤ 500; rw [q0, q1]; first | omega | decide)  _) (cwV 0 hts gX12_sums_X12_next rfl rfl rfl (by decide +kernel) ⟨Nat.le_of_ble_eq_true rfl, Nat.le_of_ble_eq_true rfl⟩) (z_preV (i := 0) hK hW rfl rfl) rfl rfl hl.1 rfl (lv_room (Nat.le_of_ble_eq_true rfl)) dX12_sums_139 ⟨Nat.le_of_ble_eq_true rfl, Nat.le_of_ble_eq_true rfl⟩) (fun u1 H locs hp hW hS => ?_)
          obtain ⟨I191, J193, e9, hI191mp, hI191mt, hI191rp, fI191, hp⟩ := hp
          rw [e9] at hW
          have f192 := z_fr_sub (L := L_X12_sums_1) f141 fI191 (by decide)
          have k194 : 0 ≤ (I191 0 47).toInt ∧ (I191 0 47).toInt ≤ 119 := by rw [fI191 0 47 (by decide)]; exact (by show 0 ≤ (I140 0 47).toInt ∧ (I140 0 47).toInt ≤ 119; rw [eI140, z_up_n (by decide)]; exact hmd.1)
          have k195 : 0 ≤ (I191 0 39).toInt ∧ (I191 0 39).toInt ≤ 100 := by rw [fI191 0 39 (by decide)]; exact (by show 0 ≤ (I140 0 39).toInt ∧ (I140 0 39).toInt ≤ 100; rw [eI140, z_up_n (by decide)]; exact hmd.2)
          have k196 : 0 ≤ (I191 0 40).toInt ∧ (I191 0 40).toInt ≤ 6199 := by rw [fI191 0 40 (by decide)]; exact (by show 0 ≤ (I140 0 40).toInt ∧ (I140 0 40).toInt ≤ 6199; rw [eI140, z_up_n (by decide)]; exact hmg)
          have k197 : 0 ≤ (I191 0 15).toInt ∧ (I191 0 15).toInt ≤ 6100 := by rw [fI191 0 15 (by decide)]; exact (by show 0 ≤ (I140 0 15).toInt ∧ (I140 0 15).toInt ≤ 6100; rw [eI140, z_up_n (by decide)]; exact hmn)
          have k198 : 0 ≤ (I191 0 35).toInt ∧ (I191 0 35).toInt ≤ (I191 0 34).toInt ∧ (I191 0 34).toInt ≤ (I191 0 33).toInt ∧ (I191 0 33).toInt ≤ 500 ∧ ((I191 0 36).toInt = 0 ∨ (I191 0 35).toInt + 1 ≤ (I191 0 34).toInt) := hI191rp
          have k199 : (I191 0 42).toInt = (I 0 42).toInt := by rw [fI191 0 42 (by decide), eI140, z_up_n (by decide)]
          have k200 : (I191 0 47).toInt = (I 0 47).toInt := by rw [fI191 0 47 (by decide), eI140, z_up_n (by decide)]
          have k201 : (I191 0 39).toInt = (I 0 39).toInt := by rw [fI191 0 39 (by decide), eI140, z_up_n (by decide)]
          have k202 : (I191 0 15).toInt = (I 0 15).toInt := by rw [fI191 0 15 (by decide), eI140, z_up_n (by decide)]
          have k203 : (I191 0 40).toInt = (I 0 40).toInt := by rw [fI191 0 40 (by decide), eI140, z_up_n (by decide)]
          have h204 := hp
          rw [show (I140 0 34) = (I 0 34) from by rw [eI140, z_up_n (by decide)]] at h204
          refine lv_aload_n hx hb dX12_sums_142 rfl (lv_at hl 1 rfl) ?_
          refine z_get (T := TX12) (N := 96) (ci := 12) (i := 0) (v := .ref (ad 29)) hx hb hts zj_X12_sums_X12 hown hK hW rfl rfl 46 (by decide) (hts (.fieldLink RX12 100 "PetrolBoardModel" "sort" "[I") (List.mem_of_getElem? (i := 4) rfl)) (fun _ h => h) rfl dX12_sums_143 ?_
          refine lv_iload_n hx hb dX12_sums_146 rfl (lv_at hl 2 rfl) ?_
          refine lv_iload_n hx hb dX12_sums_147 rfl (lv_at hl 0 rfl) ?_
          refine z_iast (i := 29) hx hb hK hW hS rfl (z_ix rfl (by omega) (by omega)) dX12_sums_148 (fun H locs hz1 hW hS => ?_)
          obtain ⟨I205, eI205⟩ : ∃ K : z_I, K = z_up I191 29 a1.toNatClampNeg 3 := ⟨_, rfl⟩
          rw [← eI205] at hW
          have f206 := z_fr_a f192 (show z_wa L_X12_sums_1 29 = true by decide) eI205
          have a207 := z_Nd_n (z_Nd_fr a142 fI191 (by decide)) (by decide) eI205
          refine lv_aload_n hx hb dX12_sums_149 rfl (lv_at hl 1 rfl) ?_
          refine lv_iload_n hx hb dX12_sums_150 rfl (lv_at hl 3 rfl) ?_
          refine lv_if_eq (tgt := 158) hx hb dX12_sums_151 (by decide) (fun c208 => absurd c208 (by decide)) (fun c208 => ?_)
          refine lv_iconst (v := 1) hx hb dX12_sums_154 (by decide) ?_
          refine lv_goto (tgt := 159) hx hb dX12_sums_155 (by decide) ?_
          refine z_cv hW hS hA (va_runV (As := [.int 1]) (rest := []) ⟨hx, hb, hml, hown, hts⟩ (sx_X12_begin l G ad I205 J193 ⟨(by show 0 ≤ (I205 0 47).toInt ∧ (I205 0 47).toInt ≤ 119; rw [eI205, z_up_n (by decide)]; exact k194), (by show 0 ≤ (I205 0 39).toInt ∧ (I205 0 39).toInt ≤ 100; rw [eI205, z_up_n (by decide)]; exact k195)⟩ 1 (by have q0 : (I205 0 47) = (I191 0 47) := by rw [eI205, z_up_n (by decide)]; show (I205 0 47).toInt ≤ 118; rw [q0]; omega) _) (cwV 1 hts gX12_sums_X12_begin rfl rfl rfl (by decide +kernel) ⟨Nat.le_of_ble_eq_true rfl, Nat.le_of_ble_eq_true rfl⟩) (z_preV (i := 0) hK hW rfl rfl) rfl rfl hl.1 rfl (lv_room (Nat.le_of_ble_eq_true rfl)) dX12_sums_159 ⟨Nat.le_of_ble_eq_true rfl, Nat.le_of_ble_eq_true rfl⟩) (fun u1 H locs hp hW hS => ?_)
          obtain ⟨I209, J211, e9, hI209md, fI209, hp⟩ := hp
          rw [e9] at hW
          have f210 := z_fr_sub (L := L_X12_sums_1) f206 fI209 (by decide)
          have k212 : 0 ≤ (I209 0 31).toInt ∧ (I209 0 31).toInt ≤ 500 := by rw [fI209 0 31 (by decide)]; exact (by show 0 ≤ (I205 0 31).toInt ∧ (I205 0 31).toInt ≤ 500; rw [eI205, z_up_n (by decide)]; exact hI191mp.1)
          have k213 : 0 ≤ (I209 0 33).toInt ∧ (I209 0 33).toInt ≤ 500 := by rw [fI209 0 33 (by decide)]; exact (by show 0 ≤ (I205 0 33).toInt ∧ (I205 0 33).toInt ≤ 500; rw [eI205, z_up_n (by decide)]; exact hI191mp.2.1)
          have k214 : 0 ≤ (I209 0 34).toInt ∧ (I209 0 34).toInt ≤ 500 := by rw [fI209 0 34 (by decide)]; exact (by show 0 ≤ (I205 0 34).toInt ∧ (I205 0 34).toInt ≤ 500; rw [eI205, z_up_n (by decide)]; exact hI191mp.2.2.1)
          have k215 : 0 ≤ (I209 0 35).toInt ∧ (I209 0 35).toInt ≤ 500 := by rw [fI209 0 35 (by decide)]; exact (by show 0 ≤ (I205 0 35).toInt ∧ (I205 0 35).toInt ≤ 500; rw [eI205, z_up_n (by decide)]; exact hI191mp.2.2.2)
          have k216 : 0 ≤ (I209 0 36).toInt ∧ (I209 0 36).toInt ≤ 4 := by rw [fI209 0 36 (by decide)]; exact (by show 0 ≤ (I205 0 36).toInt ∧ (I205 0 36).toInt ≤ 4; rw [eI205, z_up_n (by decide)]; exact hI191mt.1)
          have k217 : 0 ≤ (I209 0 42).toInt ∧ (I209 0 42).toInt ≤ 1 := by rw [fI209 0 42 (by decide)]; exact (by show 0 ≤ (I205 0 42).toInt ∧ (I205 0 42).toInt ≤ 1; rw [eI205, z_up_n (by decide)]; exact hI191mt.2)
          have k218 : 0 ≤ (I209 0 40).toInt ∧ (I209 0 40).toInt ≤ 6199 := by rw [fI209 0 40 (by decide)]; exact (by show 0 ≤ (I205 0 40).toInt ∧ (I205 0 40).toInt ≤ 6199; rw [eI205, z_up_n (by decide)]; exact k196)
          have k219 : 0 ≤ (I209 0 15).toInt ∧ (I209 0 15).toInt ≤ 6100 := by rw [fI209 0 15 (by decide)]; exact (by show 0 ≤ (I205 0 15).toInt ∧ (I205 0 15).toInt ≤ 6100; rw [eI205, z_up_n (by decide)]; exact k197)
          have k220 : 0 ≤ (I209 0 35).toInt ∧ (I209 0 35).toInt ≤ (I209 0 34).toInt ∧ (I209 0 34).toInt ≤ (I209 0 33).toInt ∧ (I209 0 33).toInt ≤ 500 ∧ ((I209 0 36).toInt = 0 ∨ (I209 0 35).toInt + 1 ≤ (I209 0 34).toInt) := (by have q0 : (I209 0 35) = (I191 0 35) := by rw [fI209 0 35 (by decide), eI205, z_up_n (by decide)]; have q1 : (I209 0 34) = (I191 0 34) := by rw [fI209 0 34 (by decide), eI205, z_up_n (by decide)]; have q2 : (I209 0 33) = (I191 0 33) := by rw [fI209 0 33 (by decide), eI205, z_up_n (by decide)]; have q3 : (I209 0 36) = (I191 0 36) := by rw [fI209 0 36 (by decide), eI205, z_up_n (by decide)]; show 0 ≤ (I209 0 35).toInt ∧ (I209 0 35).toInt ≤ (I209 0 34).toInt ∧ (I209 0 34).toInt ≤ (I209 0 33).toInt ∧ (I209 0 33).toInt ≤ 500 ∧ ((I209 0 36).toInt = 0 ∨ (I209 0 35).toInt + 1 ≤ (I209 0 34).toInt); rw [q0, q1, q2, q3]; first | omega | decide)
          have k221 : (I209 0 35).toInt = (I191 0 35).toInt := by rw [fI209 0 35 (by decide), eI205, z_up_n (by decide)]
          have k222 : (I209 0 34).toInt = (I191 0 34).toInt := by rw [fI209 0 34 (by decide), eI205, z_up_n (by decide)]
          have k223 : (I209 0 36).toInt = (I191 0 36).toInt := by rw [fI209 0 36 (by decide), eI205, z_up_n (by decide)]
          have k224 : (I209 0 42).toInt = (I191 0 42).toInt := by rw [fI209 0 42 (by decide), eI205, z_up_n (by decide)]
          have k225 : (I209 0 39).toInt = (I191 0 39).toInt := by rw [fI209 0 39 (by decide), eI205, z_up_n (by decide)]
          have k226 : (I209 0 15).toInt = (I191 0 15).toInt := by rw [fI209 0 15 (by decide), eI205, z_up_n (by decide)]
          have k227 : (I209 0 40).toInt = (I191 0 40).toInt := by rw [fI209 0 40 (by decide), eI205, z_up_n (by decide)]
          have h228 := hp
          refine lv_goto (tgt := 175) hx hb dX12_sums_162 (by decide) ?_
          exact z_vret hx hb hr hK hS (Nat.le_of_ble_eq_true rfl) (Nat.le_of_ble_eq_true rfl) hlocks dX12_sums_175 (shM, ad, I209, J211, PM ad) hW ⟨I209, J211, rfl, ⟨(by show 0 ≤ (I209 0 31).toInt ∧ (I209 0 31).toInt ≤ 500; exact k212), (by show 0 ≤ (I209 0 33).toInt ∧ (I209 0 33).toInt ≤ 500; exact k213), (by show 0 ≤ (I209 0 34).toInt ∧ (I209 0 34).toInt ≤ 500; exact k214), (by show 0 ≤ (I209 0 35).toInt ∧ (I209 0 35).toInt ≤ 500; exact k215)⟩, ⟨(by show 0 ≤ (I209 0 36).toInt ∧ (I209 0 36).toInt ≤ 4; exact k216), (by show 0 ≤ (I209 0 42).toInt ∧ (I209 0 42).toInt ≤ 1; exact k217)⟩, ⟨(by show 0 ≤ (I209 0 47).toInt ∧ (I209 0 47).toInt ≤ 119; exact hI209md.1), (by show 0 ≤ (I209 0 39).toInt ∧ (I209 0 39).toInt ≤ 100; exact hI209md.2)⟩, (by show 0 ≤ (I209 0 40).toInt ∧ (I209 0 40).toInt ≤ 6199; exact k218), (by show 0 ≤ (I209 0 15).toInt ∧ (I209 0 15).toInt ≤ 6100; exact k219), (z_Nd_fr a207 fI209 (by decide)), (by show 0 ≤ (I209 0 35).toInt ∧ (I209 0 35).toInt ≤ (I209 0 34).toInt ∧ (I209 0 34).toInt ≤ (I209 0 33).toInt ∧ (I209 0 33).toInt ≤ 500 ∧ ((I209 0 36).toInt = 0 ∨ (I209 0 35).toInt + 1 ≤ (I209 0 34).toInt); first | omega | decide), f210, ((Classical.em ((I209 0 42).toInt = 0)).elim (fun hw9 => Or.inr ⟨a1.toNatClampNeg + 2, by have w1 := z_fw_0nm (a := va.toInt) (o := vo.toInt) (by omega) (by omega); have w2 := z_fo_0n (a := va.toInt); have w3 := z_fw_0np (a := va.toInt) (o := (I 0 40).toInt) (by omega) (by omega); have w4 := z_fo_0n (a := va.toInt); have w5 := z_fw_10 (a := 0) (o := -1) (by omega); have w6 := z_rk_0; have w7 := z_rk_1; exact z_PUSH (d := a1.toNatClampNeg) (w := 0) (a := va.toInt) (o := (I 0 40).toInt) (s := 3) (wi := 1) hPS (fun i hi => ⟨by rw [eI205, z_up_n (by decide), fI191 26 i (z_wr_c (by decide)), eI140, z_up_n (by decide)], by rw [eI205, z_up_n (by decide), fI191 27 i (z_wr_c (by decide)), eI140, z_up_n (by decide)], by rw [eI205, z_up_n (by decide), fI191 28 i (z_wr_c (by decide)), eI140, z_up_k (by omega)], by rw [eI205, z_up_k (by omega), fI191 29 i (z_wr_c (by decide)), eI140, z_up_n (by decide)]⟩) (by rw [show I205 26 a1.toNatClampNeg = vw from (by rw [eI205, z_up_n (by decide), fI191 26 a1.toNatClampNeg (z_wr_c (by decide)), eI140, z_up_n (by decide)]; exact evw.symm)]; exact hvw) (by rw [show I205 27 a1.toNatClampNeg = va from (by rw [eI205, z_up_n (by decide), fI191 27 a1.toNatClampNeg (z_wr_c (by decide)), eI140, z_up_n (by decide)]; exact eva.symm)]; exact rfl) (by rw [show I205 28 a1.toNatClampNeg = (I 0 40) from (by rw [eI205, z_up_n (by decide), fI191 28 a1.toNatClampNeg (z_wr_c (by decide)), eI140, z_up_s])]; exact rfl) (by rw [show I205 29 a1.toNatClampNeg = 3 from (by rw [eI205, z_up_s])]; exact z_l3) (by unfold z_fv; omega) hwd (by rw [eI205, z_up_n (by decide)]; omega) h228 z_l1 (by omega) (by omega) (by omega) (by omega) (by omega) (by omega) (by omega) (by omega)⟩) Or.inl)⟩
        · refine lv_if_eq (tgt := 102) hx hb dX12_sums_95 (by decide) (fun c229 => ?_) (fun c229 => absurd (by decide) c229)
          refine lv_iconst (v := 0) hx hb dX12_sums_102 (by decide) ?_
          refine lv_goto (tgt := 133) hx hb dX12_sums_103 (by decide) ?_
          refine lv_istore_n (lv' := [(3, .int 0), (0, .ref (ad 0)), (1, .int a1), (2, .int 1)]) hx hb dX12_sums_133 rfl hl (by decide) rfl (fun ls hl => ?_)
          refine lv_iload_n hx hb dX12_sums_134 rfl (lv_at hl 0 rfl) ?_
          refine lv_if_le (tgt := 165) hx hb dX12_sums_135 (by decide) (fun c230 => ?_) (fun c230 => absurd (by decide) c230)
          refine lv_aload_n hx hb dX12_sums_165 rfl (lv_at hl 1 rfl) ?_
          refine lv_aload_n hx hb dX12_sums_166 rfl (lv_at hl 1 rfl) ?_
          refine z_get (T := TX12) (N := 96) (ci := 12) (i := 0) (v := .ref (ad 28)) hx hb hts zj_X12_sums_X12 hown hK hW rfl rfl 45 (by decide) (hts (.fieldLink RX12 97 "PetrolBoardModel" "one" "[I") (List.mem_of_getElem? (i := 2) rfl)) (fun _ h => h) rfl dX12_sums_167 ?_
          refine lv_iload_n hx hb dX12_sums_170 rfl (lv_at hl 2 rfl) ?_
          refine z_iald (i := 28) hx hb hK hW rfl (z_ix rfl (by omega) (by omega)) dX12_sums_171 ?_
          refine z_topi (v := (I 0 40)) (by rw [eI140, z_up_s]) ?_
          refine z_cv hW hS hA (va_runV (As := [.int (I 0 40)]) (rest := []) ⟨hx, hb, hml, hown, hts⟩ (sx_X12_ends l G ad I140 J ⟨(by show 0 ≤ (I140 0 47).toInt ∧ (I140 0 47).toInt ≤ 119; rw [eI140, z_up_n (by decide)]; exact hmd.1), (by show 0 ≤ (I140 0 39).toInt ∧ (I140 0 39).toInt ≤ 100; rw [eI140, z_up_n (by decide)]; exact hmd.2)⟩ (by show 0 ≤ (I140 0 40).toInt ∧ (I140 0 40).toInt ≤ 6199; rw [eI140, z_up_n (by decide)]; exact hmg) (I 0 40) (by first | omega | decide) (by have q0 : (I140 0 47) = (I 0 47) := by rw [eI140, z_up_n (by decide)]; show 1 ≤ (I140 0 47).toInt; rw [q0]; omega) _) (cwV 1 hts gX12_sums_X12_ends rfl rfl rfl (by decide +kernel) ⟨Nat.le_of_ble_eq_true rfl, Nat.le_of_ble_eq_true rfl⟩) (z_preV (i := 0) hK hW rfl rfl) rfl rfl hl.1 rfl (lv_room (Nat.le_of_ble_eq_true rfl)) dX12_sums_172 ⟨Nat.le_of_ble_eq_true rfl, Nat.le_of_ble_eq_true rfl⟩) (fun u1 H locs hp hW hS => ?_)
          obtain ⟨I231, J233, e9, hI231md, hI231mg, fI231, hp⟩ := hp
          rw [e9] at hW
          have f232 := z_fr_sub (L := L_X12_sums_1) f141 fI231 (by decide)
          have k234 : 0 ≤ (I231 0 31).toInt ∧ (I231 0 31).toInt ≤ 500 := by rw [fI231 0 31 (by decide)]; exact (by show 0 ≤ (I140 0 31).toInt ∧ (I140 0 31).toInt ≤ 500; rw [eI140, z_up_n (by decide)]; exact hmp.1)
          have k235 : 0 ≤ (I231 0 33).toInt ∧ (I231 0 33).toInt ≤ 500 := by rw [fI231 0 33 (by decide)]; exact (by show 0 ≤ (I140 0 33).toInt ∧ (I140 0 33).toInt ≤ 500; rw [eI140, z_up_n (by decide)]; exact hmp.2.1)
          have k236 : 0 ≤ (I231 0 34).toInt ∧ (I231 0 34).toInt ≤ 500 := by rw [fI231 0 34 (by decide)]; exact (by show 0 ≤ (I140 0 34).toInt ∧ (I140 0 34).toInt ≤ 500; rw [eI140, z_up_n (by decide)]; exact hmp.2.2.1)
          have k237 : 0 ≤ (I231 0 35).toInt ∧ (I231 0 35).toInt ≤ 500 := by rw [fI231 0 35 (by decide)]; exact (by show 0 ≤ (I140 0 35).toInt ∧ (I140 0 35).toInt ≤ 500; rw [eI140, z_up_n (by decide)]; exact hmp.2.2.2)
          have k238 : 0 ≤ (I231 0 36).toInt ∧ (I231 0 36).toInt ≤ 4 := by rw [fI231 0 36 (by decide)]; exact (by show 0 ≤ (I140 0 36).toInt ∧ (I140 0 36).toInt ≤ 4; rw [eI140, z_up_n (by decide)]; exact hmt.1)
          have k239 : 0 ≤ (I231 0 42).toInt ∧ (I231 0 42).toInt ≤ 1 := by rw [fI231 0 42 (by decide)]; exact (by show 0 ≤ (I140 0 42).toInt ∧ (I140 0 42).toInt ≤ 1; rw [eI140, z_up_n (by decide)]; exact hmt.2)
          have k240 : 0 ≤ (I231 0 15).toInt ∧ (I231 0 15).toInt ≤ 6100 := by rw [fI231 0 15 (by decide)]; exact (by show 0 ≤ (I140 0 15).toInt ∧ (I140 0 15).toInt ≤ 6100; rw [eI140, z_up_n (by decide)]; exact hmn)
          have k241 : 0 ≤ (I231 0 35).toInt ∧ (I231 0 35).toInt ≤ (I231 0 34).toInt ∧ (I231 0 34).toInt ≤ (I231 0 33).toInt ∧ (I231 0 33).toInt ≤ 500 ∧ ((I231 0 36).toInt = 0 ∨ (I231 0 35).toInt + 1 ≤ (I231 0 34).toInt) := (by have q0 : (I231 0 35) = (I 0 35) := by rw [fI231 0 35 (by decide), eI140, z_up_n (by decide)]; have q1 : (I231 0 34) = (I 0 34) := by rw [fI231 0 34 (by decide), eI140, z_up_n (by decide)]; have q2 : (I231 0 33) = (I 0 33) := by rw [fI231 0 33 (by decide), eI140, z_up_n (by decide)]; have q3 : (I231 0 36) = (I 0 36) := by rw [fI231 0 36 (by decide), eI140, z_up_n (by decide)]; show 0 ≤ (I231 0 35).toInt ∧ (I231 0 35).toInt ≤ (I231 0 34).toInt ∧ (I231 0 34).toInt ≤ (I231 0 33).toInt ∧ (I231 0 33).toInt ≤ 500 ∧ ((I231 0 36).toInt = 0 ∨ (I231 0 35).toInt + 1 ≤ (I231 0 34).toInt); rw [q0, q1, q2, q3]; first | omega | decide)
          have k242 : (I231 0 35).toInt = (I 0 35).toInt := by rw [fI231 0 35 (by decide), eI140, z_up_n (by decide)]
          have k243 : (I231 0 34).toInt = (I 0 34).toInt := by rw [fI231 0 34 (by decide), eI140, z_up_n (by decide)]
          have k244 : (I231 0 36).toInt = (I 0 36).toInt := by rw [fI231 0 36 (by decide), eI140, z_up_n (by decide)]
          have k245 : (I231 0 42).toInt = (I 0 42).toInt := by rw [fI231 0 42 (by decide), eI140, z_up_n (by decide)]
          have k246 : (I231 0 39).toInt = (I 0 39).toInt := by rw [fI231 0 39 (by decide), eI140, z_up_n (by decide)]
          have k247 : (I231 0 15).toInt = (I 0 15).toInt := by rw [fI231 0 15 (by decide), eI140, z_up_n (by decide)]
          have h248 := hp
          rw [show (I140 0 47) = (I 0 47) from by rw [eI140, z_up_n (by decide)]] at h248
          exact z_vret hx hb hr hK hS (Nat.le_of_ble_eq_true rfl) (Nat.le_of_ble_eq_true rfl) hlocks dX12_sums_175 (shM, ad, I231, J233, PM ad) hW ⟨I231, J233, rfl, ⟨(by show 0 ≤ (I231 0 31).toInt ∧ (I231 0 31).toInt ≤ 500; exact k234), (by show 0 ≤ (I231 0 33).toInt ∧ (I231 0 33).toInt ≤ 500; exact k235), (by show 0 ≤ (I231 0 34).toInt ∧ (I231 0 34).toInt ≤ 500; exact k236), (by show 0 ≤ (I231 0 35).toInt ∧ (I231 0 35).toInt ≤ 500; exact k237)⟩, ⟨(by show 0 ≤ (I231 0 36).toInt ∧ (I231 0 36).toInt ≤ 4; exact k238), (by show 0 ≤ (I231 0 42).toInt ∧ (I231 0 42).toInt ≤ 1; exact k239)⟩, ⟨(by show 0 ≤ (I231 0 47).toInt ∧ (I231 0 47).toInt ≤ 119; exact hI231md.1), (by show 0 ≤ (I231 0 39).toInt ∧ (I231 0 39).toInt ≤ 100; exact hI231md.2)⟩, (by show 0 ≤ (I231 0 40).toInt ∧ (I231 0 40).toInt ≤ 6199; exact hI231mg), (by show 0 ≤ (I231 0 15).toInt ∧ (I231 0 15).toInt ≤ 6100; exact k240), (z_Nd_fr a142 fI231 (by decide)), (by show 0 ≤ (I231 0 35).toInt ∧ (I231 0 35).toInt ≤ (I231 0 34).toInt ∧ (I231 0 34).toInt ≤ (I231 0 33).toInt ∧ (I231 0 33).toInt ≤ 500 ∧ ((I231 0 36).toInt = 0 ∨ (I231 0 35).toInt + 1 ≤ (I231 0 34).toInt); first | omega | decide), f232, ((Classical.em ((I231 0 42).toInt = 0)).elim (fun hw9 => Or.inr ⟨a1.toNatClampNeg, by have w1 := z_fw_0nm (a := va.toInt) (o := vo.toInt) (by omega) (by omega); have w2 := z_fo_0n (a := va.toInt); exact z_POP (d := a1.toNatClampNeg) hPS (fun i hi => ⟨by rw [fI231 26 i (z_wr_c (by decide)), eI140, z_up_n (by decide)], by rw [fI231 27 i (z_wr_c (by decide)), eI140, z_up_n (by decide)], by rw [fI231 28 i (z_wr_c (by decide)), eI140, z_up_k (by omega)], by rw [fI231 29 i (z_wr_c (by decide)), eI140, z_up_n (by decide)]⟩) (by omega) (by omega) (by omega) (by omega) (by omega) (by omega)⟩) Or.inl)⟩
  · have g249 := z_f_eq rfl z_l0 c1
    refine lv_aload_n hx hb dX12_sums_9 rfl (lv_at hl 0 rfl) ?_
    refine z_get (T := TX12) (N := 96) (ci := 12) (i := 0) (v := .ref (ad 27)) hx hb hts zj_X12_sums_X12 hown hK hW rfl rfl 44 (by decide) (hts (.fieldLink RX12 94 "PetrolBoardModel" "at" "[I") (List.mem_of_getElem? (i := 1) rfl)) (fun _ h => h) rfl dX12_sums_10 ?_
    refine lv_iload_n hx hb dX12_sums_13 rfl (lv_at hl 1 rfl) ?_
    refine lv_iconst (v := 1) hx hb dX12_sums_14 (by decide) ?_
    refine z_iast (i := 27) hx hb hK hW hS rfl (z_ix rfl (by omega) (by omega)) dX12_sums_15 (fun H locs hz1 hW hS => ?_)
    obtain ⟨I250, eI250⟩ : ∃ K : z_I, K = z_up I 27 a1.toNatClampNeg 1 := ⟨_, rfl⟩
    rw [← eI250] at hW
    have f251 := z_fr_a z_fr_0 (show z_wa L_X12_sums_1 27 = true by decide) eI250
    have a252 := z_Nd_n hNd (by decide) eI250
    refine lv_aload_n hx hb dX12_sums_16 rfl (lv_at hl 0 rfl) ?_
    refine lv_iload_n hx hb dX12_sums_17 rfl (lv_at hl 2 rfl) ?_
    refine lv_if_eq (tgt := 25) hx hb dX12_sums_18 (by decide) (fun c253 => absurd c253 (by decide)) (fun c253 => ?_)
    refine lv_iconst (v := 1) hx hb dX12_sums_21 (by decide) ?_
    refine lv_goto (tgt := 26) hx hb dX12_sums_22 (by decide) ?_
    refine z_cv hW hS hA (va_runV (As := [.int 1]) (rest := []) ⟨hx, hb, hml, hown, hts⟩ (sx_X12_begin l G ad I250 J ⟨(by show 0 ≤ (I250 0 47).toInt ∧ (I250 0 47).toInt ≤ 119; rw [eI250, z_up_n (by decide)]; exact hmd.1), (by show 0 ≤ (I250 0 39).toInt ∧ (I250 0 39).toInt ≤ 100; rw [eI250, z_up_n (by decide)]; exact hmd.2)⟩ 1 (by have q0 : (I250 0 47) = (I 0 47) := by rw [eI250, z_up_n (by decide)]; show (I250 0 47).toInt ≤ 118; rw [q0]; omega) _) (cwV 1 hts gX12_sums_X12_begin rfl rfl rfl (by decide +kernel) ⟨Nat.le_of_ble_eq_true rfl, Nat.le_of_ble_eq_true rfl⟩) (z_preV (i := 0) hK hW rfl rfl) rfl rfl hl.1 rfl (lv_room (Nat.le_of_ble_eq_true rfl)) dX12_sums_26 ⟨Nat.le_of_ble_eq_true rfl, Nat.le_of_ble_eq_true rfl⟩) (fun u1 H locs hp hW hS => ?_)
    obtain ⟨I254, J256, e9, hI254md, fI254, hp⟩ := hp
    rw [e9] at hW
    have f255 := z_fr_sub (L := L_X12_sums_1) f251 fI254 (by decide)
    have k257 : 0 ≤ (I254 0 31).toInt ∧ (I254 0 31).toInt ≤ 500 := by rw [fI254 0 31 (by decide)]; exact (by show 0 ≤ (I250 0 31).toInt ∧ (I250 0 31).toInt ≤ 500; rw [eI250, z_up_n (by decide)]; exact hmp.1)
    have k258 : 0 ≤ (I254 0 33).toInt ∧ (I254 0 33).toInt ≤ 500 := by rw [fI254 0 33 (by decide)]; exact (by show 0 ≤ (I250 0 33).toInt ∧ (I250 0 33).toInt ≤ 500; rw [eI250, z_up_n (by decide)]; exact hmp.2.1)
    have k259 : 0 ≤ (I254 0 34).toInt ∧ (I254 0 34).toInt ≤ 500 := by rw [fI254 0 34 (by decide)]; exact (by show 0 ≤ (I250 0 34).toInt ∧ (I250 0 34).toInt ≤ 500; rw [eI250, z_up_n (by decide)]; exact hmp.2.2.1)
    have k260 : 0 ≤ (I254 0 35).toInt ∧ (I254 0 35).toInt ≤ 500 := by rw [fI254 0 35 (by decide)]; exact (by show 0 ≤ (I250 0 35).toInt ∧ (I250 0 35).toInt ≤ 500; rw [eI250, z_up_n (by decide)]; exact hmp.2.2.2)
    have k261 : 0 ≤ (I254 0 36).toInt ∧ (I254 0 36).toInt ≤ 4 := by rw [fI254 0 36 (by decide)]; exact (by show 0 ≤ (I250 0 36).toInt ∧ (I250 0 36).toInt ≤ 4; rw [eI250, z_up_n (by decide)]; exact hmt.1)
    have k262 : 0 ≤ (I254 0 42).toInt ∧ (I254 0 42).toInt ≤ 1 := by rw [fI254 0 42 (by decide)]; exact (by show 0 ≤ (I250 0 42).toInt ∧ (I250 0 42).toInt ≤ 1; rw [eI250, z_up_n (by decide)]; exact hmt.2)
    have k263 : 0 ≤ (I254 0 40).toInt ∧ (I254 0 40).toInt ≤ 6199 := by rw [fI254 0 40 (by decide)]; exact (by show 0 ≤ (I250 0 40).toInt ∧ (I250 0 40).toInt ≤ 6199; rw [eI250, z_up_n (by decide)]; exact hmg)
    have k264 : 0 ≤ (I254 0 15).toInt ∧ (I254 0 15).toInt ≤ 6100 := by rw [fI254 0 15 (by decide)]; exact (by show 0 ≤ (I250 0 15).toInt ∧ (I250 0 15).toInt ≤ 6100; rw [eI250, z_up_n (by decide)]; exact hmn)
    have k265 : 0 ≤ (I254 0 35).toInt ∧ (I254 0 35).toInt ≤ (I254 0 34).toInt ∧ (I254 0 34).toInt ≤ (I254 0 33).toInt ∧ (I254 0 33).toInt ≤ 500 ∧ ((I254 0 36).toInt = 0 ∨ (I254 0 35).toInt + 1 ≤ (I254 0 34).toInt) := (by have q0 : (I254 0 35) = (I 0 35) := by rw [fI254 0 35 (by decide), eI250, z_up_n (by decide)]; have q1 : (I254 0 34) = (I 0 34) := by rw [fI254 0 34 (by decide), eI250, z_up_n (by decide)]; have q2 : (I254 0 33) = (I 0 33) := by rw [fI254 0 33 (by decide), eI250, z_up_n (by decide)]; have q3 : (I254 0 36) = (I 0 36) := by rw [fI254 0 36 (by decide), eI250, z_up_n (by decide)]; show 0 ≤ (I254 0 35).toInt ∧ (I254 0 35).toInt ≤ (I254 0 34).toInt ∧ (I254 0 34).toInt ≤ (I254 0 33).toInt ∧ (I254 0 33).toInt ≤ 500 ∧ ((I254 0 36).toInt = 0 ∨ (I254 0 35).toInt + 1 ≤ (I254 0 34).toInt); rw [q0, q1, q2, q3]; first | omega | decide)
    have k266 : (I254 0 35).toInt = (I 0 35).toInt := by rw [fI254 0 35 (by decide), eI250, z_up_n (by decide)]
    have k267 : (I254 0 34).toInt = (I 0 34).toInt := by rw [fI254 0 34 (by decide), eI250, z_up_n (by decide)]
    have k268 : (I254 0 36).toInt = (I 0 36).toInt := by rw [fI254 0 36 (by decide), eI250, z_up_n (by decide)]
    have k269 : (I254 0 42).toInt = (I 0 42).toInt := by rw [fI254 0 42 (by decide), eI250, z_up_n (by decide)]
    have k270 : (I254 0 39).toInt = (I 0 39).toInt := by rw [fI254 0 39 (by decide), eI250, z_up_n (by decide)]
    have k271 : (I254 0 15).toInt = (I 0 15).toInt := by rw [fI254 0 15 (by decide), eI250, z_up_n (by decide)]
    have k272 : (I254 0 40).toInt = (I 0 40).toInt := by rw [fI254 0 40 (by decide), eI250, z_up_n (by decide)]
    have h273 := hp
    exact z_vret hx hb hr hK hS (Nat.le_of_ble_eq_true rfl) (Nat.le_of_ble_eq_true rfl) hlocks dX12_sums_29 (shM, ad, I254, J256, PM ad) hW ⟨I254, J256, rfl, ⟨(by show 0 ≤ (I254 0 31).toInt ∧ (I254 0 31).toInt ≤ 500; exact k257), (by show 0 ≤ (I254 0 33).toInt ∧ (I254 0 33).toInt ≤ 500; exact k258), (by show 0 ≤ (I254 0 34).toInt ∧ (I254 0 34).toInt ≤ 500; exact k259), (by show 0 ≤ (I254 0 35).toInt ∧ (I254 0 35).toInt ≤ 500; exact k260)⟩, ⟨(by show 0 ≤ (I254 0 36).toInt ∧ (I254 0 36).toInt ≤ 4; exact k261), (by show 0 ≤ (I254 0 42).toInt ∧ (I254 0 42).toInt ≤ 1; exact k262)⟩, ⟨(by show 0 ≤ (I254 0 47).toInt ∧ (I254 0 47).toInt ≤ 119; exact hI254md.1), (by show 0 ≤ (I254 0 39).toInt ∧ (I254 0 39).toInt ≤ 100; exact hI254md.2)⟩, (by show 0 ≤ (I254 0 40).toInt ∧ (I254 0 40).toInt ≤ 6199; exact k263), (by show 0 ≤ (I254 0 15).toInt ∧ (I254 0 15).toInt ≤ 6100; exact k264), (z_Nd_fr a252 fI254 (by decide)), (by show 0 ≤ (I254 0 35).toInt ∧ (I254 0 35).toInt ≤ (I254 0 34).toInt ∧ (I254 0 34).toInt ≤ (I254 0 33).toInt ∧ (I254 0 33).toInt ≤ 500 ∧ ((I254 0 36).toInt = 0 ∨ (I254 0 35).toInt + 1 ≤ (I254 0 34).toInt); first | omega | decide), f255, ((Classical.em ((I254 0 42).toInt = 0)).elim (fun hw9 => Or.inr ⟨a1.toNatClampNeg + 2, by have w1 := z_fw_00 (a := va.toInt) (o := vo.toInt) (by omega); have w2 := z_fo_0n (a := va.toInt); have w3 := z_fw_0nm (a := 1) (o := vo.toInt) (by omega) (by omega); have w4 := z_fo_0n (a := 1); have w5 := z_fw_10 (a := 0) (o := -1) (by omega); have w6 := z_rk_0; have w7 := z_rk_1; exact z_PUSH (d := a1.toNatClampNeg) (w := 0) (a := 1) (o := vo.toInt) (s := vs.toInt) (wi := 1) hPS (fun i hi => ⟨by rw [eI250, z_up_n (by decide)], by rw [eI250, z_up_k (by omega)], by rw [eI250, z_up_n (by decide)], by rw [eI250, z_up_n (by decide)]⟩) (by rw [show I250 26 a1.toNatClampNeg = vw from (by rw [eI250, z_up_n (by decide)]; exact evw.symm)]; exact hvw) (by rw [show I250 27 a1.toNatClampNeg = 1 from (by rw [eI250, z_up_s])]; exact z_l1) (by rw [show I250 28 a1.toNatClampNeg = vo from (by rw [eI250, z_up_n (by decide)]; exact evo.symm)]; exact rfl) (by rw [show I250 29 a1.toNatClampNeg = vs from (by rw [eI250, z_up_n (by decide)]; exact evs.symm)]; exact rfl) (by unfold z_fv; omega) hwd (by rw [eI250, z_up_n (by decide)]; omega) h273 z_l1 (by omega) (by omega) (by omega) (by omega) (by omega) (by omega) (by omega) (by omega)⟩) Or.inl)⟩
def L_X12_sums_0 : z_L := [(0, 35), (0, 36), (0, 37), (0, 38), (0, 34), (0, 42), (0, 32), (0, 39), (21, 999), (22, 999), (23, 999), (0, 15), (26, 999), (27, 999), (28, 999), (29, 999), (0, 47), (0, 40)]
set_option maxHeartbeats 8000000 in
set_option maxRecDepth 100000 in
theorem sx_X12_sums_0 (l : Launch) (G : z_G) (ad : Nat → Nat) (I : z_I) (J : z_J) (hmp : z_imp I) (hmt : z_imt I) (hmd : z_imd I) (hmg : z_img I) (hmn : z_imn I) (hNd : z_Nd I) (hrp : z_irp I) (B : Int) (a1 : Int32) (q1 : 0 ≤ a1.toInt ∧ a1.toInt ≤ 33) (hwd : (I 26 a1.toNatClampNeg).toInt = 1) (hPS : z_PS I (a1.toNatClampNeg + 1) B) : z_Mv l yX12_sums wsX12_sums { frames := 3, cells := 0, slots := 0, locals := 55 } [.ref (ad 0), .int a1, .int 0] G (shM, ad, I, J, PM ad) (fun u1 => ∃ (I1 : z_I) (J1 : z_J), u1 = (shM, ad, I1, J1, PM ad) ∧ z_imp I1 ∧ z_imt I1 ∧ z_imd I1 ∧ z_img I1 ∧ z_imn I1 ∧ z_Nd I1 ∧ z_irp I1 ∧ z_fr L_X12_sums_0 I1 I ∧ (¬ (I1 0 42).toInt = 0 ∨ ∃ n, z_PS I1 n (B - 1))) 0 0 := by
  intro sz
  refine z_headQ (cc := cX12_sums) (maxL := 4) (ret := none) (by decide) rfl (Nat.le_of_ble_eq_true rfl) ?_
  intro p e s m below meth c0 ls hIn hK hsz hW hl
  obtain ⟨hx, hb, hr, hml, hown, hts, hlocks, hname⟩ := hIn
  subst hsz
  have hown : s.vm.findClass RX12 = some m.cls := hown
  have hA : ∀ q : Nat, s.heap.size ≤ q → z_A (shM, ad, I, J, PM ad) s.heap.size q := fun q h => Or.inr h
  generalize hAe : z_A (shM, ad, I, J, PM ad) s.heap.size = A at *
  have hS : va_S A s.heap s.heap [] := va_S.rf
  have hl : lv_has ls 4 [(0, .ref (ad 0)), (1, .int a1), (2, .int 0)] := hl
  obtain ⟨va, eva⟩ : ∃ y, y = I 27 a1.toNatClampNeg := ⟨_, rfl⟩
  obtain ⟨vo, evo⟩ : ∃ y, y = I 28 a1.toNatClampNeg := ⟨_, rfl⟩
  obtain ⟨vs, evs⟩ : ∃ y, y = I 29 a1.toNatClampNeg := ⟨_, rfl⟩
  have hT := z_top hPS
  unfold z_fv at hT
  rw [hwd, ← eva, ← evo, ← evs] at hT
  obtain ⟨t1, t2, t3, t4, t5, t6, t7, t8, t9, t10, t11, t12, t13, t14, t15, t16, t17, t18, t19, t20, t21⟩ := hT
  have hk9 := z_clt (x := a1) rfl q1.1
  obtain ⟨vw, evw⟩ : ∃ y, y = I 26 a1.toNatClampNeg := ⟨_, rfl⟩
  have hvw : vw.toInt = 1 := by rw [evw]; exact hwd
  have krp : 0 ≤ (I 0 35).toInt ∧ (I 0 35).toInt ≤ (I 0 34).toInt ∧ (I 0 34).toInt ≤ (I 0 33).toInt ∧ (I 0 33).toInt ≤ 500 ∧ ((I 0 36).toInt = 0 ∨ (I 0 35).toInt + 1 ≤ (I 0 34).toInt) := hrp
  refine lv_aload_n hx hb dX12_sums_0 rfl (lv_at hl 0 rfl) ?_
  refine z_get (T := TX12) (N := 96) (ci := 12) (i := 0) (v := .ref (ad 27)) hx hb hts zj_X12_sums_X12 hown hK hW rfl rfl 44 (by decide) (hts (.fieldLink RX12 94 "PetrolBoardModel" "at" "[I") (List.mem_of_getElem? (i := 1) rfl)) (fun _ h => h) rfl dX12_sums_1 ?_
  refine lv_iload_n hx hb dX12_sums_4 rfl (lv_at hl 1 rfl) ?_
  refine z_iald (i := 27) hx hb hK hW rfl (z_ix rfl (by omega) (by omega)) dX12_sums_5 ?_
  refine z_topi (v := va) eva.symm ?_
  refine lv_if_ne (tgt := 30) hx hb dX12_sums_6 (by decide) (fun c1 => ?_) (fun c1 => ?_)
  · have g2 := z_f_ne rfl z_l0 c1
    refine lv_aload_n hx hb dX12_sums_30 rfl (lv_at hl 0 rfl) ?_
    refine z_get (T := TX12) (N := 96) (ci := 12) (i := 0) (v := .ref (ad 28)) hx hb hts zj_X12_sums_X12 hown hK hW rfl rfl 45 (by decide) (hts (.fieldLink RX12 97 "PetrolBoardModel" "one" "[I") (List.mem_of_getElem? (i := 2) rfl)) (fun _ h => h) rfl dX12_sums_31 ?_
    refine lv_iload_n hx hb dX12_sums_34 rfl (lv_at hl 1 rfl) ?_
    refine lv_aload_n hx hb dX12_sums_35 rfl (lv_at hl 0 rfl) ?_
    refine z_get (T := TX12) (N := 96) (ci := 12) (i := 0) (v := .ref (ad 28)) hx hb hts zj_X12_sums_X12 hown hK hW rfl rfl 45 (by decide) (hts (.fieldLink RX12 97 "PetrolBoardModel" "one" "[I") (List.mem_of_getElem? (i := 2) rfl)) (fun _ h => h) rfl dX12_sums_36 ?_
    refine lv_iload_n hx hb dX12_sums_39 rfl (lv_at hl 1 rfl) ?_
    refine z_iald (i := 28) hx hb hK hW rfl (z_ix rfl (by omega) (by omega)) dX12_sums_40 ?_
    refine z_topi (v := vo) evo.symm ?_
    refine lv_if_ge (tgt := 51) hx hb dX12_sums_41 (by decide) (fun c3 => ?_) (fun c3 => ?_)
    · have g4 := z_f_ge rfl z_l0 c3
      refine lv_aload_n hx hb dX12_sums_51 rfl (lv_at hl 0 rfl) ?_
      refine lv_aload_n hx hb dX12_sums_52 rfl (lv_at hl 0 rfl) ?_
      refine z_get (T := TX12) (N := 96) (ci := 12) (i := 0) (v := .ref (ad 29)) hx hb hts zj_X12_sums_X12 hown hK hW rfl rfl 46 (by decide) (hts (.fieldLink RX12 100 "PetrolBoardModel" "sort" "[I") (List.mem_of_getElem? (i := 4) rfl)) (fun _ h => h) rfl dX12_sums_53 ?_
      refine lv_iload_n hx hb dX12_sums_56 rfl (lv_at hl 1 rfl) ?_
      refine z_iald (i := 29) hx hb hK hW rfl (z_ix rfl (by omega) (by omega)) dX12_sums_57 ?_
      refine z_topi (v := vs) evs.symm ?_
      refine lv_aload_n hx hb dX12_sums_58 rfl (lv_at hl 0 rfl) ?_
      refine z_get (T := TX12) (N := 96) (ci := 12) (i := 0) (v := .ref (ad 28)) hx hb hts zj_X12_sums_X12 hown hK hW rfl rfl 45 (by decide) (hts (.fieldLink RX12 97 "PetrolBoardModel" "one" "[I") (List.mem_of_getElem? (i := 2) rfl)) (fun _ h => h) rfl dX12_sums_59 ?_
      refine lv_iload_n hx hb dX12_sums_62 rfl (lv_at hl 1 rfl) ?_
      refine z_iald (i := 28) hx hb hK hW rfl (z_ix rfl (by omega) (by omega)) dX12_sums_63 ?_
      refine z_topi (v := vo) evo.symm ?_
      refine lv_aload_n hx hb dX12_sums_64 rfl (lv_at hl 0 rfl) ?_
      have r5 : 0 ≤ (I 0 40).toInt ∧ (I 0 40).toInt ≤ 6199 := hmg
      refine z_get (T := TX12) (N := 96) (ci := 12) (i := 0) (v := .int (I 0 40)) hx hb hts zj_X12_sums_X12 hown hK hW rfl rfl 40 (by decide) (hts (.fieldLink RX12 343 "PetrolBoardModel" "got" "I") (List.mem_of_getElem? (i := 3) rfl)) (fun _ h => h) rfl dX12_sums_65 ?_
      refine z_ci hW hS hA (va_runV (As := [.int vs, .int vo, .int (I 0 40)]) (rest := [.int a1, .ref (ad 28)]) ⟨hx, hb, hml, hown, hts⟩ (sx_X12_node l G ad I J (by show 0 ≤ (I 0 15).toInt ∧ (I 0 15).toInt ≤ 6100; exact hmn) hNd vs vo (I 0 40) (by show (I 0 15).toInt ≤ 6099; omega) (by first | omega | decide) (by first | omega | decide) (by first | omega | decide) _) (cwV 3 hts gX12_sums_X12_node rfl rfl rfl (by decide +kernel) ⟨Nat.le_of_ble_eq_true rfl, Nat.le_of_ble_eq_true rfl⟩) (z_preV (i := 0) hK hW rfl rfl) rfl rfl hl.1 rfl (lv_room (Nat.le_of_ble_eq_true rfl)) dX12_sums_68 ⟨Nat.le_of_ble_eq_true rfl, Nat.le_of_ble_eq_true rfl⟩) (fun r u1 H locs hp hW hS => ?_)
      obtain ⟨I6, J8, e9, hI6mn, hI6Nd, fI6, hp⟩ := hp
      rw [e9] at hW
      have f7 := z_fr_sub (L := L_X12_sums_0) z_fr_0 fI6 (by decide)
      have k9 : 0 ≤ (I6 0 31).toInt ∧ (I6 0 31).toInt ≤ 500 := by rw [fI6 0 31 (by decide)]; exact (by show 0 ≤ (I 0 31).toInt ∧ (I 0 31).toInt ≤ 500; exact hmp.1)
      have k10 : 0 ≤ (I6 0 33).toInt ∧ (I6 0 33).toInt ≤ 500 := by rw [fI6 0 33 (by decide)]; exact (by show 0 ≤ (I 0 33).toInt ∧ (I 0 33).toInt ≤ 500; exact hmp.2.1)
      have k11 : 0 ≤ (I6 0 34).toInt ∧ (I6 0 34).toInt ≤ 500 := by rw [fI6 0 34 (by decide)]; exact (by show 0 ≤ (I 0 34).toInt ∧ (I 0 34).toInt ≤ 500; exact hmp.2.2.1)
      have k12 : 0 ≤ (I6 0 35).toInt ∧ (I6 0 35).toInt ≤ 500 := by rw [fI6 0 35 (by decide)]; exact (by show 0 ≤ (I 0 35).toInt ∧ (I 0 35).toInt ≤ 500; exact hmp.2.2.2)
      have k13 : 0 ≤ (I6 0 36).toInt ∧ (I6 0 36).toInt ≤ 4 := by rw [fI6 0 36 (by decide)]; exact (by show 0 ≤ (I 0 36).toInt ∧ (I 0 36).toInt ≤ 4; exact hmt.1)
      have k14 : 0 ≤ (I6 0 42).toInt ∧ (I6 0 42).toInt ≤ 1 := by rw [fI6 0 42 (by decide)]; exact (by show 0 ≤ (I 0 42).toInt ∧ (I 0 42).toInt ≤ 1; exact hmt.2)
      have k15 : 0 ≤ (I6 0 47).toInt ∧ (I6 0 47).toInt ≤ 119 := by rw [fI6 0 47 (by decide)]; exact (by show 0 ≤ (I 0 47).toInt ∧ (I 0 47).toInt ≤ 119; exact hmd.1)
      have k16 : 0 ≤ (I6 0 39).toInt ∧ (I6 0 39).toInt ≤ 100 := by rw [fI6 0 39 (by decide)]; exact (by show 0 ≤ (I 0 39).toInt ∧ (I 0 39).toInt ≤ 100; exact hmd.2)
      have k17 : 0 ≤ (I6 0 40).toInt ∧ (I6 0 40).toInt ≤ 6199 := by rw [fI6 0 40 (by decide)]; exact (by show 0 ≤ (I 0 40).toInt ∧ (I 0 40).toInt ≤ 6199; exact hmg)
      have k18 : 0 ≤ (I6 0 35).toInt ∧ (I6 0 35).toInt ≤ (I6 0 34).toInt ∧ (I6 0 34).toInt ≤ (I6 0 33).toInt ∧ (I6 0 33).toInt ≤ 500 ∧ ((I6 0 36).toInt = 0 ∨ (I6 0 35).toInt + 1 ≤ (I6 0 34).toInt) := (by have q0 : (I6 0 35) = (I 0 35) := by rw [fI6 0 35 (by decide)]; have q1 : (I6 0 34) = (I 0 34) := by rw [fI6 0 34 (by decide)]; have q2 : (I6 0 33) = (I 0 33) := by rw [fI6 0 33 (by decide)]; have q3 : (I6 0 36) = (I 0 36) := by rw [fI6 0 36 (by decide)]; show 0 ≤ (I6 0 35).toInt ∧ (I6 0 35).toInt ≤ (I6 0 34).toInt ∧ (I6 0 34).toInt ≤ (I6 0 33).toInt ∧ (I6 0 33).toInt ≤ 500 ∧ ((I6 0 36).toInt = 0 ∨ (I6 0 35).toInt + 1 ≤ (I6 0 34).toInt); rw [q0, q1, q2, q3]; first | omega | decide)
      have k19 : (I6 0 35).toInt = (I 0 35).toInt := by rw [fI6 0 35 (by decide)]
      have k20 : (I6 0 34).toInt = (I 0 34).toInt := by rw [fI6 0 34 (by decide)]
      have k21 : (I6 0 36).toInt = (I 0 36).toInt := by rw [fI6 0 36 (by decide)]
      have k22 : (I6 0 42).toInt = (I 0 42).toInt := by rw [fI6 0 42 (by decide)]
      have k23 : (I6 0 47).toInt = (I 0 47).toInt := by rw [fI6 0 47 (by decide)]
      have k24 : (I6 0 39).toInt = (I 0 39).toInt := by rw [fI6 0 39 (by decide)]
      have k25 : (I6 0 40).toInt = (I 0 40).toInt := by rw [fI6 0 40 (by decide)]
      refine lv_topi (fun x26 ex26 => ?_)
      rw [← ex26] at hp
      obtain ⟨h27, h28⟩ := hp
      refine z_iast (i := 28) hx hb hK hW hS rfl (z_ix rfl (by omega) (by omega)) dX12_sums_71 (fun H locs hz1 hW hS => ?_)
      obtain ⟨I29, eI29⟩ : ∃ K : z_I, K = z_up I6 28 a1.toNatClampNeg x26 := ⟨_, rfl⟩
      rw [← eI29] at hW
      have f30 := z_fr_a f7 (show z_wa L_X12_sums_0 28 = true by decide) eI29
      have a31 := z_Nd_n hI6Nd (by decide) eI29
      refine lv_iload_n hx hb dX12_sums_72 rfl (lv_at hl 2 rfl) ?_
      refine lv_if_eq (tgt := 106) hx hb dX12_sums_73 (by decide) (fun c32 => ?_) (fun c32 => absurd (by decide) c32)
      refine lv_aload_n hx hb dX12_sums_106 rfl (lv_at hl 0 rfl) ?_
      refine lv_bipush (v := 42) hx hb dX12_sums_107 (by decide) ?_
      refine z_ci hW hS hA (va_runV (As := [.int 42]) (rest := []) ⟨hx, hb, hml, hown, hts⟩ (sx_X12_isSign l G ad I29 J8 ⟨(by show 0 ≤ (I29 0 36).toInt ∧ (I29 0 36).toInt ≤ 4; rw [eI29, z_up_n (by decide)]; exact k13), (by show 0 ≤ (I29 0 42).toInt ∧ (I29 0 42).toInt ≤ 1; rw [eI29, z_up_n (by decide)]; exact k14)⟩ 42 _) (cwV 1 hts gX12_sums_X12_isSign rfl rfl rfl (by decide +kernel) ⟨Nat.le_of_ble_eq_true rfl, Nat.le_of_ble_eq_true rfl⟩) (z_preV (i := 0) hK hW rfl rfl) rfl rfl hl.1 rfl (lv_room (Nat.le_of_ble_eq_true rfl)) dX12_sums_109 ⟨Nat.le_of_ble_eq_true rfl, Nat.le_of_ble_eq_true rfl⟩) (fun r u1 H locs hp hW hS => ?_)
      obtain ⟨e9, hp⟩ := hp
      rw [e9] at hW
      rcases hp with ⟨rfl, h33⟩ | rfl
      · rw [show (I29 0 36) = (I6 0 36) from by rw [eI29, z_up_n (by decide)]] at h33
        have h34 : (I6 0 35).toInt + 1 ≤ (I6 0 34).toInt := by omega
        refine lv_if_eq (tgt := 119) hx hb dX12_sums_112 (by decide) (fun c35 => absurd c35 (by decide)) (fun c35 => ?_)
        refine lv_iconst (v := 4) hx hb dX12_sums_115 (by decide) ?_
        refine lv_goto (tgt := 133) hx hb dX12_sums_116 (by decide) ?_
        refine lv_istore_n (lv' := [(3, .int 4), (0, .ref (ad 0)), (1, .int a1), (2, .int 0)]) hx hb dX12_sums_133 rfl hl (by decide) rfl (fun ls hl => ?_)
        refine lv_iload_n hx hb dX12_sums_134 rfl (lv_at hl 0 rfl) ?_
        refine lv_if_le (tgt := 165) hx hb dX12_sums_135 (by decide) (fun c36 => absurd c36 (by decide)) (fun c36 => ?_)
        refine lv_aload_n hx hb dX12_sums_138 rfl (lv_at hl 1 rfl) ?_
        refine z_cv hW hS hA (va_runV (As := []) (rest := []) ⟨hx, hb, hml, hown, hts⟩ (sx_X12_next l G ad I29 J8 ⟨(by show 0 ≤ (I29 0 31).toInt ∧ (I29 0 31).toInt ≤ 500; rw [eI29, z_up_n (by decide)]; exact k9), (by show 0 ≤ (I29 0 33).toInt ∧ (I29 0 33).toInt ≤ 500; rw [eI29, z_up_n (by decide)]; exact k10), (by show 0 ≤ (I29 0 34).toInt ∧ (I29 0 34).toInt ≤ 500; rw [eI29, z_up_n (by decide)]; exact k11), (by show 0 ≤ (I29 0 35).toInt ∧ (I29 0 35).toInt ≤ 500; rw [eI29, z_up_n (by decide)]; exact k12)⟩ ⟨(by show 0 ≤ (I29 0 36).toInt ∧ (I29 0 36).toInt ≤ 4; rw [eI29, z_up_n (by decide)]; exact k13), (by show 0 ≤ (I29 0 42).toInt ∧ (I29 0 42).toInt ≤ 1; rw [eI29, z_up_n (by decide)]; exact k14)⟩ (by have q0 : (I29 0 34) = (I6 0 34) := by rw [eI29, z_up_n (by decide)]; have q1 : (I29 0 33) = (I6 0 33) := by rw [eI29, z_up_n (by decide)]; show 0 ≤ (I29 0 34).toInt ∧ (I29 0 34).toInt ≤ (I29 0 33).toInt ∧ (I29 0 33).toInt ≤ 500; rw [q0, q1]; first | omega | decide)  _) (cwV 0 hts gX12_sums_X12_next rfl rfl rfl (by decide +kernel) ⟨Nat.le_of_ble_eq_true rfl, Nat.le_of_ble_eq_true rfl⟩) (z_preV (i := 0) hK hW rfl rfl) rfl rfl hl.1 rfl (lv_room (Nat.le_of_ble_eq_true rfl)) dX12_sums_139 ⟨Nat.le_of_ble_eq_true rfl, Nat.le_of_ble_eq_true rfl⟩) (fun u1 H locs hp hW hS => ?_)
        obtain ⟨I37, J39, e9, hI37mp, hI37mt, hI37rp, fI37, hp⟩ := hp
        rw [e9] at hW
        have f38 := z_fr_sub (L := L_X12_sums_0) f30 fI37 (by decide)
        have k40 : 0 ≤ (I37 0 47).toInt ∧ (I37 0 47).toInt ≤ 119 := by rw [fI37 0 47 (by decide)]; exact (by show 0 ≤ (I29 0 47).toInt ∧ (I29 0 47).toInt ≤ 119; rw [eI29, z_up_n (by decide)]; exact k15)
        have k41 : 0 ≤ (I37 0 39).toInt ∧ (I37 0 39).toInt ≤ 100 := by rw [fI37 0 39 (by decide)]; exact (by show 0 ≤ (I29 0 39).toInt ∧ (I29 0 39).toInt ≤ 100; rw [eI29, z_up_n (by decide)]; exact k16)
        have k42 : 0 ≤ (I37 0 40).toInt ∧ (I37 0 40).toInt ≤ 6199 := by rw [fI37 0 40 (by decide)]; exact (by show 0 ≤ (I29 0 40).toInt ∧ (I29 0 40).toInt ≤ 6199; rw [eI29, z_up_n (by decide)]; exact k17)
        have k43 : 0 ≤ (I37 0 15).toInt ∧ (I37 0 15).toInt ≤ 6100 := by rw [fI37 0 15 (by decide)]; exact (by show 0 ≤ (I29 0 15).toInt ∧ (I29 0 15).toInt ≤ 6100; rw [eI29, z_up_n (by decide)]; exact hI6mn)
        have k44 : 0 ≤ (I37 0 35).toInt ∧ (I37 0 35).toInt ≤ (I37 0 34).toInt ∧ (I37 0 34).toInt ≤ (I37 0 33).toInt ∧ (I37 0 33).toInt ≤ 500 ∧ ((I37 0 36).toInt = 0 ∨ (I37 0 35).toInt + 1 ≤ (I37 0 34).toInt) := hI37rp
        have k45 : (I37 0 42).toInt = (I6 0 42).toInt := by rw [fI37 0 42 (by decide), eI29, z_up_n (by decide)]
        have k46 : (I37 0 47).toInt = (I6 0 47).toInt := by rw [fI37 0 47 (by decide), eI29, z_up_n (by decide)]
        have k47 : (I37 0 39).toInt = (I6 0 39).toInt := by rw [fI37 0 39 (by decide), eI29, z_up_n (by decide)]
        have k48 : (I37 0 15).toInt = (I6 0 15).toInt := by rw [fI37 0 15 (by decide), eI29, z_up_n (by decide)]
        have k49 : (I37 0 40).toInt = (I6 0 40).toInt := by rw [fI37 0 40 (by decide), eI29, z_up_n (by decide)]
        have h50 := hp
        rw [show (I29 0 34) = (I6 0 34) from by rw [eI29, z_up_n (by decide)]] at h50
        refine lv_aload_n hx hb dX12_sums_142 rfl (lv_at hl 1 rfl) ?_
        refine z_get (T := TX12) (N := 96) (ci := 12) (i := 0) (v := .ref (ad 29)) hx hb hts zj_X12_sums_X12 hown hK hW rfl rfl 46 (by decide) (hts (.fieldLink RX12 100 "PetrolBoardModel" "sort" "[I") (List.mem_of_getElem? (i := 4) rfl)) (fun _ h => h) rfl dX12_sums_143 ?_
        refine lv_iload_n hx hb dX12_sums_146 rfl (lv_at hl 2 rfl) ?_
        refine lv_iload_n hx hb dX12_sums_147 rfl (lv_at hl 0 rfl) ?_
        refine z_iast (i := 29) hx hb hK hW hS rfl (z_ix rfl (by omega) (by omega)) dX12_sums_148 (fun H locs hz1 hW hS => ?_)
        obtain ⟨I51, eI51⟩ : ∃ K : z_I, K = z_up I37 29 a1.toNatClampNeg 4 := ⟨_, rfl⟩
        rw [← eI51] at hW
        have f52 := z_fr_a f38 (show z_wa L_X12_sums_0 29 = true by decide) eI51
        have a53 := z_Nd_n (z_Nd_fr a31 fI37 (by decide)) (by decide) eI51
        refine lv_aload_n hx hb dX12_sums_149 rfl (lv_at hl 1 rfl) ?_
        refine lv_iload_n hx hb dX12_sums_150 rfl (lv_at hl 3 rfl) ?_
        refine lv_if_eq (tgt := 158) hx hb dX12_sums_151 (by decide) (fun c54 => ?_) (fun c54 => absurd (by decide) c54)
        refine lv_iconst (v := 2) hx hb dX12_sums_158 (by decide) ?_
        refine z_cv hW hS hA (va_runV (As := [.int 2]) (rest := []) ⟨hx, hb, hml, hown, hts⟩ (sx_X12_begin l G ad I51 J39 ⟨(by show 0 ≤ (I51 0 47).toInt ∧ (I51 0 47).toInt ≤ 119; rw [eI51, z_up_n (by decide)]; exact k40), (by show 0 ≤ (I51 0 39).toInt ∧ (I51 0 39).toInt ≤ 100; rw [eI51, z_up_n (by decide)]; exact k41)⟩ 2 (by have q0 : (I51 0 47) = (I37 0 47) := by rw [eI51, z_up_n (by decide)]; show (I51 0 47).toInt ≤ 118; rw [q0]; omega) _) (cwV 1 hts gX12_sums_X12_begin rfl rfl rfl (by decide +kernel) ⟨Nat.le_of_ble_eq_true rfl, Nat.le_of_ble_eq_true rfl⟩) (z_preV (i := 0) hK hW rfl rfl) rfl rfl hl.1 rfl (lv_room (Nat.le_of_ble_eq_true rfl)) dX12_sums_159 ⟨Nat.le_of_ble_eq_true rfl, Nat.le_of_ble_eq_true rfl⟩) (fun u1 H locs hp hW hS => ?_)
        obtain ⟨I55, J57, e9, hI55md, fI55, hp⟩ := hp
        rw [e9] at hW
        have f56 := z_fr_sub (L := L_X12_sums_0) f52 fI55 (by decide)
        have k58 : 0 ≤ (I55 0 31).toInt ∧ (I55 0 31).toInt ≤ 500 := by rw [fI55 0 31 (by decide)]; exact (by show 0 ≤ (I51 0 31).toInt ∧ (I51 0 31).toInt ≤ 500; rw [eI51, z_up_n (by decide)]; exact hI37mp.1)
        have k59 : 0 ≤ (I55 0 33).toInt ∧ (I55 0 33).toInt ≤ 500 := by rw [fI55 0 33 (by decide)]; exact (by show 0 ≤ (I51 0 33).toInt ∧ (I51 0 33).toInt ≤ 500; rw [eI51, z_up_n (by decide)]; exact hI37mp.2.1)
        have k60 : 0 ≤ (I55 0 34).toInt ∧ (I55 0 34).toInt ≤ 500 := by rw [fI55 0 34 (by decide)]; exact (by show 0 ≤ (I51 0 34).toInt ∧ (I51 0 34).toInt ≤ 500; rw [eI51, z_up_n (by decide)]; exact hI37mp.2.2.1)
        have k61 : 0 ≤ (I55 0 35).toInt ∧ (I55 0 35).toInt ≤ 500 := by rw [fI55 0 35 (by decide)]; exact (by show 0 ≤ (I51 0 35).toInt ∧ (I51 0 35).toInt ≤ 500; rw [eI51, z_up_n (by decide)]; exact hI37mp.2.2.2)
        have k62 : 0 ≤ (I55 0 36).toInt ∧ (I55 0 36).toInt ≤ 4 := by rw [fI55 0 36 (by decide)]; exact (by show 0 ≤ (I51 0 36).toInt ∧ (I51 0 36).toInt ≤ 4; rw [eI51, z_up_n (by decide)]; exact hI37mt.1)
        have k63 : 0 ≤ (I55 0 42).toInt ∧ (I55 0 42).toInt ≤ 1 := by rw [fI55 0 42 (by decide)]; exact (by show 0 ≤ (I51 0 42).toInt ∧ (I51 0 42).toInt ≤ 1; rw [eI51, z_up_n (by decide)]; exact hI37mt.2)
        have k64 : 0 ≤ (I55 0 40).toInt ∧ (I55 0 40).toInt ≤ 6199 := by rw [fI55 0 40 (by decide)]; exact (by show 0 ≤ (I51 0 40).toInt ∧ (I51 0 40).toInt ≤ 6199; rw [eI51, z_up_n (by decide)]; exact k42)
        have k65 : 0 ≤ (I55 0 15).toInt ∧ (I55 0 15).toInt ≤ 6100 := by rw [fI55 0 15 (by decide)]; exact (by show 0 ≤ (I51 0 15).toInt ∧ (I51 0 15).toInt ≤ 6100; rw [eI51, z_up_n (by decide)]; exact k43)
        have k66 : 0 ≤ (I55 0 35).toInt ∧ (I55 0 35).toInt ≤ (I55 0 34).toInt ∧ (I55 0 34).toInt ≤ (I55 0 33).toInt ∧ (I55 0 33).toInt ≤ 500 ∧ ((I55 0 36).toInt = 0 ∨ (I55 0 35).toInt + 1 ≤ (I55 0 34).toInt) := (by have q0 : (I55 0 35) = (I37 0 35) := by rw [fI55 0 35 (by decide), eI51, z_up_n (by decide)]; have q1 : (I55 0 34) = (I37 0 34) := by rw [fI55 0 34 (by decide), eI51, z_up_n (by decide)]; have q2 : (I55 0 33) = (I37 0 33) := by rw [fI55 0 33 (by decide), eI51, z_up_n (by decide)]; have q3 : (I55 0 36) = (I37 0 36) := by rw [fI55 0 36 (by decide), eI51, z_up_n (by decide)]; show 0 ≤ (I55 0 35).toInt ∧ (I55 0 35).toInt ≤ (I55 0 34).toInt ∧ (I55 0 34).toInt ≤ (I55 0 33).toInt ∧ (I55 0 33).toInt ≤ 500 ∧ ((I55 0 36).toInt = 0 ∨ (I55 0 35).toInt + 1 ≤ (I55 0 34).toInt); rw [q0, q1, q2, q3]; first | omega | decide)
        have k67 : (I55 0 35).toInt = (I37 0 35).toInt := by rw [fI55 0 35 (by decide), eI51, z_up_n (by decide)]
        have k68 : (I55 0 34).toInt = (I37 0 34).toInt := by rw [fI55 0 34 (by decide), eI51, z_up_n (by decide)]
        have k69 : (I55 0 36).toInt = (I37 0 36).toInt := by rw [fI55 0 36 (by decide), eI51, z_up_n (by decide)]
        have k70 : (I55 0 42).toInt = (I37 0 42).toInt := by rw [fI55 0 42 (by decide), eI51, z_up_n (by decide)]
        have k71 : (I55 0 39).toInt = (I37 0 39).toInt := by rw [fI55 0 39 (by decide), eI51, z_up_n (by decide)]
        have k72 : (I55 0 15).toInt = (I37 0 15).toInt := by rw [fI55 0 15 (by decide), eI51, z_up_n (by decide)]
        have k73 : (I55 0 40).toInt = (I37 0 40).toInt := by rw [fI55 0 40 (by decide), eI51, z_up_n (by decide)]
        have h74 := hp
        refine lv_goto (tgt := 175) hx hb dX12_sums_162 (by decide) ?_
        exact z_vret hx hb hr hK hS (Nat.le_of_ble_eq_true rfl) (Nat.le_of_ble_eq_true rfl) hlocks dX12_sums_175 (shM, ad, I55, J57, PM ad) hW ⟨I55, J57, rfl, ⟨(by show 0 ≤ (I55 0 31).toInt ∧ (I55 0 31).toInt ≤ 500; exact k58), (by show 0 ≤ (I55 0 33).toInt ∧ (I55 0 33).toInt ≤ 500; exact k59), (by show 0 ≤ (I55 0 34).toInt ∧ (I55 0 34).toInt ≤ 500; exact k60), (by show 0 ≤ (I55 0 35).toInt ∧ (I55 0 35).toInt ≤ 500; exact k61)⟩, ⟨(by show 0 ≤ (I55 0 36).toInt ∧ (I55 0 36).toInt ≤ 4; exact k62), (by show 0 ≤ (I55 0 42).toInt ∧ (I55 0 42).toInt ≤ 1; exact k63)⟩, ⟨(by show 0 ≤ (I55 0 47).toInt ∧ (I55 0 47).toInt ≤ 119; exact hI55md.1), (by show 0 ≤ (I55 0 39).toInt ∧ (I55 0 39).toInt ≤ 100; exact hI55md.2)⟩, (by show 0 ≤ (I55 0 40).toInt ∧ (I55 0 40).toInt ≤ 6199; exact k64), (by show 0 ≤ (I55 0 15).toInt ∧ (I55 0 15).toInt ≤ 6100; exact k65), (z_Nd_fr a53 fI55 (by decide)), (by show 0 ≤ (I55 0 35).toInt ∧ (I55 0 35).toInt ≤ (I55 0 34).toInt ∧ (I55 0 34).toInt ≤ (I55 0 33).toInt ∧ (I55 0 33).toInt ≤ 500 ∧ ((I55 0 36).toInt = 0 ∨ (I55 0 35).toInt + 1 ≤ (I55 0 34).toInt); first | omega | decide), f56, ((Classical.em ((I55 0 42).toInt = 0)).elim (fun hw9 => Or.inr ⟨a1.toNatClampNeg + 2, by have w1 := z_fw_1np (a := va.toInt) (o := vo.toInt) (by omega) (by omega); have w2 := z_fo_1n (a := va.toInt); have w3 := z_fw_1np (a := va.toInt) (o := x26.toInt) (by omega) (by omega); have w4 := z_fo_1n (a := va.toInt); have w5 := z_fw_20 (a := 0) (o := -1) (by omega); have w6 := z_rk_1; have w7 := z_rk_2; exact z_PUSH (d := a1.toNatClampNeg) (w := 1) (a := va.toInt) (o := x26.toInt) (s := 4) (wi := 2) hPS (fun i hi => ⟨by rw [eI51, z_up_n (by decide), fI37 26 i (z_wr_c (by decide)), eI29, z_up_n (by decide), fI6 26 i (z_wr_c (by decide))], by rw [eI51, z_up_n (by decide), fI37 27 i (z_wr_c (by decide)), eI29, z_up_n (by decide), fI6 27 i (z_wr_c (by decide))], by rw [eI51, z_up_n (by decide), fI37 28 i (z_wr_c (by decide)), eI29, z_up_k (by omega), fI6 28 i (z_wr_c (by decide))], by rw [eI51, z_up_k (by omega), fI37 29 i (z_wr_c (by decide)), eI29, z_up_n (by decide), fI6 29 i (z_wr_c (by decide))]⟩) (by rw [show I51 26 a1.toNatClampNeg = vw from (by rw [eI51, z_up_n (by decide), fI37 26 a1.toNatClampNeg (z_wr_c (by decide)), eI29, z_up_n (by decide), fI6 26 a1.toNatClampNeg (z_wr_c (by decide))]; exact evw.symm)]; exact hvw) (by rw [show I51 27 a1.toNatClampNeg = va from (by rw [eI51, z_up_n (by decide), fI37 27 a1.toNatClampNeg (z_wr_c (by decide)), eI29, z_up_n (by decide), fI6 27 a1.toNatClampNeg (z_wr_c (by decide))]; exact eva.symm)]; exact rfl) (by rw [show I51 28 a1.toNatClampNeg = x26 from (by rw [eI51, z_up_n (by decide), fI37 28 a1.toNatClampNeg (z_wr_c (by decide)), eI29, z_up_s])]; exact rfl) (by rw [show I51 29 a1.toNatClampNeg = 4 from (by rw [eI51, z_up_s])]; exact z_l4) (by unfold z_fv; omega) hwd (by rw [eI51, z_up_n (by decide)]; omega) h74 z_l2 (by omega) (by omega) (by omega) (by omega) (by omega) (by omega) (by omega) (by omega)⟩) Or.inl)⟩
      · refine lv_if_eq (tgt := 119) hx hb dX12_sums_112 (by decide) (fun c75 => ?_) (fun c75 => absurd (by decide) c75)
        refine lv_aload_n hx hb dX12_sums_119 rfl (lv_at hl 0 rfl) ?_
        refine lv_bipush (v := 47) hx hb dX12_sums_120 (by decide) ?_
        refine z_ci hW hS hA (va_runV (As := [.int 47]) (rest := []) ⟨hx, hb, hml, hown, hts⟩ (sx_X12_isSign l G ad I29 J8 ⟨(by show 0 ≤ (I29 0 36).toInt ∧ (I29 0 36).toInt ≤ 4; rw [eI29, z_up_n (by decide)]; exact k13), (by show 0 ≤ (I29 0 42).toInt ∧ (I29 0 42).toInt ≤ 1; rw [eI29, z_up_n (by decide)]; exact k14)⟩ 47 _) (cwV 1 hts gX12_sums_X12_isSign rfl rfl rfl (by decide +kernel) ⟨Nat.le_of_ble_eq_true rfl, Nat.le_of_ble_eq_true rfl⟩) (z_preV (i := 0) hK hW rfl rfl) rfl rfl hl.1 rfl (lv_room (Nat.le_of_ble_eq_true rfl)) dX12_sums_122 ⟨Nat.le_of_ble_eq_true rfl, Nat.le_of_ble_eq_true rfl⟩) (fun r u1 H locs hp hW hS => ?_)
        obtain ⟨e9, hp⟩ := hp
        rw [e9] at hW
        rcases hp with ⟨rfl, h76⟩ | rfl
        · rw [show (I29 0 36) = (I6 0 36) from by rw [eI29, z_up_n (by decide)]] at h76
          have h77 : (I6 0 35).toInt + 1 ≤ (I6 0 34).toInt := by omega
          refine lv_if_eq (tgt := 132) hx hb dX12_sums_125 (by decide) (fun c78 => absurd c78 (by decide)) (fun c78 => ?_)
          refine lv_iconst (v := 5) hx hb dX12_sums_128 (by decide) ?_
          refine lv_goto (tgt := 133) hx hb dX12_sums_129 (by decide) ?_
          refine lv_istore_n (lv' := [(3, .int 5), (0, .ref (ad 0)), (1, .int a1), (2, .int 0)]) hx hb dX12_sums_133 rfl hl (by decide) rfl (fun ls hl => ?_)
          refine lv_iload_n hx hb dX12_sums_134 rfl (lv_at hl 0 rfl) ?_
          refine lv_if_le (tgt := 165) hx hb dX12_sums_135 (by decide) (fun c79 => absurd c79 (by decide)) (fun c79 => ?_)
          refine lv_aload_n hx hb dX12_sums_138 rfl (lv_at hl 1 rfl) ?_
          refine z_cv hW hS hA (va_runV (As := []) (rest := []) ⟨hx, hb, hml, hown, hts⟩ (sx_X12_next l G ad I29 J8 ⟨(by show 0 ≤ (I29 0 31).toInt ∧ (I29 0 31).toInt ≤ 500; rw [eI29, z_up_n (by decide)]; exact k9), (by show 0 ≤ (I29 0 33).toInt ∧ (I29 0 33).toInt ≤ 500; rw [eI29, z_up_n (by decide)]; exact k10), (by show 0 ≤ (I29 0 34).toInt ∧ (I29 0 34).toInt ≤ 500; rw [eI29, z_up_n (by decide)]; exact k11), (by show 0 ≤ (I29 0 35).toInt ∧ (I29 0 35).toInt ≤ 500; rw [eI29, z_up_n (by decide)]; exact k12)⟩ ⟨(by show 0 ≤ (I29 0 36).toInt ∧ (I29 0 36).toInt ≤ 4; rw [eI29, z_up_n (by decide)]; exact k13), (by show 0 ≤ (I29 0 42).toInt ∧ (I29 0 42).toInt ≤ 1; rw [eI29, z_up_n (by decide)]; exact k14)⟩ (by have q0 : (I29 0 34) = (I6 0 34) := by rw [eI29, z_up_n (by decide)]; have q1 : (I29 0 33) = (I6 0 33) := by rw [eI29, z_up_n (by decide)]; show 0 ≤ (I29 0 34).toInt ∧ (I29 0 34).toInt ≤ (I29 0 33).toInt ∧ (I29 0 33).toInt ≤ 500; rw [q0, q1]; first | omega | decide)  _) (cwV 0 hts gX12_sums_X12_next rfl rfl rfl (by decide +kernel) ⟨Nat.le_of_ble_eq_true rfl, Nat.le_of_ble_eq_true rfl⟩) (z_preV (i := 0) hK hW rfl rfl) rfl rfl hl.1 rfl (lv_room (Nat.le_of_ble_eq_true rfl)) dX12_sums_139 ⟨Nat.le_of_ble_eq_true rfl, Nat.le_of_ble_eq_true rfl⟩) (fun u1 H locs hp hW hS => ?_)
          obtain ⟨I80, J82, e9, hI80mp, hI80mt, hI80rp, fI80, hp⟩ := hp
          rw [e9] at hW
          have f81 := z_fr_sub (L := L_X12_sums_0) f30 fI80 (by decide)
          have k83 : 0 ≤ (I80 0 47).toInt ∧ (I80 0 47).toInt ≤ 119 := by rw [fI80 0 47 (by decide)]; exact (by show 0 ≤ (I29 0 47).toInt ∧ (I29 0 47).toInt ≤ 119; rw [eI29, z_up_n (by decide)]; exact k15)
          have k84 : 0 ≤ (I80 0 39).toInt ∧ (I80 0 39).toInt ≤ 100 := by rw [fI80 0 39 (by decide)]; exact (by show 0 ≤ (I29 0 39).toInt ∧ (I29 0 39).toInt ≤ 100; rw [eI29, z_up_n (by decide)]; exact k16)
          have k85 : 0 ≤ (I80 0 40).toInt ∧ (I80 0 40).toInt ≤ 6199 := by rw [fI80 0 40 (by decide)]; exact (by show 0 ≤ (I29 0 40).toInt ∧ (I29 0 40).toInt ≤ 6199; rw [eI29, z_up_n (by decide)]; exact k17)
          have k86 : 0 ≤ (I80 0 15).toInt ∧ (I80 0 15).toInt ≤ 6100 := by rw [fI80 0 15 (by decide)]; exact (by show 0 ≤ (I29 0 15).toInt ∧ (I29 0 15).toInt ≤ 6100; rw [eI29, z_up_n (by decide)]; exact hI6mn)
          have k87 : 0 ≤ (I80 0 35).toInt ∧ (I80 0 35).toInt ≤ (I80 0 34).toInt ∧ (I80 0 34).toInt ≤ (I80 0 33).toInt ∧ (I80 0 33).toInt ≤ 500 ∧ ((I80 0 36).toInt = 0 ∨ (I80 0 35).toInt + 1 ≤ (I80 0 34).toInt) := hI80rp
          have k88 : (I80 0 42).toInt = (I6 0 42).toInt := by rw [fI80 0 42 (by decide), eI29, z_up_n (by decide)]
          have k89 : (I80 0 47).toInt = (I6 0 47).toInt := by rw [fI80 0 47 (by decide), eI29, z_up_n (by decide)]
          have k90 : (I80 0 39).toInt = (I6 0 39).toInt := by rw [fI80 0 39 (by decide), eI29, z_up_n (by decide)]
          have k91 : (I80 0 15).toInt = (I6 0 15).toInt := by rw [fI80 0 15 (by decide), eI29, z_up_n (by decide)]
          have k92 : (I80 0 40).toInt = (I6 0 40).toInt := by rw [fI80 0 40 (by decide), eI29, z_up_n (by decide)]
          have h93 := hp
          rw [show (I29 0 34) = (I6 0 34) from by rw [eI29, z_up_n (by decide)]] at h93
          refine lv_aload_n hx hb dX12_sums_142 rfl (lv_at hl 1 rfl) ?_
          refine z_get (T := TX12) (N := 96) (ci := 12) (i := 0) (v := .ref (ad 29)) hx hb hts zj_X12_sums_X12 hown hK hW rfl rfl 46 (by decide) (hts (.fieldLink RX12 100 "PetrolBoardModel" "sort" "[I") (List.mem_of_getElem? (i := 4) rfl)) (fun _ h => h) rfl dX12_sums_143 ?_
          refine lv_iload_n hx hb dX12_sums_146 rfl (lv_at hl 2 rfl) ?_
          refine lv_iload_n hx hb dX12_sums_147 rfl (lv_at hl 0 rfl) ?_
          refine z_iast (i := 29) hx hb hK hW hS rfl (z_ix rfl (by omega) (by omega)) dX12_sums_148 (fun H locs hz1 hW hS => ?_)
          obtain ⟨I94, eI94⟩ : ∃ K : z_I, K = z_up I80 29 a1.toNatClampNeg 5 := ⟨_, rfl⟩
          rw [← eI94] at hW
          have f95 := z_fr_a f81 (show z_wa L_X12_sums_0 29 = true by decide) eI94
          have a96 := z_Nd_n (z_Nd_fr a31 fI80 (by decide)) (by decide) eI94
          refine lv_aload_n hx hb dX12_sums_149 rfl (lv_at hl 1 rfl) ?_
          refine lv_iload_n hx hb dX12_sums_150 rfl (lv_at hl 3 rfl) ?_
          refine lv_if_eq (tgt := 158) hx hb dX12_sums_151 (by decide) (fun c97 => ?_) (fun c97 => absurd (by decide) c97)
          refine lv_iconst (v := 2) hx hb dX12_sums_158 (by decide) ?_
          refine z_cv hW hS hA (va_runV (As := [.int 2]) (rest := []) ⟨hx, hb, hml, hown, hts⟩ (sx_X12_begin l G ad I94 J82 ⟨(by show 0 ≤ (I94 0 47).toInt ∧ (I94 0 47).toInt ≤ 119; rw [eI94, z_up_n (by decide)]; exact k83), (by show 0 ≤ (I94 0 39).toInt ∧ (I94 0 39).toInt ≤ 100; rw [eI94, z_up_n (by decide)]; exact k84)⟩ 2 (by have q0 : (I94 0 47) = (I80 0 47) := by rw [eI94, z_up_n (by decide)]; show (I94 0 47).toInt ≤ 118; rw [q0]; omega) _) (cwV 1 hts gX12_sums_X12_begin rfl rfl rfl (by decide +kernel) ⟨Nat.le_of_ble_eq_true rfl, Nat.le_of_ble_eq_true rfl⟩) (z_preV (i := 0) hK hW rfl rfl) rfl rfl hl.1 rfl (lv_room (Nat.le_of_ble_eq_true rfl)) dX12_sums_159 ⟨Nat.le_of_ble_eq_true rfl, Nat.le_of_ble_eq_true rfl⟩) (fun u1 H locs hp hW hS => ?_)
          obtain ⟨I98, J100, e9, hI98md, fI98, hp⟩ := hp
          rw [e9] at hW
          have f99 := z_fr_sub (L := L_X12_sums_0) f95 fI98 (by decide)
          have k101 : 0 ≤ (I98 0 31).toInt ∧ (I98 0 31).toInt ≤ 500 := by rw [fI98 0 31 (by decide)]; exact (by show 0 ≤ (I94 0 31).toInt ∧ (I94 0 31).toInt ≤ 500; rw [eI94, z_up_n (by decide)]; exact hI80mp.1)
          have k102 : 0 ≤ (I98 0 33).toInt ∧ (I98 0 33).toInt ≤ 500 := by rw [fI98 0 33 (by decide)]; exact (by show 0 ≤ (I94 0 33).toInt ∧ (I94 0 33).toInt ≤ 500; rw [eI94, z_up_n (by decide)]; exact hI80mp.2.1)
          have k103 : 0 ≤ (I98 0 34).toInt ∧ (I98 0 34).toInt ≤ 500 := by rw [fI98 0 34 (by decide)]; exact (by show 0 ≤ (I94 0 34).toInt ∧ (I94 0 34).toInt ≤ 500; rw [eI94, z_up_n (by decide)]; exact hI80mp.2.2.1)
          have k104 : 0 ≤ (I98 0 35).toInt ∧ (I98 0 35).toInt ≤ 500 := by rw [fI98 0 35 (by decide)]; exact (by show 0 ≤ (I94 0 35).toInt ∧ (I94 0 35).toInt ≤ 500; rw [eI94, z_up_n (by decide)]; exact hI80mp.2.2.2)
          have k105 : 0 ≤ (I98 0 36).toInt ∧ (I98 0 36).toInt ≤ 4 := by rw [fI98 0 36 (by decide)]; exact (by show 0 ≤ (I94 0 36).toInt ∧ (I94 0 36).toInt ≤ 4; rw [eI94, z_up_n (by decide)]; exact hI80mt.1)
          have k106 : 0 ≤ (I98 0 42).toInt ∧ (I98 0 42).toInt ≤ 1 := by rw [fI98 0 42 (by decide)]; exact (by show 0 ≤ (I94 0 42).toInt ∧ (I94 0 42).toInt ≤ 1; rw [eI94, z_up_n (by decide)]; exact hI80mt.2)
          have k107 : 0 ≤ (I98 0 40).toInt ∧ (I98 0 40).toInt ≤ 6199 := by rw [fI98 0 40 (by decide)]; exact (by show 0 ≤ (I94 0 40).toInt ∧ (I94 0 40).toInt ≤ 6199; rw [eI94, z_up_n (by decide)]; exact k85)
          have k108 : 0 ≤ (I98 0 15).toInt ∧ (I98 0 15).toInt ≤ 6100 := by rw [fI98 0 15 (by decide)]; exact (by show 0 ≤ (I94 0 15).toInt ∧ (I94 0 15).toInt ≤ 6100; rw [eI94, z_up_n (by decide)]; exact k86)
          have k109 : 0 ≤ (I98 0 35).toInt ∧ (I98 0 35).toInt ≤ (I98 0 34).toInt ∧ (I98 0 34).toInt ≤ (I98 0 33).toInt ∧ (I98 0 33).toInt ≤ 500 ∧ ((I98 0 36).toInt = 0 ∨ (I98 0 35).toInt + 1 ≤ (I98 0 34).toInt) := (by have q0 : (I98 0 35) = (I80 0 35) := by rw [fI98 0 35 (by decide), eI94, z_up_n (by decide)]; have q1 : (I98 0 34) = (I80 0 34) := by rw [fI98 0 34 (by decide), eI94, z_up_n (by decide)]; have q2 : (I98 0 33) = (I80 0 33) := by rw [fI98 0 33 (by decide), eI94, z_up_n (by decide)]; have q3 : (I98 0 36) = (I80 0 36) := by rw [fI98 0 36 (by decide), eI94, z_up_n (by decide)]; show 0 ≤ (I98 0 35).toInt ∧ (I98 0 35).toInt ≤ (I98 0 34).toInt ∧ (I98 0 34).toInt ≤ (I98 0 33).toInt ∧ (I98 0 33).toInt ≤ 500 ∧ ((I98 0 36).toInt = 0 ∨ (I98 0 35).toInt + 1 ≤ (I98 0 34).toInt); rw [q0, q1, q2, q3]; first | omega | decide)
          have k110 : (I98 0 35).toInt = (I80 0 35).toInt := by rw [fI98 0 35 (by decide), eI94, z_up_n (by decide)]
          have k111 : (I98 0 34).toInt = (I80 0 34).toInt := by rw [fI98 0 34 (by decide), eI94, z_up_n (by decide)]
          have k112 : (I98 0 36).toInt = (I80 0 36).toInt := by rw [fI98 0 36 (by decide), eI94, z_up_n (by decide)]
          have k113 : (I98 0 42).toInt = (I80 0 42).toInt := by rw [fI98 0 42 (by decide), eI94, z_up_n (by decide)]
          have k114 : (I98 0 39).toInt = (I80 0 39).toInt := by rw [fI98 0 39 (by decide), eI94, z_up_n (by decide)]
          have k115 : (I98 0 15).toInt = (I80 0 15).toInt := by rw [fI98 0 15 (by decide), eI94, z_up_n (by decide)]
          have k116 : (I98 0 40).toInt = (I80 0 40).toInt := by rw [fI98 0 40 (by decide), eI94, z_up_n (by decide)]
          have h117 := hp
          refine lv_goto (tgt := 175) hx hb dX12_sums_162 (by decide) ?_
          exact z_vret hx hb hr hK hS (Nat.le_of_ble_eq_true rfl) (Nat.le_of_ble_eq_true rfl) hlocks dX12_sums_175 (shM, ad, I98, J100, PM ad) hW ⟨I98, J100, rfl, ⟨(by show 0 ≤ (I98 0 31).toInt ∧ (I98 0 31).toInt ≤ 500; exact k101), (by show 0 ≤ (I98 0 33).toInt ∧ (I98 0 33).toInt ≤ 500; exact k102), (by show 0 ≤ (I98 0 34).toInt ∧ (I98 0 34).toInt ≤ 500; exact k103), (by show 0 ≤ (I98 0 35).toInt ∧ (I98 0 35).toInt ≤ 500; exact k104)⟩, ⟨(by show 0 ≤ (I98 0 36).toInt ∧ (I98 0 36).toInt ≤ 4; exact k105), (by show 0 ≤ (I98 0 42).toInt ∧ (I98 0 42).toInt ≤ 1; exact k106)⟩, ⟨(by show 0 ≤ (I98 0 47).toInt ∧ (I98 0 47).toInt ≤ 119; exact hI98md.1), (by show 0 ≤ (I98 0 39).toInt ∧ (I98 0 39).toInt ≤ 100; exact hI98md.2)⟩, (by show 0 ≤ (I98 0 40).toInt ∧ (I98 0 40).toInt ≤ 6199; exact k107), (by show 0 ≤ (I98 0 15).toInt ∧ (I98 0 15).toInt ≤ 6100; exact k108), (z_Nd_fr a96 fI98 (by decide)), (by show 0 ≤ (I98 0 35).toInt ∧ (I98 0 35).toInt ≤ (I98 0 34).toInt ∧ (I98 0 34).toInt ≤ (I98 0 33).toInt ∧ (I98 0 33).toInt ≤ 500 ∧ ((I98 0 36).toInt = 0 ∨ (I98 0 35).toInt + 1 ≤ (I98 0 34).toInt); first | omega | decide), f99, ((Classical.em ((I98 0 42).toInt = 0)).elim (fun hw9 => Or.inr ⟨a1.toNatClampNeg + 2, by have w1 := z_fw_1np (a := va.toInt) (o := vo.toInt) (by omega) (by omega); have w2 := z_fo_1n (a := va.toInt); have w3 := z_fw_1np (a := va.toInt) (o := x26.toInt) (by omega) (by omega); have w4 := z_fo_1n (a := va.toInt); have w5 := z_fw_20 (a := 0) (o := -1) (by omega); have w6 := z_rk_1; have w7 := z_rk_2; exact z_PUSH (d := a1.toNatClampNeg) (w := 1) (a := va.toInt) (o := x26.toInt) (s := 5) (wi := 2) hPS (fun i hi => ⟨by rw [eI94, z_up_n (by decide), fI80 26 i (z_wr_c (by decide)), eI29, z_up_n (by decide), fI6 26 i (z_wr_c (by decide))], by rw [eI94, z_up_n (by decide), fI80 27 i (z_wr_c (by decide)), eI29, z_up_n (by decide), fI6 27 i (z_wr_c (by decide))], by rw [eI94, z_up_n (by decide), fI80 28 i (z_wr_c (by decide)), eI29, z_up_k (by omega), fI6 28 i (z_wr_c (by decide))], by rw [eI94, z_up_k (by omega), fI80 29 i (z_wr_c (by decide)), eI29, z_up_n (by decide), fI6 29 i (z_wr_c (by decide))]⟩) (by rw [show I94 26 a1.toNatClampNeg = vw from (by rw [eI94, z_up_n (by decide), fI80 26 a1.toNatClampNeg (z_wr_c (by decide)), eI29, z_up_n (by decide), fI6 26 a1.toNatClampNeg (z_wr_c (by decide))]; exact evw.symm)]; exact hvw) (by rw [show I94 27 a1.toNatClampNeg = va from (by rw [eI94, z_up_n (by decide), fI80 27 a1.toNatClampNeg (z_wr_c (by decide)), eI29, z_up_n (by decide), fI6 27 a1.toNatClampNeg (z_wr_c (by decide))]; exact eva.symm)]; exact rfl) (by rw [show I94 28 a1.toNatClampNeg = x26 from (by rw [eI94, z_up_n (by decide), fI80 28 a1.toNatClampNeg (z_wr_c (by decide)), eI29, z_up_s])]; exact rfl) (by rw [show I94 29 a1.toNatClampNeg = 5 from (by rw [eI94, z_up_s])]; exact z_l5) (by unfold z_fv; omega) hwd (by rw [eI94, z_up_n (by decide)]; omega) h117 z_l2 (by omega) (by omega) (by omega) (by omega) (by omega) (by omega) (by omega) (by omega)⟩) Or.inl)⟩
        · refine lv_if_eq (tgt := 132) hx hb dX12_sums_125 (by decide) (fun c118 => ?_) (fun c118 => absurd (by decide) c118)
          refine lv_iconst (v := 0) hx hb dX12_sums_132 (by decide) ?_
          refine lv_istore_n (lv' := [(3, .int 0), (0, .ref (ad 0)), (1, .int a1), (2, .int 0)]) hx hb dX12_sums_133 rfl hl (by decide) rfl (fun ls hl => ?_)
          refine lv_iload_n hx hb dX12_sums_134 rfl (lv_at hl 0 rfl) ?_
          refine lv_if_le (tgt := 165) hx hb dX12_sums_135 (by decide) (fun c119 => ?_) (fun c119 => absurd (by decide) c119)
          refine lv_aload_n hx hb dX12_sums_165 rfl (lv_at hl 1 rfl) ?_
          refine lv_aload_n hx hb dX12_sums_166 rfl (lv_at hl 1 rfl) ?_
          refine z_get (T := TX12) (N := 96) (ci := 12) (i := 0) (v := .ref (ad 28)) hx hb hts zj_X12_sums_X12 hown hK hW rfl rfl 45 (by decide) (hts (.fieldLink RX12 97 "PetrolBoardModel" "one" "[I") (List.mem_of_getElem? (i := 2) rfl)) (fun _ h => h) rfl dX12_sums_167 ?_
          refine lv_iload_n hx hb dX12_sums_170 rfl (lv_at hl 2 rfl) ?_
          refine z_iald (i := 28) hx hb hK hW rfl (z_ix rfl (by omega) (by omega)) dX12_sums_171 ?_
          refine z_topi (v := x26) (by rw [eI29, z_up_s]) ?_
          refine z_cv hW hS hA (va_runV (As := [.int x26]) (rest := []) ⟨hx, hb, hml, hown, hts⟩ (sx_X12_ends l G ad I29 J8 ⟨(by show 0 ≤ (I29 0 47).toInt ∧ (I29 0 47).toInt ≤ 119; rw [eI29, z_up_n (by decide)]; exact k15), (by show 0 ≤ (I29 0 39).toInt ∧ (I29 0 39).toInt ≤ 100; rw [eI29, z_up_n (by decide)]; exact k16)⟩ (by show 0 ≤ (I29 0 40).toInt ∧ (I29 0 40).toInt ≤ 6199; rw [eI29, z_up_n (by decide)]; exact k17) x26 (by first | omega | decide) (by have q0 : (I29 0 47) = (I6 0 47) := by rw [eI29, z_up_n (by decide)]; show 1 ≤ (I29 0 47).toInt; rw [q0]; omega) _) (cwV 1 hts gX12_sums_X12_ends rfl rfl rfl (by decide +kernel) ⟨Nat.le_of_ble_eq_true rfl, Nat.le_of_ble_eq_true rfl⟩) (z_preV (i := 0) hK hW rfl rfl) rfl rfl hl.1 rfl (lv_room (Nat.le_of_ble_eq_true rfl)) dX12_sums_172 ⟨Nat.le_of_ble_eq_true rfl, Nat.le_of_ble_eq_true rfl⟩) (fun u1 H locs hp hW hS => ?_)
          obtain ⟨I120, J122, e9, hI120md, hI120mg, fI120, hp⟩ := hp
          rw [e9] at hW
          have f121 := z_fr_sub (L := L_X12_sums_0) f30 fI120 (by decide)
          have k123 : 0 ≤ (I120 0 31).toInt ∧ (I120 0 31).toInt ≤ 500 := by rw [fI120 0 31 (by decide)]; exact (by show 0 ≤ (I29 0 31).toInt ∧ (I29 0 31).toInt ≤ 500; rw [eI29, z_up_n (by decide)]; exact k9)
          have k124 : 0 ≤ (I120 0 33).toInt ∧ (I120 0 33).toInt ≤ 500 := by rw [fI120 0 33 (by decide)]; exact (by show 0 ≤ (I29 0 33).toInt ∧ (I29 0 33).toInt ≤ 500; rw [eI29, z_up_n (by decide)]; exact k10)
          have k125 : 0 ≤ (I120 0 34).toInt ∧ (I120 0 34).toInt ≤ 500 := by rw [fI120 0 34 (by decide)]; exact (by show 0 ≤ (I29 0 34).toInt ∧ (I29 0 34).toInt ≤ 500; rw [eI29, z_up_n (by decide)]; exact k11)
          have k126 : 0 ≤ (I120 0 35).toInt ∧ (I120 0 35).toInt ≤ 500 := by rw [fI120 0 35 (by decide)]; exact (by show 0 ≤ (I29 0 35).toInt ∧ (I29 0 35).toInt ≤ 500; rw [eI29, z_up_n (by decide)]; exact k12)
          have k127 : 0 ≤ (I120 0 36).toInt ∧ (I120 0 36).toInt ≤ 4 := by rw [fI120 0 36 (by decide)]; exact (by show 0 ≤ (I29 0 36).toInt ∧ (I29 0 36).toInt ≤ 4; rw [eI29, z_up_n (by decide)]; exact k13)
          have k128 : 0 ≤ (I120 0 42).toInt ∧ (I120 0 42).toInt ≤ 1 := by rw [fI120 0 42 (by decide)]; exact (by show 0 ≤ (I29 0 42).toInt ∧ (I29 0 42).toInt ≤ 1; rw [eI29, z_up_n (by decide)]; exact k14)
          have k129 : 0 ≤ (I120 0 15).toInt ∧ (I120 0 15).toInt ≤ 6100 := by rw [fI120 0 15 (by decide)]; exact (by show 0 ≤ (I29 0 15).toInt ∧ (I29 0 15).toInt ≤ 6100; rw [eI29, z_up_n (by decide)]; exact hI6mn)
          have k130 : 0 ≤ (I120 0 35).toInt ∧ (I120 0 35).toInt ≤ (I120 0 34).toInt ∧ (I120 0 34).toInt ≤ (I120 0 33).toInt ∧ (I120 0 33).toInt ≤ 500 ∧ ((I120 0 36).toInt = 0 ∨ (I120 0 35).toInt + 1 ≤ (I120 0 34).toInt) := (by have q0 : (I120 0 35) = (I6 0 35) := by rw [fI120 0 35 (by decide), eI29, z_up_n (by decide)]; have q1 : (I120 0 34) = (I6 0 34) := by rw [fI120 0 34 (by decide), eI29, z_up_n (by decide)]; have q2 : (I120 0 33) = (I6 0 33) := by rw [fI120 0 33 (by decide), eI29, z_up_n (by decide)]; have q3 : (I120 0 36) = (I6 0 36) := by rw [fI120 0 36 (by decide), eI29, z_up_n (by decide)]; show 0 ≤ (I120 0 35).toInt ∧ (I120 0 35).toInt ≤ (I120 0 34).toInt ∧ (I120 0 34).toInt ≤ (I120 0 33).toInt ∧ (I120 0 33).toInt ≤ 500 ∧ ((I120 0 36).toInt = 0 ∨ (I120 0 35).toInt + 1 ≤ (I120 0 34).toInt); rw [q0, q1, q2, q3]; first | omega | decide)
          have k131 : (I120 0 35).toInt = (I6 0 35).toInt := by rw [fI120 0 35 (by decide), eI29, z_up_n (by decide)]
          have k132 : (I120 0 34).toInt = (I6 0 34).toInt := by rw [fI120 0 34 (by decide), eI29, z_up_n (by decide)]
          have k133 : (I120 0 36).toInt = (I6 0 36).toInt := by rw [fI120 0 36 (by decide), eI29, z_up_n (by decide)]
          have k134 : (I120 0 42).toInt = (I6 0 42).toInt := by rw [fI120 0 42 (by decide), eI29, z_up_n (by decide)]
          have k135 : (I120 0 39).toInt = (I6 0 39).toInt := by rw [fI120 0 39 (by decide), eI29, z_up_n (by decide)]
          have k136 : (I120 0 15).toInt = (I6 0 15).toInt := by rw [fI120 0 15 (by decide), eI29, z_up_n (by decide)]
          have h137 := hp
          rw [show (I29 0 47) = (I6 0 47) from by rw [eI29, z_up_n (by decide)]] at h137
          exact z_vret hx hb hr hK hS (Nat.le_of_ble_eq_true rfl) (Nat.le_of_ble_eq_true rfl) hlocks dX12_sums_175 (shM, ad, I120, J122, PM ad) hW ⟨I120, J122, rfl, ⟨(by show 0 ≤ (I120 0 31).toInt ∧ (I120 0 31).toInt ≤ 500; exact k123), (by show 0 ≤ (I120 0 33).toInt ∧ (I120 0 33).toInt ≤ 500; exact k124), (by show 0 ≤ (I120 0 34).toInt ∧ (I120 0 34).toInt ≤ 500; exact k125), (by show 0 ≤ (I120 0 35).toInt ∧ (I120 0 35).toInt ≤ 500; exact k126)⟩, ⟨(by show 0 ≤ (I120 0 36).toInt ∧ (I120 0 36).toInt ≤ 4; exact k127), (by show 0 ≤ (I120 0 42).toInt ∧ (I120 0 42).toInt ≤ 1; exact k128)⟩, ⟨(by show 0 ≤ (I120 0 47).toInt ∧ (I120 0 47).toInt ≤ 119; exact hI120md.1), (by show 0 ≤ (I120 0 39).toInt ∧ (I120 0 39).toInt ≤ 100; exact hI120md.2)⟩, (by show 0 ≤ (I120 0 40).toInt ∧ (I120 0 40).toInt ≤ 6199; exact hI120mg), (by show 0 ≤ (I120 0 15).toInt ∧ (I120 0 15).toInt ≤ 6100; exact k129), (z_Nd_fr a31 fI120 (by decide)), (by show 0 ≤ (I120 0 35).toInt ∧ (I120 0 35).toInt ≤ (I120 0 34).toInt ∧ (I120 0 34).toInt ≤ (I120 0 33).toInt ∧ (I120 0 33).toInt ≤ 500 ∧ ((I120 0 36).toInt = 0 ∨ (I120 0 35).toInt + 1 ≤ (I120 0 34).toInt); first | omega | decide), f121, ((Classical.em ((I120 0 42).toInt = 0)).elim (fun hw9 => Or.inr ⟨a1.toNatClampNeg, by have w1 := z_fw_1np (a := va.toInt) (o := vo.toInt) (by omega) (by omega); have w2 := z_fo_1n (a := va.toInt); exact z_POP (d := a1.toNatClampNeg) hPS (fun i hi => ⟨by rw [fI120 26 i (z_wr_c (by decide)), eI29, z_up_n (by decide), fI6 26 i (z_wr_c (by decide))], by rw [fI120 27 i (z_wr_c (by decide)), eI29, z_up_n (by decide), fI6 27 i (z_wr_c (by decide))], by rw [fI120 28 i (z_wr_c (by decide)), eI29, z_up_k (by omega), fI6 28 i (z_wr_c (by decide))], by rw [fI120 29 i (z_wr_c (by decide)), eI29, z_up_n (by decide), fI6 29 i (z_wr_c (by decide))]⟩) (by omega) (by omega) (by omega) (by omega) (by omega) (by omega)⟩) Or.inl)⟩
    · have g138 := z_f_nge rfl z_l0 c3
      refine lv_aload_n hx hb dX12_sums_44 rfl (lv_at hl 0 rfl) ?_
      have r139 : 0 ≤ (I 0 40).toInt ∧ (I 0 40).toInt ≤ 6199 := hmg
      refine z_get (T := TX12) (N := 96) (ci := 12) (i := 0) (v := .int (I 0 40)) hx hb hts zj_X12_sums_X12 hown hK hW rfl rfl 40 (by decide) (hts (.fieldLink RX12 343 "PetrolBoardModel" "got" "I") (List.mem_of_getElem? (i := 3) rfl)) (fun _ h => h) rfl dX12_sums_45 ?_
      refine lv_goto (tgt := 71) hx hb dX12_sums_48 (by decide) ?_
      refine z_iast (i := 28) hx hb hK hW hS rfl (z_ix rfl (by omega) (by omega)) dX12_sums_71 (fun H locs hz1 hW hS => ?_)
      obtain ⟨I140, eI140⟩ : ∃ K : z_I, K = z_up I 28 a1.toNatClampNeg (I 0 40) := ⟨_, rfl⟩
      rw [← eI140] at hW
      have f141 := z_fr_a z_fr_0 (show z_wa L_X12_sums_0 28 = true by decide) eI140
      have a142 := z_Nd_n hNd (by decide) eI140
      refine lv_iload_n hx hb dX12_sums_72 rfl (lv_at hl 2 rfl) ?_
      refine lv_if_eq (tgt := 106) hx hb dX12_sums_73 (by decide) (fun c143 => ?_) (fun c143 => absurd (by decide) c143)
      refine lv_aload_n hx hb dX12_sums_106 rfl (lv_at hl 0 rfl) ?_
      refine lv_bipush (v := 42) hx hb dX12_sums_107 (by decide) ?_
      refine z_ci hW hS hA (va_runV (As := [.int 42]) (rest := []) ⟨hx, hb, hml, hown, hts⟩ (sx_X12_isSign l G ad I140 J ⟨(by show 0 ≤ (I140 0 36).toInt ∧ (I140 0 36).toInt ≤ 4; rw [eI140, z_up_n (by decide)]; exact hmt.1), (by show 0 ≤ (I140 0 42).toInt ∧ (I140 0 42).toInt ≤ 1; rw [eI140, z_up_n (by decide)]; exact hmt.2)⟩ 42 _) (cwV 1 hts gX12_sums_X12_isSign rfl rfl rfl (by decide +kernel) ⟨Nat.le_of_ble_eq_true rfl, Nat.le_of_ble_eq_true rfl⟩) (z_preV (i := 0) hK hW rfl rfl) rfl rfl hl.1 rfl (lv_room (Nat.le_of_ble_eq_true rfl)) dX12_sums_109 ⟨Nat.le_of_ble_eq_true rfl, Nat.le_of_ble_eq_true rfl⟩) (fun r u1 H locs hp hW hS => ?_)
      obtain ⟨e9, hp⟩ := hp
      rw [e9] at hW
      rcases hp with ⟨rfl, h144⟩ | rfl
      · rw [show (I140 0 36) = (I 0 36) from by rw [eI140, z_up_n (by decide)]] at h144
        have h145 : (I 0 35).toInt + 1 ≤ (I 0 34).toInt := by omega
        refine lv_if_eq (tgt := 119) hx hb dX12_sums_112 (by decide) (fun c146 => absurd c146 (by decide)) (fun c146 => ?_)
        refine lv_iconst (v := 4) hx hb dX12_sums_115 (by decide) ?_
        refine lv_goto (tgt := 133) hx hb dX12_sums_116 (by decide) ?_
        refine lv_istore_n (lv' := [(3, .int 4), (0, .ref (ad 0)), (1, .int a1), (2, .int 0)]) hx hb dX12_sums_133 rfl hl (by decide) rfl (fun ls hl => ?_)
        refine lv_iload_n hx hb dX12_sums_134 rfl (lv_at hl 0 rfl) ?_
        refine lv_if_le (tgt := 165) hx hb dX12_sums_135 (by decide) (fun c147 => absurd c147 (by decide)) (fun c147 => ?_)
        refine lv_aload_n hx hb dX12_sums_138 rfl (lv_at hl 1 rfl) ?_
        refine z_cv hW hS hA (va_runV (As := []) (rest := []) ⟨hx, hb, hml, hown, hts⟩ (sx_X12_next l G ad I140 J ⟨(by show 0 ≤ (I140 0 31).toInt ∧ (I140 0 31).toInt ≤ 500; rw [eI140, z_up_n (by decide)]; exact hmp.1), (by show 0 ≤ (I140 0 33).toInt ∧ (I140 0 33).toInt ≤ 500; rw [eI140, z_up_n (by decide)]; exact hmp.2.1), (by show 0 ≤ (I140 0 34).toInt ∧ (I140 0 34).toInt ≤ 500; rw [eI140, z_up_n (by decide)]; exact hmp.2.2.1), (by show 0 ≤ (I140 0 35).toInt ∧ (I140 0 35).toInt ≤ 500; rw [eI140, z_up_n (by decide)]; exact hmp.2.2.2)⟩ ⟨(by show 0 ≤ (I140 0 36).toInt ∧ (I140 0 36).toInt ≤ 4; rw [eI140, z_up_n (by decide)]; exact hmt.1), (by show 0 ≤ (I140 0 42).toInt ∧ (I140 0 42).toInt ≤ 1; rw [eI140, z_up_n (by decide)]; exact hmt.2)⟩ (by have q0 : (I140 0 34) = (I 0 34) := by rw [eI140, z_up_n (by decide)]; have q1 : (I140 0 33) = (I 0 33) := by rw [eI140, z_up_n (by decide)]; show 0 ≤ (I140 0 34).toInt ∧ (I140 0 34).toInt ≤ (I140 0 33).toInt ∧ (I140 0 33).toInt ≤ 500; rw [q0, q1]; first | omega | decide)  _) (cwV 0 hts gX12_sums_X12_next rfl rfl rfl (by decide +kernel) ⟨Nat.le_of_ble_eq_true rfl, Nat.le_of_ble_eq_true rfl⟩) (z_preV (i := 0) hK hW rfl rfl) rfl rfl hl.1 rfl (lv_room (Nat.le_of_ble_eq_true rfl)) dX12_sums_139 ⟨Nat.le_of_ble_eq_true rfl, Nat.le_of_ble_eq_true rfl⟩) (fun u1 H locs hp hW hS => ?_)
        obtain ⟨I148, J150, e9, hI148mp, hI148mt, hI148rp, fI148, hp⟩ := hp
        rw [e9] at hW
        have f149 := z_fr_sub (L := L_X12_sums_0) f141 fI148 (by decide)
        have k151 : 0 ≤ (I148 0 47).toInt ∧ (I148 0 47).toInt ≤ 119 := by rw [fI148 0 47 (by decide)]; exact (by show 0 ≤ (I140 0 47).toInt ∧ (I140 0 47).toInt ≤ 119; rw [eI140, z_up_n (by decide)]; exact hmd.1)
        have k152 : 0 ≤ (I148 0 39).toInt ∧ (I148 0 39).toInt ≤ 100 := by rw [fI148 0 39 (by decide)]; exact (by show 0 ≤ (I140 0 39).toInt ∧ (I140 0 39).toInt ≤ 100; rw [eI140, z_up_n (by decide)]; exact hmd.2)
        have k153 : 0 ≤ (I148 0 40).toInt ∧ (I148 0 40).toInt ≤ 6199 := by rw [fI148 0 40 (by decide)]; exact (by show 0 ≤ (I140 0 40).toInt ∧ (I140 0 40).toInt ≤ 6199; rw [eI140, z_up_n (by decide)]; exact hmg)
        have k154 : 0 ≤ (I148 0 15).toInt ∧ (I148 0 15).toInt ≤ 6100 := by rw [fI148 0 15 (by decide)]; exact (by show 0 ≤ (I140 0 15).toInt ∧ (I140 0 15).toInt ≤ 6100; rw [eI140, z_up_n (by decide)]; exact hmn)
        have k155 : 0 ≤ (I148 0 35).toInt ∧ (I148 0 35).toInt ≤ (I148 0 34).toInt ∧ (I148 0 34).toInt ≤ (I148 0 33).toInt ∧ (I148 0 33).toInt ≤ 500 ∧ ((I148 0 36).toInt = 0 ∨ (I148 0 35).toInt + 1 ≤ (I148 0 34).toInt) := hI148rp
        have k156 : (I148 0 42).toInt = (I 0 42).toInt := by rw [fI148 0 42 (by decide), eI140, z_up_n (by decide)]
        have k157 : (I148 0 47).toInt = (I 0 47).toInt := by rw [fI148 0 47 (by decide), eI140, z_up_n (by decide)]
        have k158 : (I148 0 39).toInt = (I 0 39).toInt := by rw [fI148 0 39 (by decide), eI140, z_up_n (by decide)]
        have k159 : (I148 0 15).toInt = (I 0 15).toInt := by rw [fI148 0 15 (by decide), eI140, z_up_n (by decide)]
        have k160 : (I148 0 40).toInt = (I 0 40).toInt := by rw [fI148 0 40 (by decide), eI140, z_up_n (by decide)]
        have h161 := hp
        rw [show (I140 0 34) = (I 0 34) from by rw [eI140, z_up_n (by decide)]] at h161
        refine lv_aload_n hx hb dX12_sums_142 rfl (lv_at hl 1 rfl) ?_
        refine z_get (T := TX12) (N := 96) (ci := 12) (i := 0) (v := .ref (ad 29)) hx hb hts zj_X12_sums_X12 hown hK hW rfl rfl 46 (by decide) (hts (.fieldLink RX12 100 "PetrolBoardModel" "sort" "[I") (List.mem_of_getElem? (i := 4) rfl)) (fun _ h => h) rfl dX12_sums_143 ?_
        refine lv_iload_n hx hb dX12_sums_146 rfl (lv_at hl 2 rfl) ?_
        refine lv_iload_n hx hb dX12_sums_147 rfl (lv_at hl 0 rfl) ?_
        refine z_iast (i := 29) hx hb hK hW hS rfl (z_ix rfl (by omega) (by omega)) dX12_sums_148 (fun H locs hz1 hW hS => ?_)
        obtain ⟨I162, eI162⟩ : ∃ K : z_I, K = z_up I148 29 a1.toNatClampNeg 4 := ⟨_, rfl⟩
        rw [← eI162] at hW
        have f163 := z_fr_a f149 (show z_wa L_X12_sums_0 29 = true by decide) eI162
        have a164 := z_Nd_n (z_Nd_fr a142 fI148 (by decide)) (by decide) eI162
        refine lv_aload_n hx hb dX12_sums_149 rfl (lv_at hl 1 rfl) ?_
        refine lv_iload_n hx hb dX12_sums_150 rfl (lv_at hl 3 rfl) ?_
        refine lv_if_eq (tgt := 158) hx hb dX12_sums_151 (by decide) (fun c165 => ?_) (fun c165 => absurd (by decide) c165)
        refine lv_iconst (v := 2) hx hb dX12_sums_158 (by decide) ?_
        refine z_cv hW hS hA (va_runV (As := [.int 2]) (rest := []) ⟨hx, hb, hml, hown, hts⟩ (sx_X12_begin l G ad I162 J150 ⟨(by show 0 ≤ (I162 0 47).toInt ∧ (I162 0 47).toInt ≤ 119; rw [eI162, z_up_n (by decide)]; exact k151), (by show 0 ≤ (I162 0 39).toInt ∧ (I162 0 39).toInt ≤ 100; rw [eI162, z_up_n (by decide)]; exact k152)⟩ 2 (by have q0 : (I162 0 47) = (I148 0 47) := by rw [eI162, z_up_n (by decide)]; show (I162 0 47).toInt ≤ 118; rw [q0]; omega) _) (cwV 1 hts gX12_sums_X12_begin rfl rfl rfl (by decide +kernel) ⟨Nat.le_of_ble_eq_true rfl, Nat.le_of_ble_eq_true rfl⟩) (z_preV (i := 0) hK hW rfl rfl) rfl rfl hl.1 rfl (lv_room (Nat.le_of_ble_eq_true rfl)) dX12_sums_159 ⟨Nat.le_of_ble_eq_true rfl, Nat.le_of_ble_eq_true rfl⟩) (fun u1 H locs hp hW hS => ?_)
        obtain ⟨I166, J168, e9, hI166md, fI166, hp⟩ := hp
        rw [e9] at hW
        have f167 := z_fr_sub (L := L_X12_sums_0) f163 fI166 (by decide)
        have k169 : 0 ≤ (I166 0 31).toInt ∧ (I166 0 31).toInt ≤ 500 := by rw [fI166 0 31 (by decide)]; exact (by show 0 ≤ (I162 0 31).toInt ∧ (I162 0 31).toInt ≤ 500; rw [eI162, z_up_n (by decide)]; exact hI148mp.1)
        have k170 : 0 ≤ (I166 0 33).toInt ∧ (I166 0 33).toInt ≤ 500 := by rw [fI166 0 33 (by decide)]; exact (by show 0 ≤ (I162 0 33).toInt ∧ (I162 0 33).toInt ≤ 500; rw [eI162, z_up_n (by decide)]; exact hI148mp.2.1)
        have k171 : 0 ≤ (I166 0 34).toInt ∧ (I166 0 34).toInt ≤ 500 := by rw [fI166 0 34 (by decide)]; exact (by show 0 ≤ (I162 0 34).toInt ∧ (I162 0 34).toInt ≤ 500; rw [eI162, z_up_n (by decide)]; exact hI148mp.2.2.1)
        have k172 : 0 ≤ (I166 0 35).toInt ∧ (I166 0 35).toInt ≤ 500 := by rw [fI166 0 35 (by decide)]; exact (by show 0 ≤ (I162 0 35).toInt ∧ (I162 0 35).toInt ≤ 500; rw [eI162, z_up_n (by decide)]; exact hI148mp.2.2.2)
        have k173 : 0 ≤ (I166 0 36).toInt ∧ (I166 0 36).toInt ≤ 4 := by rw [fI166 0 36 (by decide)]; exact (by show 0 ≤ (I162 0 36).toInt ∧ (I162 0 36).toInt ≤ 4; rw [eI162, z_up_n (by decide)]; exact hI148mt.1)
        have k174 : 0 ≤ (I166 0 42).toInt ∧ (I166 0 42).toInt ≤ 1 := by rw [fI166 0 42 (by decide)]; exact (by show 0 ≤ (I162 0 42).toInt ∧ (I162 0 42).toInt ≤ 1; rw [eI162, z_up_n (by decide)]; exact hI148mt.2)
        have k175 : 0 ≤ (I166 0 40).toInt ∧ (I166 0 40).toInt ≤ 6199 := by rw [fI166 0 40 (by decide)]; exact (by show 0 ≤ (I162 0 40).toInt ∧ (I162 0 40).toInt ≤ 6199; rw [eI162, z_up_n (by decide)]; exact k153)
        have k176 : 0 ≤ (I166 0 15).toInt ∧ (I166 0 15).toInt ≤ 6100 := by rw [fI166 0 15 (by decide)]; exact (by show 0 ≤ (I162 0 15).toInt ∧ (I162 0 15).toInt ≤ 6100; rw [eI162, z_up_n (by decide)]; exact k154)
        have k177 : 0 ≤ (I166 0 35).toInt ∧ (I166 0 35).toInt ≤ (I166 0 34).toInt ∧ (I166 0 34).toInt ≤ (I166 0 33).toInt ∧ (I166 0 33).toInt ≤ 500 ∧ ((I166 0 36).toInt = 0 ∨ (I166 0 35).toInt + 1 ≤ (I166 0 34).toInt) := (by have q0 : (I166 0 35) = (I148 0 35) := by rw [fI166 0 35 (by decide), eI162, z_up_n (by decide)]; have q1 : (I166 0 34) = (I148 0 34) := by rw [fI166 0 34 (by decide), eI162, z_up_n (by decide)]; have q2 : (I166 0 33) = (I148 0 33) := by rw [fI166 0 33 (by decide), eI162, z_up_n (by decide)]; have q3 : (I166 0 36) = (I148 0 36) := by rw [fI166 0 36 (by decide), eI162, z_up_n (by decide)]; show 0 ≤ (I166 0 35).toInt ∧ (I166 0 35).toInt ≤ (I166 0 34).toInt ∧ (I166 0 34).toInt ≤ (I166 0 33).toInt ∧ (I166 0 33).toInt ≤ 500 ∧ ((I166 0 36).toInt = 0 ∨ (I166 0 35).toInt + 1 ≤ (I166 0 34).toInt); rw [q0, q1, q2, q3]; first | omega | decide)
        have k178 : (I166 0 35).toInt = (I148 0 35).toInt := by rw [fI166 0 35 (by decide), eI162, z_up_n (by decide)]
        have k179 : (I166 0 34).toInt = (I148 0 34).toInt := by rw [fI166 0 34 (by decide), eI162, z_up_n (by decide)]
        have k180 : (I166 0 36).toInt = (I148 0 36).toInt := by rw [fI166 0 36 (by decide), eI162, z_up_n (by decide)]
        have k181 : (I166 0 42).toInt = (I148 0 42).toInt := by rw [fI166 0 42 (by decide), eI162, z_up_n (by decide)]
        have k182 : (I166 0 39).toInt = (I148 0 39).toInt := by rw [fI166 0 39 (by decide), eI162, z_up_n (by decide)]
        have k183 : (I166 0 15).toInt = (I148 0 15).toInt := by rw [fI166 0 15 (by decide), eI162, z_up_n (by decide)]
        have k184 : (I166 0 40).toInt = (I148 0 40).toInt := by rw [fI166 0 40 (by decide), eI162, z_up_n (by decide)]
        have h185 := hp
        refine lv_goto (tgt := 175) hx hb dX12_sums_162 (by decide) ?_
        exact z_vret hx hb hr hK hS (Nat.le_of_ble_eq_true rfl) (Nat.le_of_ble_eq_true rfl) hlocks dX12_sums_175 (shM, ad, I166, J168, PM ad) hW ⟨I166, J168, rfl, ⟨(by show 0 ≤ (I166 0 31).toInt ∧ (I166 0 31).toInt ≤ 500; exact k169), (by show 0 ≤ (I166 0 33).toInt ∧ (I166 0 33).toInt ≤ 500; exact k170), (by show 0 ≤ (I166 0 34).toInt ∧ (I166 0 34).toInt ≤ 500; exact k171), (by show 0 ≤ (I166 0 35).toInt ∧ (I166 0 35).toInt ≤ 500; exact k172)⟩, ⟨(by show 0 ≤ (I166 0 36).toInt ∧ (I166 0 36).toInt ≤ 4; exact k173), (by show 0 ≤ (I166 0 42).toInt ∧ (I166 0 42).toInt ≤ 1; exact k174)⟩, ⟨(by show 0 ≤ (I166 0 47).toInt ∧ (I166 0 47).toInt ≤ 119; exact hI166md.1), (by show 0 ≤ (I166 0 39).toInt ∧ (I166 0 39).toInt ≤ 100; exact hI166md.2)⟩, (by show 0 ≤ (I166 0 40).toInt ∧ (I166 0 40).toInt ≤ 6199; exact k175), (by show 0 ≤ (I166 0 15).toInt ∧ (I166 0 15).toInt ≤ 6100; exact k176), (z_Nd_fr a164 fI166 (by decide)), (by show 0 ≤ (I166 0 35).toInt ∧ (I166 0 35).toInt ≤ (I166 0 34).toInt ∧ (I166 0 34).toInt ≤ (I166 0 33).toInt ∧ (I166 0 33).toInt ≤ 500 ∧ ((I166 0 36).toInt = 0 ∨ (I166 0 35).toInt + 1 ≤ (I166 0 34).toInt); first | omega | decide), f167, ((Classical.em ((I166 0 42).toInt = 0)).elim (fun hw9 => Or.inr ⟨a1.toNatClampNeg + 2, by have w1 := z_fw_1nm (a := va.toInt) (o := vo.toInt) (by omega) (by omega); have w2 := z_fo_1n (a := va.toInt); have w3 := z_fw_1np (a := va.toInt) (o := (I 0 40).toInt) (by omega) (by omega); have w4 := z_fo_1n (a := va.toInt); have w5 := z_fw_20 (a := 0) (o := -1) (by omega); have w6 := z_rk_1; have w7 := z_rk_2; exact z_PUSH (d := a1.toNatClampNeg) (w := 1) (a := va.toInt) (o := (I 0 40).toInt) (s := 4) (wi := 2) hPS (fun i hi => ⟨by rw [eI162, z_up_n (by decide), fI148 26 i (z_wr_c (by decide)), eI140, z_up_n (by decide)], by rw [eI162, z_up_n (by decide), fI148 27 i (z_wr_c (by decide)), eI140, z_up_n (by decide)], by rw [eI162, z_up_n (by decide), fI148 28 i (z_wr_c (by decide)), eI140, z_up_k (by omega)], by rw [eI162, z_up_k (by omega), fI148 29 i (z_wr_c (by decide)), eI140, z_up_n (by decide)]⟩) (by rw [show I162 26 a1.toNatClampNeg = vw from (by rw [eI162, z_up_n (by decide), fI148 26 a1.toNatClampNeg (z_wr_c (by decide)), eI140, z_up_n (by decide)]; exact evw.symm)]; exact hvw) (by rw [show I162 27 a1.toNatClampNeg = va from (by rw [eI162, z_up_n (by decide), fI148 27 a1.toNatClampNeg (z_wr_c (by decide)), eI140, z_up_n (by decide)]; exact eva.symm)]; exact rfl) (by rw [show I162 28 a1.toNatClampNeg = (I 0 40) from (by rw [eI162, z_up_n (by decide), fI148 28 a1.toNatClampNeg (z_wr_c (by decide)), eI140, z_up_s])]; exact rfl) (by rw [show I162 29 a1.toNatClampNeg = 4 from (by rw [eI162, z_up_s])]; exact z_l4) (by unfold z_fv; omega) hwd (by rw [eI162, z_up_n (by decide)]; omega) h185 z_l2 (by omega) (by omega) (by omega) (by omega) (by omega) (by omega) (by omega) (by omega)⟩) Or.inl)⟩
      · refine lv_if_eq (tgt := 119) hx hb dX12_sums_112 (by decide) (fun c186 => ?_) (fun c186 => absurd (by decide) c186)
        refine lv_aload_n hx hb dX12_sums_119 rfl (lv_at hl 0 rfl) ?_
        refine lv_bipush (v := 47) hx hb dX12_sums_120 (by decide) ?_
        refine z_ci hW hS hA (va_runV (As := [.int 47]) (rest := []) ⟨hx, hb, hml, hown, hts⟩ (sx_X12_isSign l G ad I140 J ⟨(by show 0 ≤ (I140 0 36).toInt ∧ (I140 0 36).toInt ≤ 4; rw [eI140, z_up_n (by decide)]; exact hmt.1), (by show 0 ≤ (I140 0 42).toInt ∧ (I140 0 42).toInt ≤ 1; rw [eI140, z_up_n (by decide)]; exact hmt.2)⟩ 47 _) (cwV 1 hts gX12_sums_X12_isSign rfl rfl rfl (by decide +kernel) ⟨Nat.le_of_ble_eq_true rfl, Nat.le_of_ble_eq_true rfl⟩) (z_preV (i := 0) hK hW rfl rfl) rfl rfl hl.1 rfl (lv_room (Nat.le_of_ble_eq_true rfl)) dX12_sums_122 ⟨Nat.le_of_ble_eq_true rfl, Nat.le_of_ble_eq_true rfl⟩) (fun r u1 H locs hp hW hS => ?_)
        obtain ⟨e9, hp⟩ := hp
        rw [e9] at hW
        rcases hp with ⟨rfl, h187⟩ | rfl
        · rw [show (I140 0 36) = (I 0 36) from by rw [eI140, z_up_n (by decide)]] at h187
          have h188 : (I 0 35).toInt + 1 ≤ (I 0 34).toInt := by omega
          refine lv_if_eq (tgt := 132) hx hb dX12_sums_125 (by decide) (fun c189 => absurd c189 (by decide)) (fun c189 => ?_)
          refine lv_iconst (v := 5) hx hb dX12_sums_128 (by decide) ?_
          refine lv_goto (tgt := 133) hx hb dX12_sums_129 (by decide) ?_
          refine lv_istore_n (lv' := [(3, .int 5), (0, .ref (ad 0)), (1, .int a1), (2, .int 0)]) hx hb dX12_sums_133 rfl hl (by decide) rfl (fun ls hl => ?_)
          refine lv_iload_n hx hb dX12_sums_134 rfl (lv_at hl 0 rfl) ?_
          refine lv_if_le (tgt := 165) hx hb dX12_sums_135 (by decide) (fun c190 => absurd c190 (by decide)) (fun c190 => ?_)
          refine lv_aload_n hx hb dX12_sums_138 rfl (lv_at hl 1 rfl) ?_
          refine z_cv hW hS hA (va_runV (As := []) (rest := []) ⟨hx, hb, hml, hown, hts⟩ (sx_X12_next l G ad I140 J ⟨(by show 0 ≤ (I140 0 31).toInt ∧ (I140 0 31).toInt ≤ 500; rw [eI140, z_up_n (by decide)]; exact hmp.1), (by show 0 ≤ (I140 0 33).toInt ∧ (I140 0 33).toInt ≤ 500; rw [eI140, z_up_n (by decide)]; exact hmp.2.1), (by show 0 ≤ (I140 0 34).toInt ∧ (I140 0 34).toInt ≤ 500; rw [eI140, z_up_n (by decide)]; exact hmp.2.2.1), (by show 0 ≤ (I140 0 35).toInt ∧ (I140 0 35).toInt ≤ 500; rw [eI140, z_up_n (by decide)]; exact hmp.2.2.2)⟩ ⟨(by show 0 ≤ (I140 0 36).toInt ∧ (I140 0 36).toInt ≤ 4; rw [eI140, z_up_n (by decide)]; exact hmt.1), (by show 0 ≤ (I140 0 42).toInt ∧ (I140 0 42).toInt ≤ 1; rw [eI140, z_up_n (by decide)]; exact hmt.2)⟩ (by have q0 : (I140 0 34) = (I 0 34) := by rw [eI140, z_up_n (by decide)]; have q1 : (I140 0 33) = (I 0 33) := by rw [eI140, z_up_n (by decide)]; show 0 ≤ (I140 0 34).toInt ∧ (I140 0 34).toInt ≤ (I140 0 33).toInt ∧ (I140 0 33).toInt ≤ 500; rw [q0, q1]; first | omega | decide)  _) (cwV 0 hts gX12_sums_X12_next rfl rfl rfl (by decide +kernel) ⟨Nat.le_of_ble_eq_true rfl, Nat.le_of_ble_eq_true rfl⟩) (z_preV (i := 0) hK hW rfl rfl) rfl rfl hl.1 rfl (lv_room (Nat.le_of_ble_eq_true rfl)) dX12_sums_139 ⟨Nat.le_of_ble_eq_true rfl, Nat.le_of_ble_eq_true rfl⟩) (fun u1 H locs hp hW hS => ?_)
          obtain ⟨I191, J193, e9, hI191mp, hI191mt, hI191rp, fI191, hp⟩ := hp
          rw [e9] at hW
          have f192 := z_fr_sub (L := L_X12_sums_0) f141 fI191 (by decide)
          have k194 : 0 ≤ (I191 0 47).toInt ∧ (I191 0 47).toInt ≤ 119 := by rw [fI191 0 47 (by decide)]; exact (by show 0 ≤ (I140 0 47).toInt ∧ (I140 0 47).toInt ≤ 119; rw [eI140, z_up_n (by decide)]; exact hmd.1)
          have k195 : 0 ≤ (I191 0 39).toInt ∧ (I191 0 39).toInt ≤ 100 := by rw [fI191 0 39 (by decide)]; exact (by show 0 ≤ (I140 0 39).toInt ∧ (I140 0 39).toInt ≤ 100; rw [eI140, z_up_n (by decide)]; exact hmd.2)
          have k196 : 0 ≤ (I191 0 40).toInt ∧ (I191 0 40).toInt ≤ 6199 := by rw [fI191 0 40 (by decide)]; exact (by show 0 ≤ (I140 0 40).toInt ∧ (I140 0 40).toInt ≤ 6199; rw [eI140, z_up_n (by decide)]; exact hmg)
          have k197 : 0 ≤ (I191 0 15).toInt ∧ (I191 0 15).toInt ≤ 6100 := by rw [fI191 0 15 (by decide)]; exact (by show 0 ≤ (I140 0 15).toInt ∧ (I140 0 15).toInt ≤ 6100; rw [eI140, z_up_n (by decide)]; exact hmn)
          have k198 : 0 ≤ (I191 0 35).toInt ∧ (I191 0 35).toInt ≤ (I191 0 34).toInt ∧ (I191 0 34).toInt ≤ (I191 0 33).toInt ∧ (I191 0 33).toInt ≤ 500 ∧ ((I191 0 36).toInt = 0 ∨ (I191 0 35).toInt + 1 ≤ (I191 0 34).toInt) := hI191rp
          have k199 : (I191 0 42).toInt = (I 0 42).toInt := by rw [fI191 0 42 (by decide), eI140, z_up_n (by decide)]
          have k200 : (I191 0 47).toInt = (I 0 47).toInt := by rw [fI191 0 47 (by decide), eI140, z_up_n (by decide)]
          have k201 : (I191 0 39).toInt = (I 0 39).toInt := by rw [fI191 0 39 (by decide), eI140, z_up_n (by decide)]
          have k202 : (I191 0 15).toInt = (I 0 15).toInt := by rw [fI191 0 15 (by decide), eI140, z_up_n (by decide)]
          have k203 : (I191 0 40).toInt = (I 0 40).toInt := by rw [fI191 0 40 (by decide), eI140, z_up_n (by decide)]
          have h204 := hp
          rw [show (I140 0 34) = (I 0 34) from by rw [eI140, z_up_n (by decide)]] at h204
          refine lv_aload_n hx hb dX12_sums_142 rfl (lv_at hl 1 rfl) ?_
          refine z_get (T := TX12) (N := 96) (ci := 12) (i := 0) (v := .ref (ad 29)) hx hb hts zj_X12_sums_X12 hown hK hW rfl rfl 46 (by decide) (hts (.fieldLink RX12 100 "PetrolBoardModel" "sort" "[I") (List.mem_of_getElem? (i := 4) rfl)) (fun _ h => h) rfl dX12_sums_143 ?_
          refine lv_iload_n hx hb dX12_sums_146 rfl (lv_at hl 2 rfl) ?_
          refine lv_iload_n hx hb dX12_sums_147 rfl (lv_at hl 0 rfl) ?_
          refine z_iast (i := 29) hx hb hK hW hS rfl (z_ix rfl (by omega) (by omega)) dX12_sums_148 (fun H locs hz1 hW hS => ?_)
          obtain ⟨I205, eI205⟩ : ∃ K : z_I, K = z_up I191 29 a1.toNatClampNeg 5 := ⟨_, rfl⟩
          rw [← eI205] at hW
          have f206 := z_fr_a f192 (show z_wa L_X12_sums_0 29 = true by decide) eI205
          have a207 := z_Nd_n (z_Nd_fr a142 fI191 (by decide)) (by decide) eI205
          refine lv_aload_n hx hb dX12_sums_149 rfl (lv_at hl 1 rfl) ?_
          refine lv_iload_n hx hb dX12_sums_150 rfl (lv_at hl 3 rfl) ?_
          refine lv_if_eq (tgt := 158) hx hb dX12_sums_151 (by decide) (fun c208 => ?_) (fun c208 => absurd (by decide) c208)
          refine lv_iconst (v := 2) hx hb dX12_sums_158 (by decide) ?_
          refine z_cv hW hS hA (va_runV (As := [.int 2]) (rest := []) ⟨hx, hb, hml, hown, hts⟩ (sx_X12_begin l G ad I205 J193 ⟨(by show 0 ≤ (I205 0 47).toInt ∧ (I205 0 47).toInt ≤ 119; rw [eI205, z_up_n (by decide)]; exact k194), (by show 0 ≤ (I205 0 39).toInt ∧ (I205 0 39).toInt ≤ 100; rw [eI205, z_up_n (by decide)]; exact k195)⟩ 2 (by have q0 : (I205 0 47) = (I191 0 47) := by rw [eI205, z_up_n (by decide)]; show (I205 0 47).toInt ≤ 118; rw [q0]; omega) _) (cwV 1 hts gX12_sums_X12_begin rfl rfl rfl (by decide +kernel) ⟨Nat.le_of_ble_eq_true rfl, Nat.le_of_ble_eq_true rfl⟩) (z_preV (i := 0) hK hW rfl rfl) rfl rfl hl.1 rfl (lv_room (Nat.le_of_ble_eq_true rfl)) dX12_sums_159 ⟨Nat.le_of_ble_eq_true rfl, Nat.le_of_ble_eq_true rfl⟩) (fun u1 H locs hp hW hS => ?_)
          obtain ⟨I209, J211, e9, hI209md, fI209, hp⟩ := hp
          rw [e9] at hW
          have f210 := z_fr_sub (L := L_X12_sums_0) f206 fI209 (by decide)
          have k212 : 0 ≤ (I209 0 31).toInt ∧ (I209 0 31).toInt ≤ 500 := by rw [fI209 0 31 (by decide)]; exact (by show 0 ≤ (I205 0 31).toInt ∧ (I205 0 31).toInt ≤ 500; rw [eI205, z_up_n (by decide)]; exact hI191mp.1)
          have k213 : 0 ≤ (I209 0 33).toInt ∧ (I209 0 33).toInt ≤ 500 := by rw [fI209 0 33 (by decide)]; exact (by show 0 ≤ (I205 0 33).toInt ∧ (I205 0 33).toInt ≤ 500; rw [eI205, z_up_n (by decide)]; exact hI191mp.2.1)
          have k214 : 0 ≤ (I209 0 34).toInt ∧ (I209 0 34).toInt ≤ 500 := by rw [fI209 0 34 (by decide)]; exact (by show 0 ≤ (I205 0 34).toInt ∧ (I205 0 34).toInt ≤ 500; rw [eI205, z_up_n (by decide)]; exact hI191mp.2.2.1)
          have k215 : 0 ≤ (I209 0 35).toInt ∧ (I209 0 35).toInt ≤ 500 := by rw [fI209 0 35 (by decide)]; exact (by show 0 ≤ (I205 0 35).toInt ∧ (I205 0 35).toInt ≤ 500; rw [eI205, z_up_n (by decide)]; exact hI191mp.2.2.2)
          have k216 : 0 ≤ (I209 0 36).toInt ∧ (I209 0 36).toInt ≤ 4 := by rw [fI209 0 36 (by decide)]; exact (by show 0 ≤ (I205 0 36).toInt ∧ (I205 0 36).toInt ≤ 4; rw [eI205, z_up_n (by decide)]; exact hI191mt.1)
          have k217 : 0 ≤ (I209 0 42).toInt ∧ (I209 0 42).toInt ≤ 1 := by rw [fI209 0 42 (by decide)]; exact (by show 0 ≤ (I205 0 42).toInt ∧ (I205 0 42).toInt ≤ 1; rw [eI205, z_up_n (by decide)]; exact hI191mt.2)
          have k218 : 0 ≤ (I209 0 40).toInt ∧ (I209 0 40).toInt ≤ 6199 := by rw [fI209 0 40 (by decide)]; exact (by show 0 ≤ (I205 0 40).toInt ∧ (I205 0 40).toInt ≤ 6199; rw [eI205, z_up_n (by decide)]; exact k196)
          have k219 : 0 ≤ (I209 0 15).toInt ∧ (I209 0 15).toInt ≤ 6100 := by rw [fI209 0 15 (by decide)]; exact (by show 0 ≤ (I205 0 15).toInt ∧ (I205 0 15).toInt ≤ 6100; rw [eI205, z_up_n (by decide)]; exact k197)
          have k220 : 0 ≤ (I209 0 35).toInt ∧ (I209 0 35).toInt ≤ (I209 0 34).toInt ∧ (I209 0 34).toInt ≤ (I209 0 33).toInt ∧ (I209 0 33).toInt ≤ 500 ∧ ((I209 0 36).toInt = 0 ∨ (I209 0 35).toInt + 1 ≤ (I209 0 34).toInt) := (by have q0 : (I209 0 35) = (I191 0 35) := by rw [fI209 0 35 (by decide), eI205, z_up_n (by decide)]; have q1 : (I209 0 34) = (I191 0 34) := by rw [fI209 0 34 (by decide), eI205, z_up_n (by decide)]; have q2 : (I209 0 33) = (I191 0 33) := by rw [fI209 0 33 (by decide), eI205, z_up_n (by decide)]; have q3 : (I209 0 36) = (I191 0 36) := by rw [fI209 0 36 (by decide), eI205, z_up_n (by decide)]; show 0 ≤ (I209 0 35).toInt ∧ (I209 0 35).toInt ≤ (I209 0 34).toInt ∧ (I209 0 34).toInt ≤ (I209 0 33).toInt ∧ (I209 0 33).toInt ≤ 500 ∧ ((I209 0 36).toInt = 0 ∨ (I209 0 35).toInt + 1 ≤ (I209 0 34).toInt); rw [q0, q1, q2, q3]; first | omega | decide)
          have k221 : (I209 0 35).toInt = (I191 0 35).toInt := by rw [fI209 0 35 (by decide), eI205, z_up_n (by decide)]
          have k222 : (I209 0 34).toInt = (I191 0 34).toInt := by rw [fI209 0 34 (by decide), eI205, z_up_n (by decide)]
          have k223 : (I209 0 36).toInt = (I191 0 36).toInt := by rw [fI209 0 36 (by decide), eI205, z_up_n (by decide)]
          have k224 : (I209 0 42).toInt = (I191 0 42).toInt := by rw [fI209 0 42 (by decide), eI205, z_up_n (by decide)]
          have k225 : (I209 0 39).toInt = (I191 0 39).toInt := by rw [fI209 0 39 (by decide), eI205, z_up_n (by decide)]
          have k226 : (I209 0 15).toInt = (I191 0 15).toInt := by rw [fI209 0 15 (by decide), eI205, z_up_n (by decide)]
          have k227 : (I209 0 40).toInt = (I191 0 40).toInt := by rw [fI209 0 40 (by decide), eI205, z_up_n (by decide)]
          have h228 := hp
          refine lv_goto (tgt := 175) hx hb dX12_sums_162 (by decide) ?_
          exact z_vret hx hb hr hK hS (Nat.le_of_ble_eq_true rfl) (Nat.le_of_ble_eq_true rfl) hlocks dX12_sums_175 (shM, ad, I209, J211, PM ad) hW ⟨I209, J211, rfl, ⟨(by show 0 ≤ (I209 0 31).toInt ∧ (I209 0 31).toInt ≤ 500; exact k212), (by show 0 ≤ (I209 0 33).toInt ∧ (I209 0 33).toInt ≤ 500; exact k213), (by show 0 ≤ (I209 0 34).toInt ∧ (I209 0 34).toInt ≤ 500; exact k214), (by show 0 ≤ (I209 0 35).toInt ∧ (I209 0 35).toInt ≤ 500; exact k215)⟩, ⟨(by show 0 ≤ (I209 0 36).toInt ∧ (I209 0 36).toInt ≤ 4; exact k216), (by show 0 ≤ (I209 0 42).toInt ∧ (I209 0 42).toInt ≤ 1; exact k217)⟩, ⟨(by show 0 ≤ (I209 0 47).toInt ∧ (I209 0 47).toInt ≤ 119; exact hI209md.1), (by show 0 ≤ (I209 0 39).toInt ∧ (I209 0 39).toInt ≤ 100; exact hI209md.2)⟩, (by show 0 ≤ (I209 0 40).toInt ∧ (I209 0 40).toInt ≤ 6199; exact k218), (by show 0 ≤ (I209 0 15).toInt ∧ (I209 0 15).toInt ≤ 6100; exact k219), (z_Nd_fr a207 fI209 (by decide)), (by show 0 ≤ (I209 0 35).toInt ∧ (I209 0 35).toInt ≤ (I209 0 34).toInt ∧ (I209 0 34).toInt ≤ (I209 0 33).toInt ∧ (I209 0 33).toInt ≤ 500 ∧ ((I209 0 36).toInt = 0 ∨ (I209 0 35).toInt + 1 ≤ (I209 0 34).toInt); first | omega | decide), f210, ((Classical.em ((I209 0 42).toInt = 0)).elim (fun hw9 => Or.inr ⟨a1.toNatClampNeg + 2, by have w1 := z_fw_1nm (a := va.toInt) (o := vo.toInt) (by omega) (by omega); have w2 := z_fo_1n (a := va.toInt); have w3 := z_fw_1np (a := va.toInt) (o := (I 0 40).toInt) (by omega) (by omega); have w4 := z_fo_1n (a := va.toInt); have w5 := z_fw_20 (a := 0) (o := -1) (by omega); have w6 := z_rk_1; have w7 := z_rk_2; exact z_PUSH (d := a1.toNatClampNeg) (w := 1) (a := va.toInt) (o := (I 0 40).toInt) (s := 5) (wi := 2) hPS (fun i hi => ⟨by rw [eI205, z_up_n (by decide), fI191 26 i (z_wr_c (by decide)), eI140, z_up_n (by decide)], by rw [eI205, z_up_n (by decide), fI191 27 i (z_wr_c (by decide)), eI140, z_up_n (by decide)], by rw [eI205, z_up_n (by decide), fI191 28 i (z_wr_c (by decide)), eI140, z_up_k (by omega)], by rw [eI205, z_up_k (by omega), fI191 29 i (z_wr_c (by decide)), eI140, z_up_n (by decide)]⟩) (by rw [show I205 26 a1.toNatClampNeg = vw from (by rw [eI205, z_up_n (by decide), fI191 26 a1.toNatClampNeg (z_wr_c (by decide)), eI140, z_up_n (by decide)]; exact evw.symm)]; exact hvw) (by rw [show I205 27 a1.toNatClampNeg = va from (by rw [eI205, z_up_n (by decide), fI191 27 a1.toNatClampNeg (z_wr_c (by decide)), eI140, z_up_n (by decide)]; exact eva.symm)]; exact rfl) (by rw [show I205 28 a1.toNatClampNeg = (I 0 40) from (by rw [eI205, z_up_n (by decide), fI191 28 a1.toNatClampNeg (z_wr_c (by decide)), eI140, z_up_s])]; exact rfl) (by rw [show I205 29 a1.toNatClampNeg = 5 from (by rw [eI205, z_up_s])]; exact z_l5) (by unfold z_fv; omega) hwd (by rw [eI205, z_up_n (by decide)]; omega) h228 z_l2 (by omega) (by omega) (by omega) (by omega) (by omega) (by omega) (by omega) (by omega)⟩) Or.inl)⟩
        · refine lv_if_eq (tgt := 132) hx hb dX12_sums_125 (by decide) (fun c229 => ?_) (fun c229 => absurd (by decide) c229)
          refine lv_iconst (v := 0) hx hb dX12_sums_132 (by decide) ?_
          refine lv_istore_n (lv' := [(3, .int 0), (0, .ref (ad 0)), (1, .int a1), (2, .int 0)]) hx hb dX12_sums_133 rfl hl (by decide) rfl (fun ls hl => ?_)
          refine lv_iload_n hx hb dX12_sums_134 rfl (lv_at hl 0 rfl) ?_
          refine lv_if_le (tgt := 165) hx hb dX12_sums_135 (by decide) (fun c230 => ?_) (fun c230 => absurd (by decide) c230)
          refine lv_aload_n hx hb dX12_sums_165 rfl (lv_at hl 1 rfl) ?_
          refine lv_aload_n hx hb dX12_sums_166 rfl (lv_at hl 1 rfl) ?_
          refine z_get (T := TX12) (N := 96) (ci := 12) (i := 0) (v := .ref (ad 28)) hx hb hts zj_X12_sums_X12 hown hK hW rfl rfl 45 (by decide) (hts (.fieldLink RX12 97 "PetrolBoardModel" "one" "[I") (List.mem_of_getElem? (i := 2) rfl)) (fun _ h => h) rfl dX12_sums_167 ?_
          refine lv_iload_n hx hb dX12_sums_170 rfl (lv_at hl 2 rfl) ?_
          refine z_iald (i := 28) hx hb hK hW rfl (z_ix rfl (by omega) (by omega)) dX12_sums_171 ?_
          refine z_topi (v := (I 0 40)) (by rw [eI140, z_up_s]) ?_
          refine z_cv hW hS hA (va_runV (As := [.int (I 0 40)]) (rest := []) ⟨hx, hb, hml, hown, hts⟩ (sx_X12_ends l G ad I140 J ⟨(by show 0 ≤ (I140 0 47).toInt ∧ (I140 0 47).toInt ≤ 119; rw [eI140, z_up_n (by decide)]; exact hmd.1), (by show 0 ≤ (I140 0 39).toInt ∧ (I140 0 39).toInt ≤ 100; rw [eI140, z_up_n (by decide)]; exact hmd.2)⟩ (by show 0 ≤ (I140 0 40).toInt ∧ (I140 0 40).toInt ≤ 6199; rw [eI140, z_up_n (by decide)]; exact hmg) (I 0 40) (by first | omega | decide) (by have q0 : (I140 0 47) = (I 0 47) := by rw [eI140, z_up_n (by decide)]; show 1 ≤ (I140 0 47).toInt; rw [q0]; omega) _) (cwV 1 hts gX12_sums_X12_ends rfl rfl rfl (by decide +kernel) ⟨Nat.le_of_ble_eq_true rfl, Nat.le_of_ble_eq_true rfl⟩) (z_preV (i := 0) hK hW rfl rfl) rfl rfl hl.1 rfl (lv_room (Nat.le_of_ble_eq_true rfl)) dX12_sums_172 ⟨Nat.le_of_ble_eq_true rfl, Nat.le_of_ble_eq_true rfl⟩) (fun u1 H locs hp hW hS => ?_)
          obtain ⟨I231, J233, e9, hI231md, hI231mg, fI231, hp⟩ := hp
          rw [e9] at hW
          have f232 := z_fr_sub (L := L_X12_sums_0) f141 fI231 (by decide)
          have k234 : 0 ≤ (I231 0 31).toInt ∧ (I231 0 31).toInt ≤ 500 := by rw [fI231 0 31 (by decide)]; exact (by show 0 ≤ (I140 0 31).toInt ∧ (I140 0 31).toInt ≤ 500; rw [eI140, z_up_n (by decide)]; exact hmp.1)
          have k235 : 0 ≤ (I231 0 33).toInt ∧ (I231 0 33).toInt ≤ 500 := by rw [fI231 0 33 (by decide)]; exact (by show 0 ≤ (I140 0 33).toInt ∧ (I140 0 33).toInt ≤ 500; rw [eI140, z_up_n (by decide)]; exact hmp.2.1)
          have k236 : 0 ≤ (I231 0 34).toInt ∧ (I231 0 34).toInt ≤ 500 := by rw [fI231 0 34 (by decide)]; exact (by show 0 ≤ (I140 0 34).toInt ∧ (I140 0 34).toInt ≤ 500; rw [eI140, z_up_n (by decide)]; exact hmp.2.2.1)
          have k237 : 0 ≤ (I231 0 35).toInt ∧ (I231 0 35).toInt ≤ 500 := by rw [fI231 0 35 (by decide)]; exact (by show 0 ≤ (I140 0 35).toInt ∧ (I140 0 35).toInt ≤ 500; rw [eI140, z_up_n (by decide)]; exact hmp.2.2.2)
          have k238 : 0 ≤ (I231 0 36).toInt ∧ (I231 0 36).toInt ≤ 4 := by rw [fI231 0 36 (by decide)]; exact (by show 0 ≤ (I140 0 36).toInt ∧ (I140 0 36).toInt ≤ 4; rw [eI140, z_up_n (by decide)]; exact hmt.1)
          have k239 : 0 ≤ (I231 0 42).toInt ∧ (I231 0 42).toInt ≤ 1 := by rw [fI231 0 42 (by decide)]; exact (by show 0 ≤ (I140 0 42).toInt ∧ (I140 0 42).toInt ≤ 1; rw [eI140, z_up_n (by decide)]; exact hmt.2)
          have k240 : 0 ≤ (I231 0 15).toInt ∧ (I231 0 15).toInt ≤ 6100 := by rw [fI231 0 15 (by decide)]; exact (by show 0 ≤ (I140 0 15).toInt ∧ (I140 0 15).toInt ≤ 6100; rw [eI140, z_up_n (by decide)]; exact hmn)
          have k241 : 0 ≤ (I231 0 35).toInt ∧ (I231 0 35).toInt ≤ (I231 0 34).toInt ∧ (I231 0 34).toInt ≤ (I231 0 33).toInt ∧ (I231 0 33).toInt ≤ 500 ∧ ((I231 0 36).toInt = 0 ∨ (I231 0 35).toInt + 1 ≤ (I231 0 34).toInt) := (by have q0 : (I231 0 35) = (I 0 35) := by rw [fI231 0 35 (by decide), eI140, z_up_n (by decide)]; have q1 : (I231 0 34) = (I 0 34) := by rw [fI231 0 34 (by decide), eI140, z_up_n (by decide)]; have q2 : (I231 0 33) = (I 0 33) := by rw [fI231 0 33 (by decide), eI140, z_up_n (by decide)]; have q3 : (I231 0 36) = (I 0 36) := by rw [fI231 0 36 (by decide), eI140, z_up_n (by decide)]; show 0 ≤ (I231 0 35).toInt ∧ (I231 0 35).toInt ≤ (I231 0 34).toInt ∧ (I231 0 34).toInt ≤ (I231 0 33).toInt ∧ (I231 0 33).toInt ≤ 500 ∧ ((I231 0 36).toInt = 0 ∨ (I231 0 35).toInt + 1 ≤ (I231 0 34).toInt); rw [q0, q1, q2, q3]; first | omega | decide)
          have k242 : (I231 0 35).toInt = (I 0 35).toInt := by rw [fI231 0 35 (by decide), eI140, z_up_n (by decide)]
          have k243 : (I231 0 34).toInt = (I 0 34).toInt := by rw [fI231 0 34 (by decide), eI140, z_up_n (by decide)]
          have k244 : (I231 0 36).toInt = (I 0 36).toInt := by rw [fI231 0 36 (by decide), eI140, z_up_n (by decide)]
          have k245 : (I231 0 42).toInt = (I 0 42).toInt := by rw [fI231 0 42 (by decide), eI140, z_up_n (by decide)]
          have k246 : (I231 0 39).toInt = (I 0 39).toInt := by rw [fI231 0 39 (by decide), eI140, z_up_n (by decide)]
          have k247 : (I231 0 15).toInt = (I 0 15).toInt := by rw [fI231 0 15 (by decide), eI140, z_up_n (by decide)]
          have h248 := hp
          rw [show (I140 0 47) = (I 0 47) from by rw [eI140, z_up_n (by decide)]] at h248
          exact z_vret hx hb hr hK hS (Nat.le_of_ble_eq_true rfl) (Nat.le_of_ble_eq_true rfl) hlocks dX12_sums_175 (shM, ad, I231, J233, PM ad) hW ⟨I231, J233, rfl, ⟨(by show 0 ≤ (I231 0 31).toInt ∧ (I231 0 31).toInt ≤ 500; exact k234), (by show 0 ≤ (I231 0 33).toInt ∧ (I231 0 33).toInt ≤ 500; exact k235), (by show 0 ≤ (I231 0 34).toInt ∧ (I231 0 34).toInt ≤ 500; exact k236), (by show 0 ≤ (I231 0 35).toInt ∧ (I231 0 35).toInt ≤ 500; exact k237)⟩, ⟨(by show 0 ≤ (I231 0 36).toInt ∧ (I231 0 36).toInt ≤ 4; exact k238), (by show 0 ≤ (I231 0 42).toInt ∧ (I231 0 42).toInt ≤ 1; exact k239)⟩, ⟨(by show 0 ≤ (I231 0 47).toInt ∧ (I231 0 47).toInt ≤ 119; exact hI231md.1), (by show 0 ≤ (I231 0 39).toInt ∧ (I231 0 39).toInt ≤ 100; exact hI231md.2)⟩, (by show 0 ≤ (I231 0 40).toInt ∧ (I231 0 40).toInt ≤ 6199; exact hI231mg), (by show 0 ≤ (I231 0 15).toInt ∧ (I231 0 15).toInt ≤ 6100; exact k240), (z_Nd_fr a142 fI231 (by decide)), (by show 0 ≤ (I231 0 35).toInt ∧ (I231 0 35).toInt ≤ (I231 0 34).toInt ∧ (I231 0 34).toInt ≤ (I231 0 33).toInt ∧ (I231 0 33).toInt ≤ 500 ∧ ((I231 0 36).toInt = 0 ∨ (I231 0 35).toInt + 1 ≤ (I231 0 34).toInt); first | omega | decide), f232, ((Classical.em ((I231 0 42).toInt = 0)).elim (fun hw9 => Or.inr ⟨a1.toNatClampNeg, by have w1 := z_fw_1nm (a := va.toInt) (o := vo.toInt) (by omega) (by omega); have w2 := z_fo_1n (a := va.toInt); exact z_POP (d := a1.toNatClampNeg) hPS (fun i hi => ⟨by rw [fI231 26 i (z_wr_c (by decide)), eI140, z_up_n (by decide)], by rw [fI231 27 i (z_wr_c (by decide)), eI140, z_up_n (by decide)], by rw [fI231 28 i (z_wr_c (by decide)), eI140, z_up_k (by omega)], by rw [fI231 29 i (z_wr_c (by decide)), eI140, z_up_n (by decide)]⟩) (by omega) (by omega) (by omega) (by omega) (by omega) (by omega)⟩) Or.inl)⟩
  · have g249 := z_f_eq rfl z_l0 c1
    refine lv_aload_n hx hb dX12_sums_9 rfl (lv_at hl 0 rfl) ?_
    refine z_get (T := TX12) (N := 96) (ci := 12) (i := 0) (v := .ref (ad 27)) hx hb hts zj_X12_sums_X12 hown hK hW rfl rfl 44 (by decide) (hts (.fieldLink RX12 94 "PetrolBoardModel" "at" "[I") (List.mem_of_getElem? (i := 1) rfl)) (fun _ h => h) rfl dX12_sums_10 ?_
    refine lv_iload_n hx hb dX12_sums_13 rfl (lv_at hl 1 rfl) ?_
    refine lv_iconst (v := 1) hx hb dX12_sums_14 (by decide) ?_
    refine z_iast (i := 27) hx hb hK hW hS rfl (z_ix rfl (by omega) (by omega)) dX12_sums_15 (fun H locs hz1 hW hS => ?_)
    obtain ⟨I250, eI250⟩ : ∃ K : z_I, K = z_up I 27 a1.toNatClampNeg 1 := ⟨_, rfl⟩
    rw [← eI250] at hW
    have f251 := z_fr_a z_fr_0 (show z_wa L_X12_sums_0 27 = true by decide) eI250
    have a252 := z_Nd_n hNd (by decide) eI250
    refine lv_aload_n hx hb dX12_sums_16 rfl (lv_at hl 0 rfl) ?_
    refine lv_iload_n hx hb dX12_sums_17 rfl (lv_at hl 2 rfl) ?_
    refine lv_if_eq (tgt := 25) hx hb dX12_sums_18 (by decide) (fun c253 => ?_) (fun c253 => absurd (by decide) c253)
    refine lv_iconst (v := 2) hx hb dX12_sums_25 (by decide) ?_
    refine z_cv hW hS hA (va_runV (As := [.int 2]) (rest := []) ⟨hx, hb, hml, hown, hts⟩ (sx_X12_begin l G ad I250 J ⟨(by show 0 ≤ (I250 0 47).toInt ∧ (I250 0 47).toInt ≤ 119; rw [eI250, z_up_n (by decide)]; exact hmd.1), (by show 0 ≤ (I250 0 39).toInt ∧ (I250 0 39).toInt ≤ 100; rw [eI250, z_up_n (by decide)]; exact hmd.2)⟩ 2 (by have q0 : (I250 0 47) = (I 0 47) := by rw [eI250, z_up_n (by decide)]; show (I250 0 47).toInt ≤ 118; rw [q0]; omega) _) (cwV 1 hts gX12_sums_X12_begin rfl rfl rfl (by decide +kernel) ⟨Nat.le_of_ble_eq_true rfl, Nat.le_of_ble_eq_true rfl⟩) (z_preV (i := 0) hK hW rfl rfl) rfl rfl hl.1 rfl (lv_room (Nat.le_of_ble_eq_true rfl)) dX12_sums_26 ⟨Nat.le_of_ble_eq_true rfl, Nat.le_of_ble_eq_true rfl⟩) (fun u1 H locs hp hW hS => ?_)
    obtain ⟨I254, J256, e9, hI254md, fI254, hp⟩ := hp
    rw [e9] at hW
    have f255 := z_fr_sub (L := L_X12_sums_0) f251 fI254 (by decide)
    have k257 : 0 ≤ (I254 0 31).toInt ∧ (I254 0 31).toInt ≤ 500 := by rw [fI254 0 31 (by decide)]; exact (by show 0 ≤ (I250 0 31).toInt ∧ (I250 0 31).toInt ≤ 500; rw [eI250, z_up_n (by decide)]; exact hmp.1)
    have k258 : 0 ≤ (I254 0 33).toInt ∧ (I254 0 33).toInt ≤ 500 := by rw [fI254 0 33 (by decide)]; exact (by show 0 ≤ (I250 0 33).toInt ∧ (I250 0 33).toInt ≤ 500; rw [eI250, z_up_n (by decide)]; exact hmp.2.1)
    have k259 : 0 ≤ (I254 0 34).toInt ∧ (I254 0 34).toInt ≤ 500 := by rw [fI254 0 34 (by decide)]; exact (by show 0 ≤ (I250 0 34).toInt ∧ (I250 0 34).toInt ≤ 500; rw [eI250, z_up_n (by decide)]; exact hmp.2.2.1)
    have k260 : 0 ≤ (I254 0 35).toInt ∧ (I254 0 35).toInt ≤ 500 := by rw [fI254 0 35 (by decide)]; exact (by show 0 ≤ (I250 0 35).toInt ∧ (I250 0 35).toInt ≤ 500; rw [eI250, z_up_n (by decide)]; exact hmp.2.2.2)
    have k261 : 0 ≤ (I254 0 36).toInt ∧ (I254 0 36).toInt ≤ 4 := by rw [fI254 0 36 (by decide)]; exact (by show 0 ≤ (I250 0 36).toInt ∧ (I250 0 36).toInt ≤ 4; rw [eI250, z_up_n (by decide)]; exact hmt.1)
    have k262 : 0 ≤ (I254 0 42).toInt ∧ (I254 0 42).toInt ≤ 1 := by rw [fI254 0 42 (by decide)]; exact (by show 0 ≤ (I250 0 42).toInt ∧ (I250 0 42).toInt ≤ 1; rw [eI250, z_up_n (by decide)]; exact hmt.2)
    have k263 : 0 ≤ (I254 0 40).toInt ∧ (I254 0 40).toInt ≤ 6199 := by rw [fI254 0 40 (by decide)]; exact (by show 0 ≤ (I250 0 40).toInt ∧ (I250 0 40).toInt ≤ 6199; rw [eI250, z_up_n (by decide)]; exact hmg)
    have k264 : 0 ≤ (I254 0 15).toInt ∧ (I254 0 15).toInt ≤ 6100 := by rw [fI254 0 15 (by decide)]; exact (by show 0 ≤ (I250 0 15).toInt ∧ (I250 0 15).toInt ≤ 6100; rw [eI250, z_up_n (by decide)]; exact hmn)
    have k265 : 0 ≤ (I254 0 35).toInt ∧ (I254 0 35).toInt ≤ (I254 0 34).toInt ∧ (I254 0 34).toInt ≤ (I254 0 33).toInt ∧ (I254 0 33).toInt ≤ 500 ∧ ((I254 0 36).toInt = 0 ∨ (I254 0 35).toInt + 1 ≤ (I254 0 34).toInt) := (by have q0 : (I254 0 35) = (I 0 35) := by rw [fI254 0 35 (by decide), eI250, z_up_n (by decide)]; have q1 : (I254 0 34) = (I 0 34) := by rw [fI254 0 34 (by decide), eI250, z_up_n (by decide)]; have q2 : (I254 0 33) = (I 0 33) := by rw [fI254 0 33 (by decide), eI250, z_up_n (by decide)]; have q3 : (I254 0 36) = (I 0 36) := by rw [fI254 0 36 (by decide), eI250, z_up_n (by decide)]; show 0 ≤ (I254 0 35).toInt ∧ (I254 0 35).toInt ≤ (I254 0 34).toInt ∧ (I254 0 34).toInt ≤ (I254 0 33).toInt ∧ (I254 0 33).toInt ≤ 500 ∧ ((I254 0 36).toInt = 0 ∨ (I254 0 35).toInt + 1 ≤ (I254 0 34).toInt); rw [q0, q1, q2, q3]; first | omega | decide)
    have k266 : (I254 0 35).toInt = (I 0 35).toInt := by rw [fI254 0 35 (by decide), eI250, z_up_n (by decide)]
    have k267 : (I254 0 34).toInt = (I 0 34).toInt := by rw [fI254 0 34 (by decide), eI250, z_up_n (by decide)]
    have k268 : (I254 0 36).toInt = (I 0 36).toInt := by rw [fI254 0 36 (by decide), eI250, z_up_n (by decide)]
    have k269 : (I254 0 42).toInt = (I 0 42).toInt := by rw [fI254 0 42 (by decide), eI250, z_up_n (by decide)]
    have k270 : (I254 0 39).toInt = (I 0 39).toInt := by rw [fI254 0 39 (by decide), eI250, z_up_n (by decide)]
    have k271 : (I254 0 15).toInt = (I 0 15).toInt := by rw [fI254 0 15 (by decide), eI250, z_up_n (by decide)]
    have k272 : (I254 0 40).toInt = (I 0 40).toInt := by rw [fI254 0 40 (by decide), eI250, z_up_n (by decide)]
    have h273 := hp
    exact z_vret hx hb hr hK hS (Nat.le_of_ble_eq_true rfl) (Nat.le_of_ble_eq_true rfl) hlocks dX12_sums_29 (shM, ad, I254, J256, PM ad) hW ⟨I254, J256, rfl, ⟨(by show 0 ≤ (I254 0 31).toInt ∧ (I254 0 31).toInt ≤ 500; exact k257), (by show 0 ≤ (I254 0 33).toInt ∧ (I254 0 33).toInt ≤ 500; exact k258), (by show 0 ≤ (I254 0 34).toInt ∧ (I254 0 34).toInt ≤ 500; exact k259), (by show 0 ≤ (I254 0 35).toInt ∧ (I254 0 35).toInt ≤ 500; exact k260)⟩, ⟨(by show 0 ≤ (I254 0 36).toInt ∧ (I254 0 36).toInt ≤ 4; exact k261), (by show 0 ≤ (I254 0 42).toInt ∧ (I254 0 42).toInt ≤ 1; exact k262)⟩, ⟨(by show 0 ≤ (I254 0 47).toInt ∧ (I254 0 47).toInt ≤ 119; exact hI254md.1), (by show 0 ≤ (I254 0 39).toInt ∧ (I254 0 39).toInt ≤ 100; exact hI254md.2)⟩, (by show 0 ≤ (I254 0 40).toInt ∧ (I254 0 40).toInt ≤ 6199; exact k263), (by show 0 ≤ (I254 0 15).toInt ∧ (I254 0 15).toInt ≤ 6100; exact k264), (z_Nd_fr a252 fI254 (by decide)), (by show 0 ≤ (I254 0 35).toInt ∧ (I254 0 35).toInt ≤ (I254 0 34).toInt ∧ (I254 0 34).toInt ≤ (I254 0 33).toInt ∧ (I254 0 33).toInt ≤ 500 ∧ ((I254 0 36).toInt = 0 ∨ (I254 0 35).toInt + 1 ≤ (I254 0 34).toInt); first | omega | decide), f255, ((Classical.em ((I254 0 42).toInt = 0)).elim (fun hw9 => Or.inr ⟨a1.toNatClampNeg + 2, by have w1 := z_fw_10 (a := va.toInt) (o := vo.toInt) (by omega); have w2 := z_fo_1n (a := va.toInt); have w3 := z_fw_1nm (a := 1) (o := vo.toInt) (by omega) (by omega); have w4 := z_fo_1n (a := 1); have w5 := z_fw_20 (a := 0) (o := -1) (by omega); have w6 := z_rk_1; have w7 := z_rk_2; exact z_PUSH (d := a1.toNatClampNeg) (w := 1) (a := 1) (o := vo.toInt) (s := vs.toInt) (wi := 2) hPS (fun i hi => ⟨by rw [eI250, z_up_n (by decide)], by rw [eI250, z_up_k (by omega)], by rw [eI250, z_up_n (by decide)], by rw [eI250, z_up_n (by decide)]⟩) (by rw [show I250 26 a1.toNatClampNeg = vw from (by rw [eI250, z_up_n (by decide)]; exact evw.symm)]; exact hvw) (by rw [show I250 27 a1.toNatClampNeg = 1 from (by rw [eI250, z_up_s])]; exact z_l1) (by rw [show I250 28 a1.toNatClampNeg = vo from (by rw [eI250, z_up_n (by decide)]; exact evo.symm)]; exact rfl) (by rw [show I250 29 a1.toNatClampNeg = vs from (by rw [eI250, z_up_n (by decide)]; exact evs.symm)]; exact rfl) (by unfold z_fv; omega) hwd (by rw [eI250, z_up_n (by decide)]; omega) h273 z_l2 (by omega) (by omega) (by omega) (by omega) (by omega) (by omega) (by omega) (by omega)⟩) Or.inl)⟩
def L_X12_atom : z_L := [(0, 35), (0, 36), (0, 37), (0, 38), (0, 34), (0, 42), (0, 32), (0, 39), (21, 999), (22, 999), (23, 999), (0, 15), (26, 999), (27, 999), (28, 999), (29, 999), (0, 47), (0, 40)]
theorem zj_X12_atom_X12 : ∀ w ∈ wsX120, w ∈ wsX12_atom := fun w h => (List.mem_cons_of_mem _ (List.mem_append_right _ h))
set_option maxHeartbeats 8000000 in
set_option maxRecDepth 100000 in
theorem sx_X12_atom (l : Launch) (G : z_G) (ad : Nat → Nat) (I : z_I) (J : z_J) (hmp : z_imp I) (hmt : z_imt I) (hmd : z_imd I) (hmg : z_img I) (hmn : z_imn I) (hNd : z_Nd I) (hrp : z_irp I) (B : Int) (a1 : Int32) (q1 : 0 ≤ a1.toInt ∧ a1.toInt ≤ 33) (hwd : (I 26 a1.toNatClampNeg).toInt = 2) (hPS : z_PS I (a1.toNatClampNeg + 1) B) : z_Mv l yX12_atom wsX12_atom { frames := 4, cells := 0, slots := 0, locals := 76 } [.ref (ad 0), .int a1] G (shM, ad, I, J, PM ad) (fun u1 => ∃ (I1 : z_I) (J1 : z_J), u1 = (shM, ad, I1, J1, PM ad) ∧ z_imp I1 ∧ z_imt I1 ∧ z_imd I1 ∧ z_img I1 ∧ z_imn I1 ∧ z_Nd I1 ∧ z_irp I1 ∧ z_fr L_X12_atom I1 I ∧ (¬ (I1 0 42).toInt = 0 ∨ ∃ n, z_PS I1 n (B - 1))) 0 0 := by
  intro sz
  refine z_headQ (cc := cX12_atom) (maxL := 3) (ret := none) (by decide) rfl (Nat.le_of_ble_eq_true rfl) ?_
  intro p e s m below meth c0 ls hIn hK hsz hW hl
  obtain ⟨hx, hb, hr, hml, hown, hts, hlocks, hname⟩ := hIn
  subst hsz
  have hown : s.vm.findClass RX12 = some m.cls := hown
  have hA : ∀ q : Nat, s.heap.size ≤ q → z_A (shM, ad, I, J, PM ad) s.heap.size q := fun q h => Or.inr h
  generalize hAe : z_A (shM, ad, I, J, PM ad) s.heap.size = A at *
  have hS : va_S A s.heap s.heap [] := va_S.rf
  have hl : lv_has ls 3 [(0, .ref (ad 0)), (1, .int a1)] := hl
  obtain ⟨va, eva⟩ : ∃ y, y = I 27 a1.toNatClampNeg := ⟨_, rfl⟩
  obtain ⟨vo, evo⟩ : ∃ y, y = I 28 a1.toNatClampNeg := ⟨_, rfl⟩
  obtain ⟨vs, evs⟩ : ∃ y, y = I 29 a1.toNatClampNeg := ⟨_, rfl⟩
  have hT := z_top hPS
  unfold z_fv at hT
  rw [hwd, ← eva, ← evo, ← evs] at hT
  obtain ⟨t1, t2, t3, t4, t5, t6, t7, t8, t9, t10, t11, t12, t13, t14, t15, t16, t17, t18, t19, t20, t21⟩ := hT
  have hk9 := z_clt (x := a1) rfl q1.1
  obtain ⟨vw, evw⟩ : ∃ y, y = I 26 a1.toNatClampNeg := ⟨_, rfl⟩
  have hvw : vw.toInt = 2 := by rw [evw]; exact hwd
  have krp : 0 ≤ (I 0 35).toInt ∧ (I 0 35).toInt ≤ (I 0 34).toInt ∧ (I 0 34).toInt ≤ (I 0 33).toInt ∧ (I 0 33).toInt ≤ 500 ∧ ((I 0 36).toInt = 0 ∨ (I 0 35).toInt + 1 ≤ (I 0 34).toInt) := hrp
  refine lv_aload_n hx hb dX12_atom_0 rfl (lv_at hl 0 rfl) ?_
  refine z_get (T := TX12) (N := 96) (ci := 12) (i := 0) (v := .ref (ad 27)) hx hb hts zj_X12_atom_X12 hown hK hW rfl rfl 44 (by decide) (hts (.fieldLink RX12 94 "PetrolBoardModel" "at" "[I") (List.mem_of_getElem? (i := 1) rfl)) (fun _ h => h) rfl dX12_atom_1 ?_
  refine lv_iload_n hx hb dX12_atom_4 rfl (lv_at hl 1 rfl) ?_
  refine z_iald (i := 27) hx hb hK hW rfl (z_ix rfl (by omega) (by omega)) dX12_atom_5 ?_
  refine z_topi (v := va) eva.symm ?_
  refine lv_if_ne (tgt := 198) hx hb dX12_atom_6 (by decide) (fun c1 => ?_) (fun c1 => ?_)
  · have g2 := z_f_ne rfl z_l0 c1
    refine lv_aload_n hx hb dX12_atom_198 rfl (lv_at hl 0 rfl) ?_
    refine z_get (T := TX12) (N := 96) (ci := 12) (i := 0) (v := .ref (ad 27)) hx hb hts zj_X12_atom_X12 hown hK hW rfl rfl 44 (by decide) (hts (.fieldLink RX12 94 "PetrolBoardModel" "at" "[I") (List.mem_of_getElem? (i := 1) rfl)) (fun _ h => h) rfl dX12_atom_199 ?_
    refine lv_iload_n hx hb dX12_atom_202 rfl (lv_at hl 1 rfl) ?_
    refine z_iald (i := 27) hx hb hK hW rfl (z_ix rfl (by omega) (by omega)) dX12_atom_203 ?_
    refine z_topi (v := va) eva.symm ?_
    refine lv_iconst (v := 2) hx hb dX12_atom_204 (by decide) ?_
    refine lv_icmp_ne (tgt := 246) hx hb dX12_atom_205 (by decide) (fun c3 => ?_) (fun c3 => ?_)
    · have g4 := z_f_ne rfl z_l2 c3
      refine lv_aload_n hx hb dX12_atom_246 rfl (lv_at hl 0 rfl) ?_
      refine lv_bipush (v := 41) hx hb dX12_atom_247 (by decide) ?_
      refine z_cv hW hS hA (va_runV (As := [.int 41]) (rest := []) ⟨hx, hb, hml, hown, hts⟩ (sx_X12_must l G ad I J ⟨(by show 0 ≤ (I 0 31).toInt ∧ (I 0 31).toInt ≤ 500; exact hmp.1), (by show 0 ≤ (I 0 33).toInt ∧ (I 0 33).toInt ≤ 500; exact hmp.2.1), (by show 0 ≤ (I 0 34).toInt ∧ (I 0 34).toInt ≤ 500; exact hmp.2.2.1), (by show 0 ≤ (I 0 35).toInt ∧ (I 0 35).toInt ≤ 500; exact hmp.2.2.2)⟩ ⟨(by show 0 ≤ (I 0 36).toInt ∧ (I 0 36).toInt ≤ 4; exact hmt.1), (by show 0 ≤ (I 0 42).toInt ∧ (I 0 42).toInt ≤ 1; exact hmt.2)⟩ (by show 0 ≤ (I 0 35).toInt ∧ (I 0 35).toInt ≤ (I 0 34).toInt ∧ (I 0 34).toInt ≤ (I 0 33).toInt ∧ (I 0 33).toInt ≤ 500 ∧ ((I 0 36).toInt = 0 ∨ (I 0 35).toInt + 1 ≤ (I 0 34).toInt); first | omega | decide) 41 _) (cwV 1 hts gX12_atom_X12_must rfl rfl rfl (by decide +kernel) ⟨Nat.le_of_ble_eq_true rfl, Nat.le_of_ble_eq_true rfl⟩) (z_preV (i := 0) hK hW rfl rfl) rfl rfl hl.1 rfl (lv_room (Nat.le_of_ble_eq_true rfl)) dX12_atom_249 ⟨Nat.le_of_ble_eq_true rfl, Nat.le_of_ble_eq_true rfl⟩) (fun u1 H locs hp hW hS => ?_)
      obtain ⟨I5, J7, e9, hI5mp, hI5mt, hI5rp, fI5, hp⟩ := hp
      rw [e9] at hW
      have f6 := z_fr_sub (L := L_X12_atom) z_fr_0 fI5 (by decide)
      have k8 : 0 ≤ (I5 0 47).toInt ∧ (I5 0 47).toInt ≤ 119 := by rw [fI5 0 47 (by decide)]; exact (by show 0 ≤ (I 0 47).toInt ∧ (I 0 47).toInt ≤ 119; exact hmd.1)
      have k9 : 0 ≤ (I5 0 39).toInt ∧ (I5 0 39).toInt ≤ 100 := by rw [fI5 0 39 (by decide)]; exact (by show 0 ≤ (I 0 39).toInt ∧ (I 0 39).toInt ≤ 100; exact hmd.2)
      have k10 : 0 ≤ (I5 0 40).toInt ∧ (I5 0 40).toInt ≤ 6199 := by rw [fI5 0 40 (by decide)]; exact (by show 0 ≤ (I 0 40).toInt ∧ (I 0 40).toInt ≤ 6199; exact hmg)
      have k11 : 0 ≤ (I5 0 15).toInt ∧ (I5 0 15).toInt ≤ 6100 := by rw [fI5 0 15 (by decide)]; exact (by show 0 ≤ (I 0 15).toInt ∧ (I 0 15).toInt ≤ 6100; exact hmn)
      have k12 : 0 ≤ (I5 0 35).toInt ∧ (I5 0 35).toInt ≤ (I5 0 34).toInt ∧ (I5 0 34).toInt ≤ (I5 0 33).toInt ∧ (I5 0 33).toInt ≤ 500 ∧ ((I5 0 36).toInt = 0 ∨ (I5 0 35).toInt + 1 ≤ (I5 0 34).toInt) := hI5rp
      have k13 : (I5 0 47).toInt = (I 0 47).toInt := by rw [fI5 0 47 (by decide)]
      have k14 : (I5 0 39).toInt = (I 0 39).toInt := by rw [fI5 0 39 (by decide)]
      have k15 : (I5 0 15).toInt = (I 0 15).toInt := by rw [fI5 0 15 (by decide)]
      have k16 : (I5 0 40).toInt = (I 0 40).toInt := by rw [fI5 0 40 (by decide)]
      have h17 := hp
      refine lv_aload_n hx hb dX12_atom_252 rfl (lv_at hl 0 rfl) ?_
      refine lv_dup hx hb dX12_atom_253 rfl ?_
      have r18 : 0 ≤ (I5 0 39).toInt ∧ (I5 0 39).toInt ≤ 100 := k9
      refine z_get (T := TX12) (N := 96) (ci := 12) (i := 0) (v := .int (I5 0 39)) hx hb hts zj_X12_atom_X12 hown hK hW rfl rfl 39 (by decide) (hts (.fieldLink RX12 346 "PetrolBoardModel" "open" "I") (List.mem_of_getElem? (i := 11) rfl)) (fun _ h => h) rfl dX12_atom_254 ?_
      refine lv_iconst (v := 1) hx hb dX12_atom_257 (by decide) ?_
      refine lv_isub hx hb dX12_atom_258 ?_
      refine lv_topi (fun x19 ex19 => ?_)
      have tx19 : x19.toInt = (I5 0 39).toInt - 1 := z_tsub ex19 rfl z_l1 (by omega) (by omega)
      refine z_put (T := TX12) (N := 96) (ci := 12) (i := 0) (v := .int x19) (I1 := z_up I5 0 39 x19) (J1 := J7) (P1 := PM ad) hx hb hts zj_X12_atom_X12 tyX12 tyX12_ok nmX12 hown hK hW hS rfl rfl 39 (by decide) (hts (.fieldLink RX12 346 "PetrolBoardModel" "open" "I") (List.mem_of_getElem? (i := 11) rfl)) (fun _ h => h) rfl rfl rfl (by first | rfl | exact congrArg _ z_up_s) (fun a b h ty => z_vI h ty) dX12_atom_259 (fun H locs hz1 hW hS => ?_)
      obtain ⟨I20, eI20⟩ : ∃ K : z_I, K = z_up I5 0 39 x19 := ⟨_, rfl⟩
      rw [← eI20] at hW
      have f21 := z_fr_k f6 (show z_wr L_X12_atom 0 39 = true by decide) eI20
      have a22 := z_Nd_n (z_Nd_fr hNd fI5 (by decide)) (by decide) eI20
      refine lv_aload_n hx hb dX12_atom_262 rfl (lv_at hl 0 rfl) ?_
      have r23 : 0 ≤ (I5 0 42).toInt ∧ (I5 0 42).toInt ≤ 1 := hI5mt.2
      refine z_get (T := TX12) (N := 96) (ci := 12) (i := 0) (v := .int (I5 0 42)) hx hb hts zj_X12_atom_X12 hown hK hW rfl rfl 42 (by decide) (hts (.fieldLink RX12 294 "PetrolBoardModel" "isWrong" "Z") (List.mem_of_getElem? (i := 7) rfl)) (fun _ h => h) (congrArg Value.int (by rw [eI20, z_up_k (by decide)])) dX12_atom_263 ?_
      refine lv_if_eq (tgt := 270) hx hb dX12_atom_266 (by decide) (fun c24 => ?_) (fun c24 => ?_)
      · have g25 := z_f_eq rfl z_l0 c24
        refine lv_aload_n hx hb dX12_atom_270 rfl (lv_at hl 0 rfl) ?_
        refine lv_aload_n hx hb dX12_atom_271 rfl (lv_at hl 0 rfl) ?_
        refine z_get (T := TX12) (N := 96) (ci := 12) (i := 0) (v := .ref (ad 27)) hx hb hts zj_X12_atom_X12 hown hK hW rfl rfl 44 (by decide) (hts (.fieldLink RX12 94 "PetrolBoardModel" "at" "[I") (List.mem_of_getElem? (i := 1) rfl)) (fun _ h => h) rfl dX12_atom_272 ?_
        refine lv_iload_n hx hb dX12_atom_275 rfl (lv_at hl 1 rfl) ?_
        refine z_iald (i := 27) hx hb hK hW rfl (z_ix rfl (by omega) (by omega)) dX12_atom_276 ?_
        refine z_topi (v := va) (by rw [eI20, z_up_n (by decide), fI5 27 a1.toNatClampNeg (z_wr_c (by decide))]; exact eva.symm) ?_
        refine lv_iconst (v := 1) hx hb dX12_atom_277 (by decide) ?_
        refine lv_icmp_ne (tgt := 288) hx hb dX12_atom_278 (by decide) (fun c26 => ?_) (fun c26 => ?_)
        · have g27 := z_f_ne rfl z_l1 c26
          refine lv_aload_n hx hb dX12_atom_288 rfl (lv_at hl 0 rfl) ?_
          refine lv_aload_n hx hb dX12_atom_289 rfl (lv_at hl 0 rfl) ?_
          refine z_get (T := TX12) (N := 96) (ci := 12) (i := 0) (v := .ref (ad 29)) hx hb hts zj_X12_atom_X12 hown hK hW rfl rfl 46 (by decide) (hts (.fieldLink RX12 100 "PetrolBoardModel" "sort" "[I") (List.mem_of_getElem? (i := 6) rfl)) (fun _ h => h) rfl dX12_atom_290 ?_
          refine lv_iload_n hx hb dX12_atom_293 rfl (lv_at hl 1 rfl) ?_
          refine z_iald (i := 29) hx hb hK hW rfl (z_ix rfl (by omega) (by omega)) dX12_atom_294 ?_
          refine z_topi (v := vs) (by rw [eI20, z_up_n (by decide), fI5 29 a1.toNatClampNeg (z_wr_c (by decide))]; exact evs.symm) ?_
          refine lv_aload_n hx hb dX12_atom_295 rfl (lv_at hl 0 rfl) ?_
          refine z_get (T := TX12) (N := 96) (ci := 12) (i := 0) (v := .ref (ad 28)) hx hb hts zj_X12_atom_X12 hown hK hW rfl rfl 45 (by decide) (hts (.fieldLink RX12 97 "PetrolBoardModel" "one" "[I") (List.mem_of_getElem? (i := 9) rfl)) (fun _ h => h) rfl dX12_atom_296 ?_
          refine lv_iload_n hx hb dX12_atom_299 rfl (lv_at hl 1 rfl) ?_
          refine z_iald (i := 28) hx hb hK hW rfl (z_ix rfl (by omega) (by omega)) dX12_atom_300 ?_
          refine z_topi (v := vo) (by rw [eI20, z_up_n (by decide), fI5 28 a1.toNatClampNeg (z_wr_c (by decide))]; exact evo.symm) ?_
          refine lv_aload_n hx hb dX12_atom_301 rfl (lv_at hl 0 rfl) ?_
          have r28 : 0 ≤ (I5 0 40).toInt ∧ (I5 0 40).toInt ≤ 6199 := k10
          refine z_get (T := TX12) (N := 96) (ci := 12) (i := 0) (v := .int (I5 0 40)) hx hb hts zj_X12_atom_X12 hown hK hW rfl rfl 40 (by decide) (hts (.fieldLink RX12 343 "PetrolBoardModel" "got" "I") (List.mem_of_getElem? (i := 10) rfl)) (fun _ h => h) (congrArg Value.int (by rw [eI20, z_up_k (by decide)])) dX12_atom_302 ?_
          refine z_ci hW hS hA (va_runV (As := [.int vs, .int vo, .int (I5 0 40)]) (rest := [.ref (ad 0)]) ⟨hx, hb, hml, hown, hts⟩ (sx_X12_node l G ad I20 J7 (by show 0 ≤ (I20 0 15).toInt ∧ (I20 0 15).toInt ≤ 6100; rw [eI20, z_up_k (by decide)]; exact k11) a22 vs vo (I5 0 40) (by have q0 : (I20 0 15) = (I5 0 15) := by rw [eI20, z_up_k (by decide)]; show (I20 0 15).toInt ≤ 6099; rw [q0]; omega) (by first | omega | decide) (by first | omega | decide) (by first | omega | decide) _) (cwV 3 hts gX12_atom_X12_node rfl rfl rfl (by decide +kernel) ⟨Nat.le_of_ble_eq_true rfl, Nat.le_of_ble_eq_true rfl⟩) (z_preV (i := 0) hK hW rfl rfl) rfl rfl hl.1 rfl (lv_room (Nat.le_of_ble_eq_true rfl)) dX12_atom_305 ⟨Nat.le_of_ble_eq_true rfl, Nat.le_of_ble_eq_true rfl⟩) (fun r u1 H locs hp hW hS => ?_)
          obtain ⟨I29, J31, e9, hI29mn, hI29Nd, fI29, hp⟩ := hp
          rw [e9] at hW
          have f30 := z_fr_sub (L := L_X12_atom) f21 fI29 (by decide)
          have k32 : 0 ≤ (I29 0 31).toInt ∧ (I29 0 31).toInt ≤ 500 := by rw [fI29 0 31 (by decide)]; exact (by show 0 ≤ (I20 0 31).toInt ∧ (I20 0 31).toInt ≤ 500; rw [eI20, z_up_k (by decide)]; exact hI5mp.1)
          have k33 : 0 ≤ (I29 0 33).toInt ∧ (I29 0 33).toInt ≤ 500 := by rw [fI29 0 33 (by decide)]; exact (by show 0 ≤ (I20 0 33).toInt ∧ (I20 0 33).toInt ≤ 500; rw [eI20, z_up_k (by decide)]; exact hI5mp.2.1)
          have k34 : 0 ≤ (I29 0 34).toInt ∧ (I29 0 34).toInt ≤ 500 := by rw [fI29 0 34 (by decide)]; exact (by show 0 ≤ (I20 0 34).toInt ∧ (I20 0 34).toInt ≤ 500; rw [eI20, z_up_k (by decide)]; exact hI5mp.2.2.1)
          have k35 : 0 ≤ (I29 0 35).toInt ∧ (I29 0 35).toInt ≤ 500 := by rw [fI29 0 35 (by decide)]; exact (by show 0 ≤ (I20 0 35).toInt ∧ (I20 0 35).toInt ≤ 500; rw [eI20, z_up_k (by decide)]; exact hI5mp.2.2.2)
          have k36 : 0 ≤ (I29 0 36).toInt ∧ (I29 0 36).toInt ≤ 4 := by rw [fI29 0 36 (by decide)]; exact (by show 0 ≤ (I20 0 36).toInt ∧ (I20 0 36).toInt ≤ 4; rw [eI20, z_up_k (by decide)]; exact hI5mt.1)
          have k37 : 0 ≤ (I29 0 42).toInt ∧ (I29 0 42).toInt ≤ 1 := by rw [fI29 0 42 (by decide)]; exact (by show 0 ≤ (I20 0 42).toInt ∧ (I20 0 42).toInt ≤ 1; rw [eI20, z_up_k (by decide)]; exact hI5mt.2)
          have k38 : 0 ≤ (I29 0 47).toInt ∧ (I29 0 47).toInt ≤ 119 := by rw [fI29 0 47 (by decide)]; exact (by show 0 ≤ (I20 0 47).toInt ∧ (I20 0 47).toInt ≤ 119; rw [eI20, z_up_k (by decide)]; exact k8)
          have k39 : 0 ≤ (I29 0 39).toInt ∧ (I29 0 39).toInt ≤ 100 := by rw [fI29 0 39 (by decide)]; exact (by show 0 ≤ (I20 0 39).toInt ∧ (I20 0 39).toInt ≤ 100; rw [eI20, z_up_s]; omega)
          have k40 : 0 ≤ (I29 0 40).toInt ∧ (I29 0 40).toInt ≤ 6199 := by rw [fI29 0 40 (by decide)]; exact (by show 0 ≤ (I20 0 40).toInt ∧ (I20 0 40).toInt ≤ 6199; rw [eI20, z_up_k (by decide)]; exact k10)
          have k41 : 0 ≤ (I29 0 35).toInt ∧ (I29 0 35).toInt ≤ (I29 0 34).toInt ∧ (I29 0 34).toInt ≤ (I29 0 33).toInt ∧ (I29 0 33).toInt ≤ 500 ∧ ((I29 0 36).toInt = 0 ∨ (I29 0 35).toInt + 1 ≤ (I29 0 34).toInt) := (by have q0 : (I29 0 35) = (I5 0 35) := by rw [fI29 0 35 (by decide), eI20, z_up_k (by decide)]; have q1 : (I29 0 34) = (I5 0 34) := by rw [fI29 0 34 (by decide), eI20, z_up_k (by decide)]; have q2 : (I29 0 33) = (I5 0 33) := by rw [fI29 0 33 (by decide), eI20, z_up_k (by decide)]; have q3 : (I29 0 36) = (I5 0 36) := by rw [fI29 0 36 (by decide), eI20, z_up_k (by decide)]; show 0 ≤ (I29 0 35).toInt ∧ (I29 0 35).toInt ≤ (I29 0 34).toInt ∧ (I29 0 34).toInt ≤ (I29 0 33).toInt ∧ (I29 0 33).toInt ≤ 500 ∧ ((I29 0 36).toInt = 0 ∨ (I29 0 35).toInt + 1 ≤ (I29 0 34).toInt); rw [q0, q1, q2, q3]; first | omega | decide)
          have k42 : (I29 0 35).toInt = (I5 0 35).toInt := by rw [fI29 0 35 (by decide), eI20, z_up_k (by decide)]
          have k43 : (I29 0 34).toInt = (I5 0 34).toInt := by rw [fI29 0 34 (by decide), eI20, z_up_k (by decide)]
          have k44 : (I29 0 36).toInt = (I5 0 36).toInt := by rw [fI29 0 36 (by decide), eI20, z_up_k (by decide)]
          have k45 : (I29 0 42).toInt = (I5 0 42).toInt := by rw [fI29 0 42 (by decide), eI20, z_up_k (by decide)]
          have k46 : (I29 0 47).toInt = (I5 0 47).toInt := by rw [fI29 0 47 (by decide), eI20, z_up_k (by decide)]
          have k47 : (I29 0 39).toInt = x19.toInt := by rw [fI29 0 39 (by decide), eI20, z_up_s]
          have k48 : (I29 0 40).toInt = (I5 0 40).toInt := by rw [fI29 0 40 (by decide), eI20, z_up_k (by decide)]
          refine lv_topi (fun x49 ex49 => ?_)
          rw [← ex49] at hp
          obtain ⟨h50, h51⟩ := hp
          rw [show (I20 0 15) = (I5 0 15) from by rw [eI20, z_up_k (by decide)]] at h50
          rw [show (I20 0 15) = (I5 0 15) from by rw [eI20, z_up_k (by decide)]] at h51
          refine z_cv hW hS hA (va_runV (As := [.int x49]) (rest := []) ⟨hx, hb, hml, hown, hts⟩ (sx_X12_ends l G ad I29 J31 ⟨(by show 0 ≤ (I29 0 47).toInt ∧ (I29 0 47).toInt ≤ 119; exact k38), (by show 0 ≤ (I29 0 39).toInt ∧ (I29 0 39).toInt ≤ 100; exact k39)⟩ (by show 0 ≤ (I29 0 40).toInt ∧ (I29 0 40).toInt ≤ 6199; exact k40) x49 (by first | omega | decide) (by show 1 ≤ (I29 0 47).toInt; omega) _) (cwV 1 hts gX12_atom_X12_ends rfl rfl rfl (by decide +kernel) ⟨Nat.le_of_ble_eq_true rfl, Nat.le_of_ble_eq_true rfl⟩) (z_preV (i := 0) hK hW rfl rfl) rfl rfl hl.1 rfl (lv_room (Nat.le_of_ble_eq_true rfl)) dX12_atom_308 ⟨Nat.le_of_ble_eq_true rfl, Nat.le_of_ble_eq_true rfl⟩) (fun u1 H locs hp hW hS => ?_)
          obtain ⟨I52, J54, e9, hI52md, hI52mg, fI52, hp⟩ := hp
          rw [e9] at hW
          have f53 := z_fr_sub (L := L_X12_atom) f30 fI52 (by decide)
          have k55 : 0 ≤ (I52 0 31).toInt ∧ (I52 0 31).toInt ≤ 500 := by rw [fI52 0 31 (by decide)]; exact (by show 0 ≤ (I29 0 31).toInt ∧ (I29 0 31).toInt ≤ 500; exact k32)
          have k56 : 0 ≤ (I52 0 33).toInt ∧ (I52 0 33).toInt ≤ 500 := by rw [fI52 0 33 (by decide)]; exact (by show 0 ≤ (I29 0 33).toInt ∧ (I29 0 33).toInt ≤ 500; exact k33)
          have k57 : 0 ≤ (I52 0 34).toInt ∧ (I52 0 34).toInt ≤ 500 := by rw [fI52 0 34 (by decide)]; exact (by show 0 ≤ (I29 0 34).toInt ∧ (I29 0 34).toInt ≤ 500; exact k34)
          have k58 : 0 ≤ (I52 0 35).toInt ∧ (I52 0 35).toInt ≤ 500 := by rw [fI52 0 35 (by decide)]; exact (by show 0 ≤ (I29 0 35).toInt ∧ (I29 0 35).toInt ≤ 500; exact k35)
          have k59 : 0 ≤ (I52 0 36).toInt ∧ (I52 0 36).toInt ≤ 4 := by rw [fI52 0 36 (by decide)]; exact (by show 0 ≤ (I29 0 36).toInt ∧ (I29 0 36).toInt ≤ 4; exact k36)
          have k60 : 0 ≤ (I52 0 42).toInt ∧ (I52 0 42).toInt ≤ 1 := by rw [fI52 0 42 (by decide)]; exact (by show 0 ≤ (I29 0 42).toInt ∧ (I29 0 42).toInt ≤ 1; exact k37)
          have k61 : 0 ≤ (I52 0 15).toInt ∧ (I52 0 15).toInt ≤ 6100 := by rw [fI52 0 15 (by decide)]; exact (by show 0 ≤ (I29 0 15).toInt ∧ (I29 0 15).toInt ≤ 6100; exact hI29mn)
          have k62 : 0 ≤ (I52 0 35).toInt ∧ (I52 0 35).toInt ≤ (I52 0 34).toInt ∧ (I52 0 34).toInt ≤ (I52 0 33).toInt ∧ (I52 0 33).toInt ≤ 500 ∧ ((I52 0 36).toInt = 0 ∨ (I52 0 35).toInt + 1 ≤ (I52 0 34).toInt) := (by have q0 : (I52 0 35) = (I29 0 35) := by rw [fI52 0 35 (by decide)]; have q1 : (I52 0 34) = (I29 0 34) := by rw [fI52 0 34 (by decide)]; have q2 : (I52 0 33) = (I29 0 33) := by rw [fI52 0 33 (by decide)]; have q3 : (I52 0 36) = (I29 0 36) := by rw [fI52 0 36 (by decide)]; show 0 ≤ (I52 0 35).toInt ∧ (I52 0 35).toInt ≤ (I52 0 34).toInt ∧ (I52 0 34).toInt ≤ (I52 0 33).toInt ∧ (I52 0 33).toInt ≤ 500 ∧ ((I52 0 36).toInt = 0 ∨ (I52 0 35).toInt + 1 ≤ (I52 0 34).toInt); rw [q0, q1, q2, q3]; first | omega | decide)
          have k63 : (I52 0 35).toInt = (I29 0 35).toInt := by rw [fI52 0 35 (by decide)]
          have k64 : (I52 0 34).toInt = (I29 0 34).toInt := by rw [fI52 0 34 (by decide)]
          have k65 : (I52 0 36).toInt = (I29 0 36).toInt := by rw [fI52 0 36 (by decide)]
          have k66 : (I52 0 42).toInt = (I29 0 42).toInt := by rw [fI52 0 42 (by decide)]
          have k67 : (I52 0 39).toInt = (I29 0 39).toInt := by rw [fI52 0 39 (by decide)]
          have k68 : (I52 0 15).toInt = (I29 0 15).toInt := by rw [fI52 0 15 (by decide)]
          have h69 := hp
          exact z_vret hx hb hr hK hS (Nat.le_of_ble_eq_true rfl) (Nat.le_of_ble_eq_true rfl) hlocks dX12_atom_311 (shM, ad, I52, J54, PM ad) hW ⟨I52, J54, rfl, ⟨(by show 0 ≤ (I52 0 31).toInt ∧ (I52 0 31).toInt ≤ 500; exact k55), (by show 0 ≤ (I52 0 33).toInt ∧ (I52 0 33).toInt ≤ 500; exact k56), (by show 0 ≤ (I52 0 34).toInt ∧ (I52 0 34).toInt ≤ 500; exact k57), (by show 0 ≤ (I52 0 35).toInt ∧ (I52 0 35).toInt ≤ 500; exact k58)⟩, ⟨(by show 0 ≤ (I52 0 36).toInt ∧ (I52 0 36).toInt ≤ 4; exact k59), (by show 0 ≤ (I52 0 42).toInt ∧ (I52 0 42).toInt ≤ 1; exact k60)⟩, ⟨(by show 0 ≤ (I52 0 47).toInt ∧ (I52 0 47).toInt ≤ 119; exact hI52md.1), (by show 0 ≤ (I52 0 39).toInt ∧ (I52 0 39).toInt ≤ 100; exact hI52md.2)⟩, (by show 0 ≤ (I52 0 40).toInt ∧ (I52 0 40).toInt ≤ 6199; exact hI52mg), (by show 0 ≤ (I52 0 15).toInt ∧ (I52 0 15).toInt ≤ 6100; exact k61), (z_Nd_fr hI29Nd fI52 (by decide)), (by show 0 ≤ (I52 0 35).toInt ∧ (I52 0 35).toInt ≤ (I52 0 34).toInt ∧ (I52 0 34).toInt ≤ (I52 0 33).toInt ∧ (I52 0 33).toInt ≤ 500 ∧ ((I52 0 36).toInt = 0 ∨ (I52 0 35).toInt + 1 ≤ (I52 0 34).toInt); first | omega | decide), f53, ((Classical.em ((I52 0 42).toInt = 0)).elim (fun hw9 => Or.inr ⟨a1.toNatClampNeg, by have w1 := z_fw_2n (a := va.toInt) (o := vo.toInt) (by omega); have w2 := z_fo_2y (a := va.toInt) (by omega); exact z_POP (d := a1.toNatClampNeg) hPS (fun i hi => ⟨by rw [fI52 26 i (z_wr_c (by decide)), fI29 26 i (z_wr_c (by decide)), eI20, z_up_n (by decide), fI5 26 i (z_wr_c (by decide))], by rw [fI52 27 i (z_wr_c (by decide)), fI29 27 i (z_wr_c (by decide)), eI20, z_up_n (by decide), fI5 27 i (z_wr_c (by decide))], by rw [fI52 28 i (z_wr_c (by decide)), fI29 28 i (z_wr_c (by decide)), eI20, z_up_n (by decide), fI5 28 i (z_wr_c (by decide))], by rw [fI52 29 i (z_wr_c (by decide)), fI29 29 i (z_wr_c (by decide)), eI20, z_up_n (by decide), fI5 29 i (z_wr_c (by decide))]⟩) (by omega) (by omega) (by omega) (by omega) (by omega) (by omega)⟩) Or.inl)⟩
        · have g70 := z_f_eq rfl z_l1 c26
          refine lv_aload_n hx hb dX12_atom_281 rfl (lv_at hl 0 rfl) ?_
          have r71 : 0 ≤ (I5 0 40).toInt ∧ (I5 0 40).toInt ≤ 6199 := k10
          refine z_get (T := TX12) (N := 96) (ci := 12) (i := 0) (v := .int (I5 0 40)) hx hb hts zj_X12_atom_X12 hown hK hW rfl rfl 40 (by decide) (hts (.fieldLink RX12 343 "PetrolBoardModel" "got" "I") (List.mem_of_getElem? (i := 10) rfl)) (fun _ h => h) (congrArg Value.int (by rw [eI20, z_up_k (by decide)])) dX12_atom_282 ?_
          refine lv_goto (tgt := 308) hx hb dX12_atom_285 (by decide) ?_
          refine z_cv hW hS hA (va_runV (As := [.int (I5 0 40)]) (rest := []) ⟨hx, hb, hml, hown, hts⟩ (sx_X12_ends l G ad I20 J7 ⟨(by show 0 ≤ (I20 0 47).toInt ∧ (I20 0 47).toInt ≤ 119; rw [eI20, z_up_k (by decide)]; exact k8), (by show 0 ≤ (I20 0 39).toInt ∧ (I20 0 39).toInt ≤ 100; rw [eI20, z_up_s]; omega)⟩ (by show 0 ≤ (I20 0 40).toInt ∧ (I20 0 40).toInt ≤ 6199; rw [eI20, z_up_k (by decide)]; exact k10) (I5 0 40) (by first | omega | decide) (by have q0 : (I20 0 47) = (I5 0 47) := by rw [eI20, z_up_k (by decide)]; show 1 ≤ (I20 0 47).toInt; rw [q0]; omega) _) (cwV 1 hts gX12_atom_X12_ends rfl rfl rfl (by decide +kernel) ⟨Nat.le_of_ble_eq_true rfl, Nat.le_of_ble_eq_true rfl⟩) (z_preV (i := 0) hK hW rfl rfl) rfl rfl hl.1 rfl (lv_room (Nat.le_of_ble_eq_true rfl)) dX12_atom_308 ⟨Nat.le_of_ble_eq_true rfl, Nat.le_of_ble_eq_true rfl⟩) (fun u1 H locs hp hW hS => ?_)
          obtain ⟨I72, J74, e9, hI72md, hI72mg, fI72, hp⟩ := hp
          rw [e9] at hW
          have f73 := z_fr_sub (L := L_X12_atom) f21 fI72 (by decide)
          have k75 : 0 ≤ (I72 0 31).toInt ∧ (I72 0 31).toInt ≤ 500 := by rw [fI72 0 31 (by decide)]; exact (by show 0 ≤ (I20 0 31).toInt ∧ (I20 0 31).toInt ≤ 500; rw [eI20, z_up_k (by decide)]; exact hI5mp.1)
          have k76 : 0 ≤ (I72 0 33).toInt ∧ (I72 0 33).toInt ≤ 500 := by rw [fI72 0 33 (by decide)]; exact (by show 0 ≤ (I20 0 33).toInt ∧ (I20 0 33).toInt ≤ 500; rw [eI20, z_up_k (by decide)]; exact hI5mp.2.1)
          have k77 : 0 ≤ (I72 0 34).toInt ∧ (I72 0 34).toInt ≤ 500 := by rw [fI72 0 34 (by decide)]; exact (by show 0 ≤ (I20 0 34).toInt ∧ (I20 0 34).toInt ≤ 500; rw [eI20, z_up_k (by decide)]; exact hI5mp.2.2.1)
          have k78 : 0 ≤ (I72 0 35).toInt ∧ (I72 0 35).toInt ≤ 500 := by rw [fI72 0 35 (by decide)]; exact (by show 0 ≤ (I20 0 35).toInt ∧ (I20 0 35).toInt ≤ 500; rw [eI20, z_up_k (by decide)]; exact hI5mp.2.2.2)
          have k79 : 0 ≤ (I72 0 36).toInt ∧ (I72 0 36).toInt ≤ 4 := by rw [fI72 0 36 (by decide)]; exact (by show 0 ≤ (I20 0 36).toInt ∧ (I20 0 36).toInt ≤ 4; rw [eI20, z_up_k (by decide)]; exact hI5mt.1)
          have k80 : 0 ≤ (I72 0 42).toInt ∧ (I72 0 42).toInt ≤ 1 := by rw [fI72 0 42 (by decide)]; exact (by show 0 ≤ (I20 0 42).toInt ∧ (I20 0 42).toInt ≤ 1; rw [eI20, z_up_k (by decide)]; exact hI5mt.2)
          have k81 : (I72 0 39).toInt = x19.toInt := by rw [fI72 0 39 (by decide), eI20, z_up_s]
          have k82 : 0 ≤ (I72 0 15).toInt ∧ (I72 0 15).toInt ≤ 6100 := by rw [fI72 0 15 (by decide)]; exact (by show 0 ≤ (I20 0 15).toInt ∧ (I20 0 15).toInt ≤ 6100; rw [eI20, z_up_k (by decide)]; exact k11)
          have k83 : 0 ≤ (I72 0 35).toInt ∧ (I72 0 35).toInt ≤ (I72 0 34).toInt ∧ (I72 0 34).toInt ≤ (I72 0 33).toInt ∧ (I72 0 33).toInt ≤ 500 ∧ ((I72 0 36).toInt = 0 ∨ (I72 0 35).toInt + 1 ≤ (I72 0 34).toInt) := (by have q0 : (I72 0 35) = (I5 0 35) := by rw [fI72 0 35 (by decide), eI20, z_up_k (by decide)]; have q1 : (I72 0 34) = (I5 0 34) := by rw [fI72 0 34 (by decide), eI20, z_up_k (by decide)]; have q2 : (I72 0 33) = (I5 0 33) := by rw [fI72 0 33 (by decide), eI20, z_up_k (by decide)]; have q3 : (I72 0 36) = (I5 0 36) := by rw [fI72 0 36 (by decide), eI20, z_up_k (by decide)]; show 0 ≤ (I72 0 35).toInt ∧ (I72 0 35).toInt ≤ (I72 0 34).toInt ∧ (I72 0 34).toInt ≤ (I72 0 33).toInt ∧ (I72 0 33).toInt ≤ 500 ∧ ((I72 0 36).toInt = 0 ∨ (I72 0 35).toInt + 1 ≤ (I72 0 34).toInt); rw [q0, q1, q2, q3]; first | omega | decide)
          have k84 : (I72 0 35).toInt = (I5 0 35).toInt := by rw [fI72 0 35 (by decide), eI20, z_up_k (by decide)]
          have k85 : (I72 0 34).toInt = (I5 0 34).toInt := by rw [fI72 0 34 (by decide), eI20, z_up_k (by decide)]
          have k86 : (I72 0 36).toInt = (I5 0 36).toInt := by rw [fI72 0 36 (by decide), eI20, z_up_k (by decide)]
          have k87 : (I72 0 42).toInt = (I5 0 42).toInt := by rw [fI72 0 42 (by decide), eI20, z_up_k (by decide)]
          have k88 : (I72 0 39).toInt = x19.toInt := by rw [fI72 0 39 (by decide), eI20, z_up_s]
          have k89 : (I72 0 15).toInt = (I5 0 15).toInt := by rw [fI72 0 15 (by decide), eI20, z_up_k (by decide)]
          have h90 := hp
          rw [show (I20 0 47) = (I5 0 47) from by rw [eI20, z_up_k (by decide)]] at h90
          exact z_vret hx hb hr hK hS (Nat.le_of_ble_eq_true rfl) (Nat.le_of_ble_eq_true rfl) hlocks dX12_atom_311 (shM, ad, I72, J74, PM ad) hW ⟨I72, J74, rfl, ⟨(by show 0 ≤ (I72 0 31).toInt ∧ (I72 0 31).toInt ≤ 500; exact k75), (by show 0 ≤ (I72 0 33).toInt ∧ (I72 0 33).toInt ≤ 500; exact k76), (by show 0 ≤ (I72 0 34).toInt ∧ (I72 0 34).toInt ≤ 500; exact k77), (by show 0 ≤ (I72 0 35).toInt ∧ (I72 0 35).toInt ≤ 500; exact k78)⟩, ⟨(by show 0 ≤ (I72 0 36).toInt ∧ (I72 0 36).toInt ≤ 4; exact k79), (by show 0 ≤ (I72 0 42).toInt ∧ (I72 0 42).toInt ≤ 1; exact k80)⟩, ⟨(by show 0 ≤ (I72 0 47).toInt ∧ (I72 0 47).toInt ≤ 119; exact hI72md.1), (by show 0 ≤ (I72 0 39).toInt ∧ (I72 0 39).toInt ≤ 100; exact hI72md.2)⟩, (by show 0 ≤ (I72 0 40).toInt ∧ (I72 0 40).toInt ≤ 6199; exact hI72mg), (by show 0 ≤ (I72 0 15).toInt ∧ (I72 0 15).toInt ≤ 6100; exact k82), (z_Nd_fr a22 fI72 (by decide)), (by show 0 ≤ (I72 0 35).toInt ∧ (I72 0 35).toInt ≤ (I72 0 34).toInt ∧ (I72 0 34).toInt ≤ (I72 0 33).toInt ∧ (I72 0 33).toInt ≤ 500 ∧ ((I72 0 36).toInt = 0 ∨ (I72 0 35).toInt + 1 ≤ (I72 0 34).toInt); first | omega | decide), f73, ((Classical.em ((I72 0 42).toInt = 0)).elim (fun hw9 => Or.inr ⟨a1.toNatClampNeg, by have w1 := z_fw_2n (a := va.toInt) (o := vo.toInt) (by omega); have w2 := z_fo_2y (a := va.toInt) (by omega); exact z_POP (d := a1.toNatClampNeg) hPS (fun i hi => ⟨by rw [fI72 26 i (z_wr_c (by decide)), eI20, z_up_n (by decide), fI5 26 i (z_wr_c (by decide))], by rw [fI72 27 i (z_wr_c (by decide)), eI20, z_up_n (by decide), fI5 27 i (z_wr_c (by decide))], by rw [fI72 28 i (z_wr_c (by decide)), eI20, z_up_n (by decide), fI5 28 i (z_wr_c (by decide))], by rw [fI72 29 i (z_wr_c (by decide)), eI20, z_up_n (by decide), fI5 29 i (z_wr_c (by decide))]⟩) (by omega) (by omega) (by omega) (by omega) (by omega) (by omega)⟩) Or.inl)⟩
      · have g91 := z_f_ne rfl z_l0 c24
        exact z_vret hx hb hr hK hS (Nat.le_of_ble_eq_true rfl) (Nat.le_of_ble_eq_true rfl) hlocks dX12_atom_269 (shM, ad, I20, J7, PM ad) hW ⟨I20, J7, rfl, ⟨(by show 0 ≤ (I20 0 31).toInt ∧ (I20 0 31).toInt ≤ 500; rw [eI20, z_up_k (by decide)]; exact hI5mp.1), (by show 0 ≤ (I20 0 33).toInt ∧ (I20 0 33).toInt ≤ 500; rw [eI20, z_up_k (by decide)]; exact hI5mp.2.1), (by show 0 ≤ (I20 0 34).toInt ∧ (I20 0 34).toInt ≤ 500; rw [eI20, z_up_k (by decide)]; exact hI5mp.2.2.1), (by show 0 ≤ (I20 0 35).toInt ∧ (I20 0 35).toInt ≤ 500; rw [eI20, z_up_k (by decide)]; exact hI5mp.2.2.2)⟩, ⟨(by show 0 ≤ (I20 0 36).toInt ∧ (I20 0 36).toInt ≤ 4; rw [eI20, z_up_k (by decide)]; exact hI5mt.1), (by show 0 ≤ (I20 0 42).toInt ∧ (I20 0 42).toInt ≤ 1; rw [eI20, z_up_k (by decide)]; exact hI5mt.2)⟩, ⟨(by show 0 ≤ (I20 0 47).toInt ∧ (I20 0 47).toInt ≤ 119; rw [eI20, z_up_k (by decide)]; exact k8), (by show 0 ≤ (I20 0 39).toInt ∧ (I20 0 39).toInt ≤ 100; rw [eI20, z_up_s]; omega)⟩, (by show 0 ≤ (I20 0 40).toInt ∧ (I20 0 40).toInt ≤ 6199; rw [eI20, z_up_k (by decide)]; exact k10), (by show 0 ≤ (I20 0 15).toInt ∧ (I20 0 15).toInt ≤ 6100; rw [eI20, z_up_k (by decide)]; exact k11), a22, (by have q0 : (I20 0 35) = (I5 0 35) := by rw [eI20, z_up_k (by decide)]; have q1 : (I20 0 34) = (I5 0 34) := by rw [eI20, z_up_k (by decide)]; have q2 : (I20 0 33) = (I5 0 33) := by rw [eI20, z_up_k (by decide)]; have q3 : (I20 0 36) = (I5 0 36) := by rw [eI20, z_up_k (by decide)]; show 0 ≤ (I20 0 35).toInt ∧ (I20 0 35).toInt ≤ (I20 0 34).toInt ∧ (I20 0 34).toInt ≤ (I20 0 33).toInt ∧ (I20 0 33).toInt ≤ 500 ∧ ((I20 0 36).toInt = 0 ∨ (I20 0 35).toInt + 1 ≤ (I20 0 34).toInt); rw [q0, q1, q2, q3]; first | omega | decide), f21, (Or.inl (by have q0 : (I20 0 42) = (I5 0 42) := by rw [eI20, z_up_k (by decide)]; show ¬ (I20 0 42).toInt = 0; rw [q0]; omega))⟩
    · have g92 := z_f_eq rfl z_l2 c3
      refine lv_aload_n hx hb dX12_atom_208 rfl (lv_at hl 0 rfl) ?_
      refine z_get (T := TX12) (N := 96) (ci := 12) (i := 0) (v := .ref (ad 28)) hx hb hts zj_X12_atom_X12 hown hK hW rfl rfl 45 (by decide) (hts (.fieldLink RX12 97 "PetrolBoardModel" "one" "[I") (List.mem_of_getElem? (i := 9) rfl)) (fun _ h => h) rfl dX12_atom_209 ?_
      refine lv_iload_n hx hb dX12_atom_212 rfl (lv_at hl 1 rfl) ?_
      refine lv_aload_n hx hb dX12_atom_213 rfl (lv_at hl 0 rfl) ?_
      have r93 : 0 ≤ (I 0 40).toInt ∧ (I 0 40).toInt ≤ 6199 := hmg
      refine z_get (T := TX12) (N := 96) (ci := 12) (i := 0) (v := .int (I 0 40)) hx hb hts zj_X12_atom_X12 hown hK hW rfl rfl 40 (by decide) (hts (.fieldLink RX12 343 "PetrolBoardModel" "got" "I") (List.mem_of_getElem? (i := 10) rfl)) (fun _ h => h) rfl dX12_atom_214 ?_
      refine z_iast (i := 28) hx hb hK hW hS rfl (z_ix rfl (by omega) (by omega)) dX12_atom_217 (fun H locs hz1 hW hS => ?_)
      obtain ⟨I94, eI94⟩ : ∃ K : z_I, K = z_up I 28 a1.toNatClampNeg (I 0 40) := ⟨_, rfl⟩
      rw [← eI94] at hW
      have f95 := z_fr_a z_fr_0 (show z_wa L_X12_atom 28 = true by decide) eI94
      have a96 := z_Nd_n hNd (by decide) eI94
      refine lv_aload_n hx hb dX12_atom_218 rfl (lv_at hl 0 rfl) ?_
      refine lv_bipush (v := 44) hx hb dX12_atom_219 (by decide) ?_
      refine z_cv hW hS hA (va_runV (As := [.int 44]) (rest := []) ⟨hx, hb, hml, hown, hts⟩ (sx_X12_must l G ad I94 J ⟨(by show 0 ≤ (I94 0 31).toInt ∧ (I94 0 31).toInt ≤ 500; rw [eI94, z_up_n (by decide)]; exact hmp.1), (by show 0 ≤ (I94 0 33).toInt ∧ (I94 0 33).toInt ≤ 500; rw [eI94, z_up_n (by decide)]; exact hmp.2.1), (by show 0 ≤ (I94 0 34).toInt ∧ (I94 0 34).toInt ≤ 500; rw [eI94, z_up_n (by decide)]; exact hmp.2.2.1), (by show 0 ≤ (I94 0 35).toInt ∧ (I94 0 35).toInt ≤ 500; rw [eI94, z_up_n (by decide)]; exact hmp.2.2.2)⟩ ⟨(by show 0 ≤ (I94 0 36).toInt ∧ (I94 0 36).toInt ≤ 4; rw [eI94, z_up_n (by decide)]; exact hmt.1), (by show 0 ≤ (I94 0 42).toInt ∧ (I94 0 42).toInt ≤ 1; rw [eI94, z_up_n (by decide)]; exact hmt.2)⟩ (by have q0 : (I94 0 35) = (I 0 35) := by rw [eI94, z_up_n (by decide)]; have q1 : (I94 0 34) = (I 0 34) := by rw [eI94, z_up_n (by decide)]; have q2 : (I94 0 33) = (I 0 33) := by rw [eI94, z_up_n (by decide)]; have q3 : (I94 0 36) = (I 0 36) := by rw [eI94, z_up_n (by decide)]; show 0 ≤ (I94 0 35).toInt ∧ (I94 0 35).toInt ≤ (I94 0 34).toInt ∧ (I94 0 34).toInt ≤ (I94 0 33).toInt ∧ (I94 0 33).toInt ≤ 500 ∧ ((I94 0 36).toInt = 0 ∨ (I94 0 35).toInt + 1 ≤ (I94 0 34).toInt); rw [q0, q1, q2, q3]; first | omega | decide) 44 _) (cwV 1 hts gX12_atom_X12_must rfl rfl rfl (by decide +kernel) ⟨Nat.le_of_ble_eq_true rfl, Nat.le_of_ble_eq_true rfl⟩) (z_preV (i := 0) hK hW rfl rfl) rfl rfl hl.1 rfl (lv_room (Nat.le_of_ble_eq_true rfl)) dX12_atom_221 ⟨Nat.le_of_ble_eq_true rfl, Nat.le_of_ble_eq_true rfl⟩) (fun u1 H locs hp hW hS => ?_)
      obtain ⟨I97, J99, e9, hI97mp, hI97mt, hI97rp, fI97, hp⟩ := hp
      rw [e9] at hW
      have f98 := z_fr_sub (L := L_X12_atom) f95 fI97 (by decide)
      have k100 : 0 ≤ (I97 0 47).toInt ∧ (I97 0 47).toInt ≤ 119 := by rw [fI97 0 47 (by decide)]; exact (by show 0 ≤ (I94 0 47).toInt ∧ (I94 0 47).toInt ≤ 119; rw [eI94, z_up_n (by decide)]; exact hmd.1)
      have k101 : 0 ≤ (I97 0 39).toInt ∧ (I97 0 39).toInt ≤ 100 := by rw [fI97 0 39 (by decide)]; exact (by show 0 ≤ (I94 0 39).toInt ∧ (I94 0 39).toInt ≤ 100; rw [eI94, z_up_n (by decide)]; exact hmd.2)
      have k102 : 0 ≤ (I97 0 40).toInt ∧ (I97 0 40).toInt ≤ 6199 := by rw [fI97 0 40 (by decide)]; exact (by show 0 ≤ (I94 0 40).toInt ∧ (I94 0 40).toInt ≤ 6199; rw [eI94, z_up_n (by decide)]; exact hmg)
      have k103 : 0 ≤ (I97 0 15).toInt ∧ (I97 0 15).toInt ≤ 6100 := by rw [fI97 0 15 (by decide)]; exact (by show 0 ≤ (I94 0 15).toInt ∧ (I94 0 15).toInt ≤ 6100; rw [eI94, z_up_n (by decide)]; exact hmn)
      have k104 : 0 ≤ (I97 0 35).toInt ∧ (I97 0 35).toInt ≤ (I97 0 34).toInt ∧ (I97 0 34).toInt ≤ (I97 0 33).toInt ∧ (I97 0 33).toInt ≤ 500 ∧ ((I97 0 36).toInt = 0 ∨ (I97 0 35).toInt + 1 ≤ (I97 0 34).toInt) := hI97rp
      have k105 : (I97 0 47).toInt = (I 0 47).toInt := by rw [fI97 0 47 (by decide), eI94, z_up_n (by decide)]
      have k106 : (I97 0 39).toInt = (I 0 39).toInt := by rw [fI97 0 39 (by decide), eI94, z_up_n (by decide)]
      have k107 : (I97 0 15).toInt = (I 0 15).toInt := by rw [fI97 0 15 (by decide), eI94, z_up_n (by decide)]
      have k108 : (I97 0 40).toInt = (I 0 40).toInt := by rw [fI97 0 40 (by decide), eI94, z_up_n (by decide)]
      have h109 := hp
      rw [show (I94 0 35) = (I 0 35) from by rw [eI94, z_up_n (by decide)]] at h109
      refine lv_aload_n hx hb dX12_atom_224 rfl (lv_at hl 0 rfl) ?_
      refine z_get (T := TX12) (N := 96) (ci := 12) (i := 0) (v := .ref (ad 27)) hx hb hts zj_X12_atom_X12 hown hK hW rfl rfl 44 (by decide) (hts (.fieldLink RX12 94 "PetrolBoardModel" "at" "[I") (List.mem_of_getElem? (i := 1) rfl)) (fun _ h => h) rfl dX12_atom_225 ?_
      refine lv_iload_n hx hb dX12_atom_228 rfl (lv_at hl 1 rfl) ?_
      refine lv_iconst (v := 3) hx hb dX12_atom_229 (by decide) ?_
      refine z_iast (i := 27) hx hb hK hW hS rfl (z_ix rfl (by omega) (by omega)) dX12_atom_230 (fun H locs hz1 hW hS => ?_)
      obtain ⟨I110, eI110⟩ : ∃ K : z_I, K = z_up I97 27 a1.toNatClampNeg 3 := ⟨_, rfl⟩
      rw [← eI110] at hW
      have f111 := z_fr_a f98 (show z_wa L_X12_atom 27 = true by decide) eI110
      have a112 := z_Nd_n (z_Nd_fr a96 fI97 (by decide)) (by decide) eI110
      refine lv_aload_n hx hb dX12_atom_231 rfl (lv_at hl 0 rfl) ?_
      have r113 : 0 ≤ (I97 0 42).toInt ∧ (I97 0 42).toInt ≤ 1 := hI97mt.2
      refine z_get (T := TX12) (N := 96) (ci := 12) (i := 0) (v := .int (I97 0 42)) hx hb hts zj_X12_atom_X12 hown hK hW rfl rfl 42 (by decide) (hts (.fieldLink RX12 294 "PetrolBoardModel" "isWrong" "Z") (List.mem_of_getElem? (i := 7) rfl)) (fun _ h => h) (congrArg Value.int (by rw [eI110, z_up_n (by decide)])) dX12_atom_232 ?_
      refine lv_if_ne (tgt := 311) hx hb dX12_atom_235 (by decide) (fun c114 => ?_) (fun c114 => ?_)
      · have g115 := z_f_ne rfl z_l0 c114
        exact z_vret hx hb hr hK hS (Nat.le_of_ble_eq_true rfl) (Nat.le_of_ble_eq_true rfl) hlocks dX12_atom_311 (shM, ad, I110, J99, PM ad) hW ⟨I110, J99, rfl, ⟨(by show 0 ≤ (I110 0 31).toInt ∧ (I110 0 31).toInt ≤ 500; rw [eI110, z_up_n (by decide)]; exact hI97mp.1), (by show 0 ≤ (I110 0 33).toInt ∧ (I110 0 33).toInt ≤ 500; rw [eI110, z_up_n (by decide)]; exact hI97mp.2.1), (by show 0 ≤ (I110 0 34).toInt ∧ (I110 0 34).toInt ≤ 500; rw [eI110, z_up_n (by decide)]; exact hI97mp.2.2.1), (by show 0 ≤ (I110 0 35).toInt ∧ (I110 0 35).toInt ≤ 500; rw [eI110, z_up_n (by decide)]; exact hI97mp.2.2.2)⟩, ⟨(by show 0 ≤ (I110 0 36).toInt ∧ (I110 0 36).toInt ≤ 4; rw [eI110, z_up_n (by decide)]; exact hI97mt.1), (by show 0 ≤ (I110 0 42).toInt ∧ (I110 0 42).toInt ≤ 1; rw [eI110, z_up_n (by decide)]; exact hI97mt.2)⟩, ⟨(by show 0 ≤ (I110 0 47).toInt ∧ (I110 0 47).toInt ≤ 119; rw [eI110, z_up_n (by decide)]; exact k100), (by show 0 ≤ (I110 0 39).toInt ∧ (I110 0 39).toInt ≤ 100; rw [eI110, z_up_n (by decide)]; exact k101)⟩, (by show 0 ≤ (I110 0 40).toInt ∧ (I110 0 40).toInt ≤ 6199; rw [eI110, z_up_n (by decide)]; exact k102), (by show 0 ≤ (I110 0 15).toInt ∧ (I110 0 15).toInt ≤ 6100; rw [eI110, z_up_n (by decide)]; exact k103), a112, (by have q0 : (I110 0 35) = (I97 0 35) := by rw [eI110, z_up_n (by decide)]; have q1 : (I110 0 34) = (I97 0 34) := by rw [eI110, z_up_n (by decide)]; have q2 : (I110 0 33) = (I97 0 33) := by rw [eI110, z_up_n (by decide)]; have q3 : (I110 0 36) = (I97 0 36) := by rw [eI110, z_up_n (by decide)]; show 0 ≤ (I110 0 35).toInt ∧ (I110 0 35).toInt ≤ (I110 0 34).toInt ∧ (I110 0 34).toInt ≤ (I110 0 33).toInt ∧ (I110 0 33).toInt ≤ 500 ∧ ((I110 0 36).toInt = 0 ∨ (I110 0 35).toInt + 1 ≤ (I110 0 34).toInt); rw [q0, q1, q2, q3]; first | omega | decide), f111, (Or.inl (by have q0 : (I110 0 42) = (I97 0 42) := by rw [eI110, z_up_n (by decide)]; show ¬ (I110 0 42).toInt = 0; rw [q0]; omega))⟩
      · have g116 := z_f_eq rfl z_l0 c114
        refine lv_aload_n hx hb dX12_atom_238 rfl (lv_at hl 0 rfl) ?_
        refine lv_iconst (v := 0) hx hb dX12_atom_239 (by decide) ?_
        refine z_cv hW hS hA (va_runV (As := [.int 0]) (rest := []) ⟨hx, hb, hml, hown, hts⟩ (sx_X12_begin l G ad I110 J99 ⟨(by show 0 ≤ (I110 0 47).toInt ∧ (I110 0 47).toInt ≤ 119; rw [eI110, z_up_n (by decide)]; exact k100), (by show 0 ≤ (I110 0 39).toInt ∧ (I110 0 39).toInt ≤ 100; rw [eI110, z_up_n (by decide)]; exact k101)⟩ 0 (by have q0 : (I110 0 47) = (I97 0 47) := by rw [eI110, z_up_n (by decide)]; show (I110 0 47).toInt ≤ 118; rw [q0]; omega) _) (cwV 1 hts gX12_atom_X12_begin rfl rfl rfl (by decide +kernel) ⟨Nat.le_of_ble_eq_true rfl, Nat.le_of_ble_eq_true rfl⟩) (z_preV (i := 0) hK hW rfl rfl) rfl rfl hl.1 rfl (lv_room (Nat.le_of_ble_eq_true rfl)) dX12_atom_240 ⟨Nat.le_of_ble_eq_true rfl, Nat.le_of_ble_eq_true rfl⟩) (fun u1 H locs hp hW hS => ?_)
        obtain ⟨I117, J119, e9, hI117md, fI117, hp⟩ := hp
        rw [e9] at hW
        have f118 := z_fr_sub (L := L_X12_atom) f111 fI117 (by decide)
        have k120 : 0 ≤ (I117 0 31).toInt ∧ (I117 0 31).toInt ≤ 500 := by rw [fI117 0 31 (by decide)]; exact (by show 0 ≤ (I110 0 31).toInt ∧ (I110 0 31).toInt ≤ 500; rw [eI110, z_up_n (by decide)]; exact hI97mp.1)
        have k121 : 0 ≤ (I117 0 33).toInt ∧ (I117 0 33).toInt ≤ 500 := by rw [fI117 0 33 (by decide)]; exact (by show 0 ≤ (I110 0 33).toInt ∧ (I110 0 33).toInt ≤ 500; rw [eI110, z_up_n (by decide)]; exact hI97mp.2.1)
        have k122 : 0 ≤ (I117 0 34).toInt ∧ (I117 0 34).toInt ≤ 500 := by rw [fI117 0 34 (by decide)]; exact (by show 0 ≤ (I110 0 34).toInt ∧ (I110 0 34).toInt ≤ 500; rw [eI110, z_up_n (by decide)]; exact hI97mp.2.2.1)
        have k123 : 0 ≤ (I117 0 35).toInt ∧ (I117 0 35).toInt ≤ 500 := by rw [fI117 0 35 (by decide)]; exact (by show 0 ≤ (I110 0 35).toInt ∧ (I110 0 35).toInt ≤ 500; rw [eI110, z_up_n (by decide)]; exact hI97mp.2.2.2)
        have k124 : 0 ≤ (I117 0 36).toInt ∧ (I117 0 36).toInt ≤ 4 := by rw [fI117 0 36 (by decide)]; exact (by show 0 ≤ (I110 0 36).toInt ∧ (I110 0 36).toInt ≤ 4; rw [eI110, z_up_n (by decide)]; exact hI97mt.1)
        have k125 : 0 ≤ (I117 0 42).toInt ∧ (I117 0 42).toInt ≤ 1 := by rw [fI117 0 42 (by decide)]; exact (by show 0 ≤ (I110 0 42).toInt ∧ (I110 0 42).toInt ≤ 1; rw [eI110, z_up_n (by decide)]; exact hI97mt.2)
        have k126 : 0 ≤ (I117 0 40).toInt ∧ (I117 0 40).toInt ≤ 6199 := by rw [fI117 0 40 (by decide)]; exact (by show 0 ≤ (I110 0 40).toInt ∧ (I110 0 40).toInt ≤ 6199; rw [eI110, z_up_n (by decide)]; exact k102)
        have k127 : 0 ≤ (I117 0 15).toInt ∧ (I117 0 15).toInt ≤ 6100 := by rw [fI117 0 15 (by decide)]; exact (by show 0 ≤ (I110 0 15).toInt ∧ (I110 0 15).toInt ≤ 6100; rw [eI110, z_up_n (by decide)]; exact k103)
        have k128 : 0 ≤ (I117 0 35).toInt ∧ (I117 0 35).toInt ≤ (I117 0 34).toInt ∧ (I117 0 34).toInt ≤ (I117 0 33).toInt ∧ (I117 0 33).toInt ≤ 500 ∧ ((I117 0 36).toInt = 0 ∨ (I117 0 35).toInt + 1 ≤ (I117 0 34).toInt) := (by have q0 : (I117 0 35) = (I97 0 35) := by rw [fI117 0 35 (by decide), eI110, z_up_n (by decide)]; have q1 : (I117 0 34) = (I97 0 34) := by rw [fI117 0 34 (by decide), eI110, z_up_n (by decide)]; have q2 : (I117 0 33) = (I97 0 33) := by rw [fI117 0 33 (by decide), eI110, z_up_n (by decide)]; have q3 : (I117 0 36) = (I97 0 36) := by rw [fI117 0 36 (by decide), eI110, z_up_n (by decide)]; show 0 ≤ (I117 0 35).toInt ∧ (I117 0 35).toInt ≤ (I117 0 34).toInt ∧ (I117 0 34).toInt ≤ (I117 0 33).toInt ∧ (I117 0 33).toInt ≤ 500 ∧ ((I117 0 36).toInt = 0 ∨ (I117 0 35).toInt + 1 ≤ (I117 0 34).toInt); rw [q0, q1, q2, q3]; first | omega | decide)
        have k129 : (I117 0 35).toInt = (I97 0 35).toInt := by rw [fI117 0 35 (by decide), eI110, z_up_n (by decide)]
        have k130 : (I117 0 34).toInt = (I97 0 34).toInt := by rw [fI117 0 34 (by decide), eI110, z_up_n (by decide)]
        have k131 : (I117 0 36).toInt = (I97 0 36).toInt := by rw [fI117 0 36 (by decide), eI110, z_up_n (by decide)]
        have k132 : (I117 0 42).toInt = (I97 0 42).toInt := by rw [fI117 0 42 (by decide), eI110, z_up_n (by decide)]
        have k133 : (I117 0 39).toInt = (I97 0 39).toInt := by rw [fI117 0 39 (by decide), eI110, z_up_n (by decide)]
        have k134 : (I117 0 15).toInt = (I97 0 15).toInt := by rw [fI117 0 15 (by decide), eI110, z_up_n (by decide)]
        have k135 : (I117 0 40).toInt = (I97 0 40).toInt := by rw [fI117 0 40 (by decide), eI110, z_up_n (by decide)]
        have h136 := hp
        refine lv_goto (tgt := 311) hx hb dX12_atom_243 (by decide) ?_
        exact z_vret hx hb hr hK hS (Nat.le_of_ble_eq_true rfl) (Nat.le_of_ble_eq_true rfl) hlocks dX12_atom_311 (shM, ad, I117, J119, PM ad) hW ⟨I117, J119, rfl, ⟨(by show 0 ≤ (I117 0 31).toInt ∧ (I117 0 31).toInt ≤ 500; exact k120), (by show 0 ≤ (I117 0 33).toInt ∧ (I117 0 33).toInt ≤ 500; exact k121), (by show 0 ≤ (I117 0 34).toInt ∧ (I117 0 34).toInt ≤ 500; exact k122), (by show 0 ≤ (I117 0 35).toInt ∧ (I117 0 35).toInt ≤ 500; exact k123)⟩, ⟨(by show 0 ≤ (I117 0 36).toInt ∧ (I117 0 36).toInt ≤ 4; exact k124), (by show 0 ≤ (I117 0 42).toInt ∧ (I117 0 42).toInt ≤ 1; exact k125)⟩, ⟨(by show 0 ≤ (I117 0 47).toInt ∧ (I117 0 47).toInt ≤ 119; exact hI117md.1), (by show 0 ≤ (I117 0 39).toInt ∧ (I117 0 39).toInt ≤ 100; exact hI117md.2)⟩, (by show 0 ≤ (I117 0 40).toInt ∧ (I117 0 40).toInt ≤ 6199; exact k126), (by show 0 ≤ (I117 0 15).toInt ∧ (I117 0 15).toInt ≤ 6100; exact k127), (z_Nd_fr a112 fI117 (by decide)), (by show 0 ≤ (I117 0 35).toInt ∧ (I117 0 35).toInt ≤ (I117 0 34).toInt ∧ (I117 0 34).toInt ≤ (I117 0 33).toInt ∧ (I117 0 33).toInt ≤ 500 ∧ ((I117 0 36).toInt = 0 ∨ (I117 0 35).toInt + 1 ≤ (I117 0 34).toInt); first | omega | decide), f118, ((Classical.em ((I117 0 42).toInt = 0)).elim (fun hw9 => Or.inr ⟨a1.toNatClampNeg + 2, by have w1 := z_fw_2n (a := va.toInt) (o := vo.toInt) (by omega); have w2 := z_fo_2y (a := va.toInt) (by omega); have w3 := z_fw_2n (a := 3) (o := (I 0 40).toInt) (by omega); have w4 := z_fo_2y (a := 3) (by omega); have w5 := z_fw_00 (a := 0) (o := -1) (by omega); have w6 := z_rk_2; have w7 := z_rk_0; exact z_PUSH (d := a1.toNatClampNeg) (w := 2) (a := 3) (o := (I 0 40).toInt) (s := vs.toInt) (wi := 0) hPS (fun i hi => ⟨by rw [eI110, z_up_n (by decide), fI97 26 i (z_wr_c (by decide)), eI94, z_up_n (by decide)], by rw [eI110, z_up_k (by omega), fI97 27 i (z_wr_c (by decide)), eI94, z_up_n (by decide)], by rw [eI110, z_up_n (by decide), fI97 28 i (z_wr_c (by decide)), eI94, z_up_k (by omega)], by rw [eI110, z_up_n (by decide), fI97 29 i (z_wr_c (by decide)), eI94, z_up_n (by decide)]⟩) (by rw [show I110 26 a1.toNatClampNeg = vw from (by rw [eI110, z_up_n (by decide), fI97 26 a1.toNatClampNeg (z_wr_c (by decide)), eI94, z_up_n (by decide)]; exact evw.symm)]; exact hvw) (by rw [show I110 27 a1.toNatClampNeg = 3 from (by rw [eI110, z_up_s])]; exact z_l3) (by rw [show I110 28 a1.toNatClampNeg = (I 0 40) from (by rw [eI110, z_up_n (by decide), fI97 28 a1.toNatClampNeg (z_wr_c (by decide)), eI94, z_up_s])]; exact rfl) (by rw [show I110 29 a1.toNatClampNeg = vs from (by rw [eI110, z_up_n (by decide), fI97 29 a1.toNatClampNeg (z_wr_c (by decide)), eI94, z_up_n (by decide)]; exact evs.symm)]; exact rfl) (by unfold z_fv; omega) hwd (by rw [eI110, z_up_n (by decide)]; omega) h136 z_l0 (by omega) (by omega) (by omega) (by omega) (by omega) (by omega) (by omega) (by omega)⟩) Or.inl)⟩
  · have g137 := z_f_eq rfl z_l0 c1
    refine lv_aload_n hx hb dX12_atom_9 rfl (lv_at hl 0 rfl) ?_
    have r138 : 0 ≤ (I 0 36).toInt ∧ (I 0 36).toInt ≤ 4 := hmt.1
    refine z_get (T := TX12) (N := 96) (ci := 12) (i := 0) (v := .int (I 0 36)) hx hb hts zj_X12_atom_X12 hown hK hW rfl rfl 36 (by decide) (hts (.fieldLink RX12 281 "PetrolBoardModel" "token" "I") (List.mem_of_getElem? (i := 2) rfl)) (fun _ h => h) rfl dX12_atom_10 ?_
    refine lv_iconst (v := 2) hx hb dX12_atom_13 (by decide) ?_
    refine lv_icmp_ne (tgt := 40) hx hb dX12_atom_14 (by decide) (fun c139 => ?_) (fun c139 => ?_)
    · have g140 := z_f_ne rfl z_l2 c139
      refine lv_aload_n hx hb dX12_atom_40 rfl (lv_at hl 0 rfl) ?_
      refine lv_bipush (v := 40) hx hb dX12_atom_41 (by decide) ?_
      refine z_ci hW hS hA (va_runV (As := [.int 40]) (rest := []) ⟨hx, hb, hml, hown, hts⟩ (sx_X12_isSign l G ad I J ⟨(by show 0 ≤ (I 0 36).toInt ∧ (I 0 36).toInt ≤ 4; exact hmt.1), (by show 0 ≤ (I 0 42).toInt ∧ (I 0 42).toInt ≤ 1; exact hmt.2)⟩ 40 _) (cwV 1 hts gX12_atom_X12_isSign rfl rfl rfl (by decide +kernel) ⟨Nat.le_of_ble_eq_true rfl, Nat.le_of_ble_eq_true rfl⟩) (z_preV (i := 0) hK hW rfl rfl) rfl rfl hl.1 rfl (lv_room (Nat.le_of_ble_eq_true rfl)) dX12_atom_43 ⟨Nat.le_of_ble_eq_true rfl, Nat.le_of_ble_eq_true rfl⟩) (fun r u1 H locs hp hW hS => ?_)
      obtain ⟨e9, hp⟩ := hp
      rw [e9] at hW
      rcases hp with ⟨rfl, h141⟩ | rfl
      · have h142 : (I 0 35).toInt + 1 ≤ (I 0 34).toInt := by omega
        refine lv_if_eq (tgt := 68) hx hb dX12_atom_46 (by decide) (fun c143 => absurd c143 (by decide)) (fun c143 => ?_)
        refine lv_aload_n hx hb dX12_atom_49 rfl (lv_at hl 0 rfl) ?_
        refine z_cv hW hS hA (va_runV (As := []) (rest := []) ⟨hx, hb, hml, hown, hts⟩ (sx_X12_opens l G ad I J ⟨(by show 0 ≤ (I 0 31).toInt ∧ (I 0 31).toInt ≤ 500; exact hmp.1), (by show 0 ≤ (I 0 33).toInt ∧ (I 0 33).toInt ≤ 500; exact hmp.2.1), (by show 0 ≤ (I 0 34).toInt ∧ (I 0 34).toInt ≤ 500; exact hmp.2.2.1), (by show 0 ≤ (I 0 35).toInt ∧ (I 0 35).toInt ≤ 500; exact hmp.2.2.2)⟩ ⟨(by show 0 ≤ (I 0 36).toInt ∧ (I 0 36).toInt ≤ 4; exact hmt.1), (by show 0 ≤ (I 0 42).toInt ∧ (I 0 42).toInt ≤ 1; exact hmt.2)⟩ (by show 0 ≤ (I 0 35).toInt ∧ (I 0 35).toInt ≤ (I 0 34).toInt ∧ (I 0 34).toInt ≤ (I 0 33).toInt ∧ (I 0 33).toInt ≤ 500 ∧ ((I 0 36).toInt = 0 ∨ (I 0 35).toInt + 1 ≤ (I 0 34).toInt); first | omega | decide) ⟨(by show 0 ≤ (I 0 47).toInt ∧ (I 0 47).toInt ≤ 119; exact hmd.1), (by show 0 ≤ (I 0 39).toInt ∧ (I 0 39).toInt ≤ 100; exact hmd.2)⟩  (by show (I 0 39).toInt ≤ 9; omega) _) (cwV 0 hts gX12_atom_X12_opens rfl rfl rfl (by decide +kernel) ⟨Nat.le_of_ble_eq_true rfl, Nat.le_of_ble_eq_true rfl⟩) (z_preV (i := 0) hK hW rfl rfl) rfl rfl hl.1 rfl (lv_room (Nat.le_of_ble_eq_true rfl)) dX12_atom_50 ⟨Nat.le_of_ble_eq_true rfl, Nat.le_of_ble_eq_true rfl⟩) (fun u1 H locs hp hW hS => ?_)
        obtain ⟨I144, J146, e9, hI144mp, hI144mt, hI144rp, hI144md, fI144, hp⟩ := hp
        rw [e9] at hW
        have f145 := z_fr_sub (L := L_X12_atom) z_fr_0 fI144 (by decide)
        have k147 : 0 ≤ (I144 0 40).toInt ∧ (I144 0 40).toInt ≤ 6199 := by rw [fI144 0 40 (by decide)]; exact (by show 0 ≤ (I 0 40).toInt ∧ (I 0 40).toInt ≤ 6199; exact hmg)
        have k148 : 0 ≤ (I144 0 15).toInt ∧ (I144 0 15).toInt ≤ 6100 := by rw [fI144 0 15 (by decide)]; exact (by show 0 ≤ (I 0 15).toInt ∧ (I 0 15).toInt ≤ 6100; exact hmn)
        have k149 : 0 ≤ (I144 0 35).toInt ∧ (I144 0 35).toInt ≤ (I144 0 34).toInt ∧ (I144 0 34).toInt ≤ (I144 0 33).toInt ∧ (I144 0 33).toInt ≤ 500 ∧ ((I144 0 36).toInt = 0 ∨ (I144 0 35).toInt + 1 ≤ (I144 0 34).toInt) := hI144rp
        have k150 : (I144 0 47).toInt = (I 0 47).toInt := by rw [fI144 0 47 (by decide)]
        have k151 : (I144 0 15).toInt = (I 0 15).toInt := by rw [fI144 0 15 (by decide)]
        have k152 : (I144 0 40).toInt = (I 0 40).toInt := by rw [fI144 0 40 (by decide)]
        obtain ⟨h153, h154, h155⟩ := hp
        refine lv_aload_n hx hb dX12_atom_53 rfl (lv_at hl 0 rfl) ?_
        refine z_get (T := TX12) (N := 96) (ci := 12) (i := 0) (v := .ref (ad 27)) hx hb hts zj_X12_atom_X12 hown hK hW rfl rfl 44 (by decide) (hts (.fieldLink RX12 94 "PetrolBoardModel" "at" "[I") (List.mem_of_getElem? (i := 1) rfl)) (fun _ h => h) rfl dX12_atom_54 ?_
        refine lv_iload_n hx hb dX12_atom_57 rfl (lv_at hl 1 rfl) ?_
        refine lv_iconst (v := 1) hx hb dX12_atom_58 (by decide) ?_
        refine z_iast (i := 27) hx hb hK hW hS rfl (z_ix rfl (by omega) (by omega)) dX12_atom_59 (fun H locs hz1 hW hS => ?_)
        obtain ⟨I156, eI156⟩ : ∃ K : z_I, K = z_up I144 27 a1.toNatClampNeg 1 := ⟨_, rfl⟩
        rw [← eI156] at hW
        have f157 := z_fr_a f145 (show z_wa L_X12_atom 27 = true by decide) eI156
        have a158 := z_Nd_n (z_Nd_fr hNd fI144 (by decide)) (by decide) eI156
        refine lv_aload_n hx hb dX12_atom_60 rfl (lv_at hl 0 rfl) ?_
        refine lv_iconst (v := 0) hx hb dX12_atom_61 (by decide) ?_
        refine z_cv hW hS hA (va_runV (As := [.int 0]) (rest := []) ⟨hx, hb, hml, hown, hts⟩ (sx_X12_begin l G ad I156 J146 ⟨(by show 0 ≤ (I156 0 47).toInt ∧ (I156 0 47).toInt ≤ 119; rw [eI156, z_up_n (by decide)]; exact hI144md.1), (by show 0 ≤ (I156 0 39).toInt ∧ (I156 0 39).toInt ≤ 100; rw [eI156, z_up_n (by decide)]; exact hI144md.2)⟩ 0 (by have q0 : (I156 0 47) = (I144 0 47) := by rw [eI156, z_up_n (by decide)]; show (I156 0 47).toInt ≤ 118; rw [q0]; omega) _) (cwV 1 hts gX12_atom_X12_begin rfl rfl rfl (by decide +kernel) ⟨Nat.le_of_ble_eq_true rfl, Nat.le_of_ble_eq_true rfl⟩) (z_preV (i := 0) hK hW rfl rfl) rfl rfl hl.1 rfl (lv_room (Nat.le_of_ble_eq_true rfl)) dX12_atom_62 ⟨Nat.le_of_ble_eq_true rfl, Nat.le_of_ble_eq_true rfl⟩) (fun u1 H locs hp hW hS => ?_)
        obtain ⟨I159, J161, e9, hI159md, fI159, hp⟩ := hp
        rw [e9] at hW
        have f160 := z_fr_sub (L := L_X12_atom) f157 fI159 (by decide)
        have k162 : 0 ≤ (I159 0 31).toInt ∧ (I159 0 31).toInt ≤ 500 := by rw [fI159 0 31 (by decide)]; exact (by show 0 ≤ (I156 0 31).toInt ∧ (I156 0 31).toInt ≤ 500; rw [eI156, z_up_n (by decide)]; exact hI144mp.1)
        have k163 : 0 ≤ (I159 0 33).toInt ∧ (I159 0 33).toInt ≤ 500 := by rw [fI159 0 33 (by decide)]; exact (by show 0 ≤ (I156 0 33).toInt ∧ (I156 0 33).toInt ≤ 500; rw [eI156, z_up_n (by decide)]; exact hI144mp.2.1)
        have k164 : 0 ≤ (I159 0 34).toInt ∧ (I159 0 34).toInt ≤ 500 := by rw [fI159 0 34 (by decide)]; exact (by show 0 ≤ (I156 0 34).toInt ∧ (I156 0 34).toInt ≤ 500; rw [eI156, z_up_n (by decide)]; exact hI144mp.2.2.1)
        have k165 : 0 ≤ (I159 0 35).toInt ∧ (I159 0 35).toInt ≤ 500 := by rw [fI159 0 35 (by decide)]; exact (by show 0 ≤ (I156 0 35).toInt ∧ (I156 0 35).toInt ≤ 500; rw [eI156, z_up_n (by decide)]; exact hI144mp.2.2.2)
        have k166 : 0 ≤ (I159 0 36).toInt ∧ (I159 0 36).toInt ≤ 4 := by rw [fI159 0 36 (by decide)]; exact (by show 0 ≤ (I156 0 36).toInt ∧ (I156 0 36).toInt ≤ 4; rw [eI156, z_up_n (by decide)]; exact hI144mt.1)
        have k167 : 0 ≤ (I159 0 42).toInt ∧ (I159 0 42).toInt ≤ 1 := by rw [fI159 0 42 (by decide)]; exact (by show 0 ≤ (I156 0 42).toInt ∧ (I156 0 42).toInt ≤ 1; rw [eI156, z_up_n (by decide)]; exact hI144mt.2)
        have k168 : 0 ≤ (I159 0 40).toInt ∧ (I159 0 40).toInt ≤ 6199 := by rw [fI159 0 40 (by decide)]; exact (by show 0 ≤ (I156 0 40).toInt ∧ (I156 0 40).toInt ≤ 6199; rw [eI156, z_up_n (by decide)]; exact k147)
        have k169 : 0 ≤ (I159 0 15).toInt ∧ (I159 0 15).toInt ≤ 6100 := by rw [fI159 0 15 (by decide)]; exact (by show 0 ≤ (I156 0 15).toInt ∧ (I156 0 15).toInt ≤ 6100; rw [eI156, z_up_n (by decide)]; exact k148)
        have k170 : 0 ≤ (I159 0 35).toInt ∧ (I159 0 35).toInt ≤ (I159 0 34).toInt ∧ (I159 0 34).toInt ≤ (I159 0 33).toInt ∧ (I159 0 33).toInt ≤ 500 ∧ ((I159 0 36).toInt = 0 ∨ (I159 0 35).toInt + 1 ≤ (I159 0 34).toInt) := (by have q0 : (I159 0 35) = (I144 0 35) := by rw [fI159 0 35 (by decide), eI156, z_up_n (by decide)]; have q1 : (I159 0 34) = (I144 0 34) := by rw [fI159 0 34 (by decide), eI156, z_up_n (by decide)]; have q2 : (I159 0 33) = (I144 0 33) := by rw [fI159 0 33 (by decide), eI156, z_up_n (by decide)]; have q3 : (I159 0 36) = (I144 0 36) := by rw [fI159 0 36 (by decide), eI156, z_up_n (by decide)]; show 0 ≤ (I159 0 35).toInt ∧ (I159 0 35).toInt ≤ (I159 0 34).toInt ∧ (I159 0 34).toInt ≤ (I159 0 33).toInt ∧ (I159 0 33).toInt ≤ 500 ∧ ((I159 0 36).toInt = 0 ∨ (I159 0 35).toInt + 1 ≤ (I159 0 34).toInt); rw [q0, q1, q2, q3]; first | omega | decide)
        have k171 : (I159 0 35).toInt = (I144 0 35).toInt := by rw [fI159 0 35 (by decide), eI156, z_up_n (by decide)]
        have k172 : (I159 0 34).toInt = (I144 0 34).toInt := by rw [fI159 0 34 (by decide), eI156, z_up_n (by decide)]
        have k173 : (I159 0 36).toInt = (I144 0 36).toInt := by rw [fI159 0 36 (by decide), eI156, z_up_n (by decide)]
        have k174 : (I159 0 42).toInt = (I144 0 42).toInt := by rw [fI159 0 42 (by decide), eI156, z_up_n (by decide)]
        have k175 : (I159 0 39).toInt = (I144 0 39).toInt := by rw [fI159 0 39 (by decide), eI156, z_up_n (by decide)]
        have k176 : (I159 0 15).toInt = (I144 0 15).toInt := by rw [fI159 0 15 (by decide), eI156, z_up_n (by decide)]
        have k177 : (I159 0 40).toInt = (I144 0 40).toInt := by rw [fI159 0 40 (by decide), eI156, z_up_n (by decide)]
        have h178 := hp
        refine lv_goto (tgt := 311) hx hb dX12_atom_65 (by decide) ?_
        exact z_vret hx hb hr hK hS (Nat.le_of_ble_eq_true rfl) (Nat.le_of_ble_eq_true rfl) hlocks dX12_atom_311 (shM, ad, I159, J161, PM ad) hW ⟨I159, J161, rfl, ⟨(by show 0 ≤ (I159 0 31).toInt ∧ (I159 0 31).toInt ≤ 500; exact k162), (by show 0 ≤ (I159 0 33).toInt ∧ (I159 0 33).toInt ≤ 500; exact k163), (by show 0 ≤ (I159 0 34).toInt ∧ (I159 0 34).toInt ≤ 500; exact k164), (by show 0 ≤ (I159 0 35).toInt ∧ (I159 0 35).toInt ≤ 500; exact k165)⟩, ⟨(by show 0 ≤ (I159 0 36).toInt ∧ (I159 0 36).toInt ≤ 4; exact k166), (by show 0 ≤ (I159 0 42).toInt ∧ (I159 0 42).toInt ≤ 1; exact k167)⟩, ⟨(by show 0 ≤ (I159 0 47).toInt ∧ (I159 0 47).toInt ≤ 119; exact hI159md.1), (by show 0 ≤ (I159 0 39).toInt ∧ (I159 0 39).toInt ≤ 100; exact hI159md.2)⟩, (by show 0 ≤ (I159 0 40).toInt ∧ (I159 0 40).toInt ≤ 6199; exact k168), (by show 0 ≤ (I159 0 15).toInt ∧ (I159 0 15).toInt ≤ 6100; exact k169), (z_Nd_fr a158 fI159 (by decide)), (by show 0 ≤ (I159 0 35).toInt ∧ (I159 0 35).toInt ≤ (I159 0 34).toInt ∧ (I159 0 34).toInt ≤ (I159 0 33).toInt ∧ (I159 0 33).toInt ≤ 500 ∧ ((I159 0 36).toInt = 0 ∨ (I159 0 35).toInt + 1 ≤ (I159 0 34).toInt); first | omega | decide), f160, ((Classical.em ((I159 0 42).toInt = 0)).elim (fun hw9 => Or.inr ⟨a1.toNatClampNeg + 2, by have w1 := z_fw_20 (a := va.toInt) (o := vo.toInt) (by omega); have w2 := z_fo_2n (a := va.toInt) (by omega); have w3 := z_fw_2n (a := 1) (o := vo.toInt) (by omega); have w4 := z_fo_2y (a := 1) (by omega); have w5 := z_fw_00 (a := 0) (o := -1) (by omega); have w6 := z_rk_2; have w7 := z_rk_0; exact z_PUSH (d := a1.toNatClampNeg) (w := 2) (a := 1) (o := vo.toInt) (s := vs.toInt) (wi := 0) hPS (fun i hi => ⟨by rw [eI156, z_up_n (by decide), fI144 26 i (z_wr_c (by decide))], by rw [eI156, z_up_k (by omega), fI144 27 i (z_wr_c (by decide))], by rw [eI156, z_up_n (by decide), fI144 28 i (z_wr_c (by decide))], by rw [eI156, z_up_n (by decide), fI144 29 i (z_wr_c (by decide))]⟩) (by rw [show I156 26 a1.toNatClampNeg = vw from (by rw [eI156, z_up_n (by decide), fI144 26 a1.toNatClampNeg (z_wr_c (by decide))]; exact evw.symm)]; exact hvw) (by rw [show I156 27 a1.toNatClampNeg = 1 from (by rw [eI156, z_up_s])]; exact z_l1) (by rw [show I156 28 a1.toNatClampNeg = vo from (by rw [eI156, z_up_n (by decide), fI144 28 a1.toNatClampNeg (z_wr_c (by decide))]; exact evo.symm)]; exact rfl) (by rw [show I156 29 a1.toNatClampNeg = vs from (by rw [eI156, z_up_n (by decide), fI144 29 a1.toNatClampNeg (z_wr_c (by decide))]; exact evs.symm)]; exact rfl) (by unfold z_fv; omega) hwd (by rw [eI156, z_up_n (by decide)]; omega) h178 z_l0 (by omega) (by omega) (by omega) (by omega) (by omega) (by omega) (by omega) (by omega)⟩) Or.inl)⟩
      · refine lv_if_eq (tgt := 68) hx hb dX12_atom_46 (by decide) (fun c179 => ?_) (fun c179 => absurd (by decide) c179)
        refine lv_aload_n hx hb dX12_atom_68 rfl (lv_at hl 0 rfl) ?_
        refine lv_ldc2 (v := 6476969) hx hb hown (hts (.constantLong RX12 375 (6476969)) (List.mem_of_getElem? (i := 4) rfl)) dX12_atom_69 ?_
        refine z_ci hW hS hA (va_runV (As := [.long 6476969]) (rest := []) ⟨hx, hb, hml, hown, hts⟩ (sx_X12_isWord l G ad I J ⟨(by show 0 ≤ (I 0 36).toInt ∧ (I 0 36).toInt ≤ 4; exact hmt.1), (by show 0 ≤ (I 0 42).toInt ∧ (I 0 42).toInt ≤ 1; exact hmt.2)⟩ 6476969 _) (cwV 1 hts gX12_atom_X12_isWord rfl rfl rfl (by decide +kernel) ⟨Nat.le_of_ble_eq_true rfl, Nat.le_of_ble_eq_true rfl⟩) (z_preV (i := 0) hK hW rfl rfl) rfl rfl hl.1 rfl (lv_room (Nat.le_of_ble_eq_true rfl)) dX12_atom_72 ⟨Nat.le_of_ble_eq_true rfl, Nat.le_of_ble_eq_true rfl⟩) (fun r u1 H locs hp hW hS => ?_)
        obtain ⟨e9, hp⟩ := hp
        rw [e9] at hW
        rcases hp with ⟨rfl, h180⟩ | rfl
        · have h181 : (I 0 35).toInt + 1 ≤ (I 0 34).toInt := by omega
          refine lv_if_ne (tgt := 88) hx hb dX12_atom_75 (by decide) (fun c182 => ?_) (fun c182 => absurd c182 (by decide))
          refine lv_aload_n hx hb dX12_atom_88 rfl (lv_at hl 0 rfl) ?_
          refine z_get (T := TX12) (N := 96) (ci := 12) (i := 0) (v := .ref (ad 29)) hx hb hts zj_X12_atom_X12 hown hK hW rfl rfl 46 (by decide) (hts (.fieldLink RX12 100 "PetrolBoardModel" "sort" "[I") (List.mem_of_getElem? (i := 6) rfl)) (fun _ h => h) rfl dX12_atom_89 ?_
          refine lv_iload_n hx hb dX12_atom_92 rfl (lv_at hl 1 rfl) ?_
          refine lv_aload_n hx hb dX12_atom_93 rfl (lv_at hl 0 rfl) ?_
          refine lv_ldc2 (v := 6476969) hx hb hown (hts (.constantLong RX12 375 (6476969)) (List.mem_of_getElem? (i := 4) rfl)) dX12_atom_94 ?_
          refine z_ci hW hS hA (va_runV (As := [.long 6476969]) (rest := [.int a1, .ref (ad 29)]) ⟨hx, hb, hml, hown, hts⟩ (sx_X12_isWord l G ad I J ⟨(by show 0 ≤ (I 0 36).toInt ∧ (I 0 36).toInt ≤ 4; exact hmt.1), (by show 0 ≤ (I 0 42).toInt ∧ (I 0 42).toInt ≤ 1; exact hmt.2)⟩ 6476969 _) (cwV 1 hts gX12_atom_X12_isWord rfl rfl rfl (by decide +kernel) ⟨Nat.le_of_ble_eq_true rfl, Nat.le_of_ble_eq_true rfl⟩) (z_preV (i := 0) hK hW rfl rfl) rfl rfl hl.1 rfl (lv_room (Nat.le_of_ble_eq_true rfl)) dX12_atom_97 ⟨Nat.le_of_ble_eq_true rfl, Nat.le_of_ble_eq_true rfl⟩) (fun r u1 H locs hp hW hS => ?_)
          obtain ⟨e9, hp⟩ := hp
          rw [e9] at hW
          rcases hp with ⟨rfl, h183⟩ | rfl
          · have h184 : (I 0 35).toInt + 1 ≤ (I 0 34).toInt := by omega
            refine lv_if_eq (tgt := 108) hx hb dX12_atom_100 (by decide) (fun c185 => absurd c185 (by decide)) (fun c185 => ?_)
            refine lv_bipush (v := 6) hx hb dX12_atom_103 (by decide) ?_
            refine lv_goto (tgt := 110) hx hb dX12_atom_105 (by decide) ?_
            refine z_iast (i := 29) hx hb hK hW hS rfl (z_ix rfl (by omega) (by omega)) dX12_atom_110 (fun H locs hz1 hW hS => ?_)
            obtain ⟨I186, eI186⟩ : ∃ K : z_I, K = z_up I 29 a1.toNatClampNeg 6 := ⟨_, rfl⟩
            rw [← eI186] at hW
            have f187 := z_fr_a z_fr_0 (show z_wa L_X12_atom 29 = true by decide) eI186
            have a188 := z_Nd_n hNd (by decide) eI186
            refine lv_aload_n hx hb dX12_atom_111 rfl (lv_at hl 0 rfl) ?_
            refine z_cv hW hS hA (va_runV (As := []) (rest := []) ⟨hx, hb, hml, hown, hts⟩ (sx_X12_opens l G ad I186 J ⟨(by show 0 ≤ (I186 0 31).toInt ∧ (I186 0 31).toInt ≤ 500; rw [eI186, z_up_n (by decide)]; exact hmp.1), (by show 0 ≤ (I186 0 33).toInt ∧ (I186 0 33).toInt ≤ 500; rw [eI186, z_up_n (by decide)]; exact hmp.2.1), (by show 0 ≤ (I186 0 34).toInt ∧ (I186 0 34).toInt ≤ 500; rw [eI186, z_up_n (by decide)]; exact hmp.2.2.1), (by show 0 ≤ (I186 0 35).toInt ∧ (I186 0 35).toInt ≤ 500; rw [eI186, z_up_n (by decide)]; exact hmp.2.2.2)⟩ ⟨(by show 0 ≤ (I186 0 36).toInt ∧ (I186 0 36).toInt ≤ 4; rw [eI186, z_up_n (by decide)]; exact hmt.1), (by show 0 ≤ (I186 0 42).toInt ∧ (I186 0 42).toInt ≤ 1; rw [eI186, z_up_n (by decide)]; exact hmt.2)⟩ (by have q0 : (I186 0 35) = (I 0 35) := by rw [eI186, z_up_n (by decide)]; have q1 : (I186 0 34) = (I 0 34) := by rw [eI186, z_up_n (by decide)]; have q2 : (I186 0 33) = (I 0 33) := by rw [eI186, z_up_n (by decide)]; have q3 : (I186 0 36) = (I 0 36) := by rw [eI186, z_up_n (by decide)]; show 0 ≤ (I186 0 35).toInt ∧ (I186 0 35).toInt ≤ (I186 0 34).toInt ∧ (I186 0 34).toInt ≤ (I186 0 33).toInt ∧ (I186 0 33).toInt ≤ 500 ∧ ((I186 0 36).toInt = 0 ∨ (I186 0 35).toInt + 1 ≤ (I186 0 34).toInt); rw [q0, q1, q2, q3]; first | omega | decide) ⟨(by show 0 ≤ (I186 0 47).toInt ∧ (I186 0 47).toInt ≤ 119; rw [eI186, z_up_n (by decide)]; exact hmd.1), (by show 0 ≤ (I186 0 39).toInt ∧ (I186 0 39).toInt ≤ 100; rw [eI186, z_up_n (by decide)]; exact hmd.2)⟩  (by have q0 : (I186 0 39) = (I 0 39) := by rw [eI186, z_up_n (by decide)]; show (I186 0 39).toInt ≤ 9; rw [q0]; omega) _) (cwV 0 hts gX12_atom_X12_opens rfl rfl rfl (by decide +kernel) ⟨Nat.le_of_ble_eq_true rfl, Nat.le_of_ble_eq_true rfl⟩) (z_preV (i := 0) hK hW rfl rfl) rfl rfl hl.1 rfl (lv_room (Nat.le_of_ble_eq_true rfl)) dX12_atom_112 ⟨Nat.le_of_ble_eq_true rfl, Nat.le_of_ble_eq_true rfl⟩) (fun u1 H locs hp hW hS => ?_)
            obtain ⟨I189, J191, e9, hI189mp, hI189mt, hI189rp, hI189md, fI189, hp⟩ := hp
            rw [e9] at hW
            have f190 := z_fr_sub (L := L_X12_atom) f187 fI189 (by decide)
            have k192 : 0 ≤ (I189 0 40).toInt ∧ (I189 0 40).toInt ≤ 6199 := by rw [fI189 0 40 (by decide)]; exact (by show 0 ≤ (I186 0 40).toInt ∧ (I186 0 40).toInt ≤ 6199; rw [eI186, z_up_n (by decide)]; exact hmg)
            have k193 : 0 ≤ (I189 0 15).toInt ∧ (I189 0 15).toInt ≤ 6100 := by rw [fI189 0 15 (by decide)]; exact (by show 0 ≤ (I186 0 15).toInt ∧ (I186 0 15).toInt ≤ 6100; rw [eI186, z_up_n (by decide)]; exact hmn)
            have k194 : 0 ≤ (I189 0 35).toInt ∧ (I189 0 35).toInt ≤ (I189 0 34).toInt ∧ (I189 0 34).toInt ≤ (I189 0 33).toInt ∧ (I189 0 33).toInt ≤ 500 ∧ ((I189 0 36).toInt = 0 ∨ (I189 0 35).toInt + 1 ≤ (I189 0 34).toInt) := hI189rp
            have k195 : (I189 0 47).toInt = (I 0 47).toInt := by rw [fI189 0 47 (by decide), eI186, z_up_n (by decide)]
            have k196 : (I189 0 15).toInt = (I 0 15).toInt := by rw [fI189 0 15 (by decide), eI186, z_up_n (by decide)]
            have k197 : (I189 0 40).toInt = (I 0 40).toInt := by rw [fI189 0 40 (by decide), eI186, z_up_n (by decide)]
            obtain ⟨h198, h199, h200⟩ := hp
            rw [show (I186 0 39) = (I 0 39) from by rw [eI186, z_up_n (by decide)]] at h198
            rw [show (I186 0 34) = (I 0 34) from by rw [eI186, z_up_n (by decide)]] at h199
            rw [show (I186 0 39) = (I 0 39) from by rw [eI186, z_up_n (by decide)]] at h200
            refine lv_aload_n hx hb dX12_atom_115 rfl (lv_at hl 0 rfl) ?_
            have r201 : 0 ≤ (I189 0 42).toInt ∧ (I189 0 42).toInt ≤ 1 := hI189mt.2
            refine z_get (T := TX12) (N := 96) (ci := 12) (i := 0) (v := .int (I189 0 42)) hx hb hts zj_X12_atom_X12 hown hK hW rfl rfl 42 (by decide) (hts (.fieldLink RX12 294 "PetrolBoardModel" "isWrong" "Z") (List.mem_of_getElem? (i := 7) rfl)) (fun _ h => h) rfl dX12_atom_116 ?_
            refine lv_if_ne (tgt := 128) hx hb dX12_atom_119 (by decide) (fun c202 => ?_) (fun c202 => ?_)
            · have g203 := z_f_ne rfl z_l0 c202
              refine lv_aload_n hx hb dX12_atom_128 rfl (lv_at hl 0 rfl) ?_
              refine z_get (T := TX12) (N := 96) (ci := 12) (i := 0) (v := .ref (ad 27)) hx hb hts zj_X12_atom_X12 hown hK hW rfl rfl 44 (by decide) (hts (.fieldLink RX12 94 "PetrolBoardModel" "at" "[I") (List.mem_of_getElem? (i := 1) rfl)) (fun _ h => h) rfl dX12_atom_129 ?_
              refine lv_iload_n hx hb dX12_atom_132 rfl (lv_at hl 1 rfl) ?_
              refine lv_iconst (v := 2) hx hb dX12_atom_133 (by decide) ?_
              refine z_iast (i := 27) hx hb hK hW hS rfl (z_ix rfl (by omega) (by omega)) dX12_atom_134 (fun H locs hz1 hW hS => ?_)
              obtain ⟨I204, eI204⟩ : ∃ K : z_I, K = z_up I189 27 a1.toNatClampNeg 2 := ⟨_, rfl⟩
              rw [← eI204] at hW
              have f205 := z_fr_a f190 (show z_wa L_X12_atom 27 = true by decide) eI204
              have a206 := z_Nd_n (z_Nd_fr a188 fI189 (by decide)) (by decide) eI204
              refine lv_aload_n hx hb dX12_atom_135 rfl (lv_at hl 0 rfl) ?_
              refine z_get (T := TX12) (N := 96) (ci := 12) (i := 0) (v := .int (I189 0 42)) hx hb hts zj_X12_atom_X12 hown hK hW rfl rfl 42 (by decide) (hts (.fieldLink RX12 294 "PetrolBoardModel" "isWrong" "Z") (List.mem_of_getElem? (i := 7) rfl)) (fun _ h => h) (congrArg Value.int (by rw [eI204, z_up_n (by decide)])) dX12_atom_136 ?_
              refine lv_if_ne (tgt := 311) hx hb dX12_atom_139 (by decide) (fun c207 => ?_) (fun c207 => (by have g := z_f_eq rfl z_l0 c207; omega))
              have g208 := z_f_ne rfl z_l0 c207
              exact z_vret hx hb hr hK hS (Nat.le_of_ble_eq_true rfl) (Nat.le_of_ble_eq_true rfl) hlocks dX12_atom_311 (shM, ad, I204, J191, PM ad) hW ⟨I204, J191, rfl, ⟨(by show 0 ≤ (I204 0 31).toInt ∧ (I204 0 31).toInt ≤ 500; rw [eI204, z_up_n (by decide)]; exact hI189mp.1), (by show 0 ≤ (I204 0 33).toInt ∧ (I204 0 33).toInt ≤ 500; rw [eI204, z_up_n (by decide)]; exact hI189mp.2.1), (by show 0 ≤ (I204 0 34).toInt ∧ (I204 0 34).toInt ≤ 500; rw [eI204, z_up_n (by decide)]; exact hI189mp.2.2.1), (by show 0 ≤ (I204 0 35).toInt ∧ (I204 0 35).toInt ≤ 500; rw [eI204, z_up_n (by decide)]; exact hI189mp.2.2.2)⟩, ⟨(by show 0 ≤ (I204 0 36).toInt ∧ (I204 0 36).toInt ≤ 4; rw [eI204, z_up_n (by decide)]; exact hI189mt.1), (by show 0 ≤ (I204 0 42).toInt ∧ (I204 0 42).toInt ≤ 1; rw [eI204, z_up_n (by decide)]; exact hI189mt.2)⟩, ⟨(by show 0 ≤ (I204 0 47).toInt ∧ (I204 0 47).toInt ≤ 119; rw [eI204, z_up_n (by decide)]; exact hI189md.1), (by show 0 ≤ (I204 0 39).toInt ∧ (I204 0 39).toInt ≤ 100; rw [eI204, z_up_n (by decide)]; exact hI189md.2)⟩, (by show 0 ≤ (I204 0 40).toInt ∧ (I204 0 40).toInt ≤ 6199; rw [eI204, z_up_n (by decide)]; exact k192), (by show 0 ≤ (I204 0 15).toInt ∧ (I204 0 15).toInt ≤ 6100; rw [eI204, z_up_n (by decide)]; exact k193), a206, (by have q0 : (I204 0 35) = (I189 0 35) := by rw [eI204, z_up_n (by decide)]; have q1 : (I204 0 34) = (I189 0 34) := by rw [eI204, z_up_n (by decide)]; have q2 : (I204 0 33) = (I189 0 33) := by rw [eI204, z_up_n (by decide)]; have q3 : (I204 0 36) = (I189 0 36) := by rw [eI204, z_up_n (by decide)]; show 0 ≤ (I204 0 35).toInt ∧ (I204 0 35).toInt ≤ (I204 0 34).toInt ∧ (I204 0 34).toInt ≤ (I204 0 33).toInt ∧ (I204 0 33).toInt ≤ 500 ∧ ((I204 0 36).toInt = 0 ∨ (I204 0 35).toInt + 1 ≤ (I204 0 34).toInt); rw [q0, q1, q2, q3]; first | omega | decide), f205, (Or.inl (by have q0 : (I204 0 42) = (I189 0 42) := by rw [eI204, z_up_n (by decide)]; show ¬ (I204 0 42).toInt = 0; rw [q0]; omega))⟩
            · have g209 := z_f_eq rfl z_l0 c202
              refine lv_aload_n hx hb dX12_atom_122 rfl (lv_at hl 0 rfl) ?_
              refine lv_bipush (v := 40) hx hb dX12_atom_123 (by decide) ?_
              refine z_cv hW hS hA (va_runV (As := [.int 40]) (rest := []) ⟨hx, hb, hml, hown, hts⟩ (sx_X12_must l G ad I189 J191 ⟨(by show 0 ≤ (I189 0 31).toInt ∧ (I189 0 31).toInt ≤ 500; exact hI189mp.1), (by show 0 ≤ (I189 0 33).toInt ∧ (I189 0 33).toInt ≤ 500; exact hI189mp.2.1), (by show 0 ≤ (I189 0 34).toInt ∧ (I189 0 34).toInt ≤ 500; exact hI189mp.2.2.1), (by show 0 ≤ (I189 0 35).toInt ∧ (I189 0 35).toInt ≤ 500; exact hI189mp.2.2.2)⟩ ⟨(by show 0 ≤ (I189 0 36).toInt ∧ (I189 0 36).toInt ≤ 4; exact hI189mt.1), (by show 0 ≤ (I189 0 42).toInt ∧ (I189 0 42).toInt ≤ 1; exact hI189mt.2)⟩ (by show 0 ≤ (I189 0 35).toInt ∧ (I189 0 35).toInt ≤ (I189 0 34).toInt ∧ (I189 0 34).toInt ≤ (I189 0 33).toInt ∧ (I189 0 33).toInt ≤ 500 ∧ ((I189 0 36).toInt = 0 ∨ (I189 0 35).toInt + 1 ≤ (I189 0 34).toInt); first | omega | decide) 40 _) (cwV 1 hts gX12_atom_X12_must rfl rfl rfl (by decide +kernel) ⟨Nat.le_of_ble_eq_true rfl, Nat.le_of_ble_eq_true rfl⟩) (z_preV (i := 0) hK hW rfl rfl) rfl rfl hl.1 rfl (lv_room (Nat.le_of_ble_eq_true rfl)) dX12_atom_125 ⟨Nat.le_of_ble_eq_true rfl, Nat.le_of_ble_eq_true rfl⟩) (fun u1 H locs hp hW hS => ?_)
              obtain ⟨I210, J212, e9, hI210mp, hI210mt, hI210rp, fI210, hp⟩ := hp
              rw [e9] at hW
              have f211 := z_fr_sub (L := L_X12_atom) f190 fI210 (by decide)
              have k213 : 0 ≤ (I210 0 47).toInt ∧ (I210 0 47).toInt ≤ 119 := by rw [fI210 0 47 (by decide)]; exact (by show 0 ≤ (I189 0 47).toInt ∧ (I189 0 47).toInt ≤ 119; exact hI189md.1)
              have k214 : 0 ≤ (I210 0 39).toInt ∧ (I210 0 39).toInt ≤ 100 := by rw [fI210 0 39 (by decide)]; exact (by show 0 ≤ (I189 0 39).toInt ∧ (I189 0 39).toInt ≤ 100; exact hI189md.2)
              have k215 : 0 ≤ (I210 0 40).toInt ∧ (I210 0 40).toInt ≤ 6199 := by rw [fI210 0 40 (by decide)]; exact (by show 0 ≤ (I189 0 40).toInt ∧ (I189 0 40).toInt ≤ 6199; exact k192)
              have k216 : 0 ≤ (I210 0 15).toInt ∧ (I210 0 15).toInt ≤ 6100 := by rw [fI210 0 15 (by decide)]; exact (by show 0 ≤ (I189 0 15).toInt ∧ (I189 0 15).toInt ≤ 6100; exact k193)
              have k217 : 0 ≤ (I210 0 35).toInt ∧ (I210 0 35).toInt ≤ (I210 0 34).toInt ∧ (I210 0 34).toInt ≤ (I210 0 33).toInt ∧ (I210 0 33).toInt ≤ 500 ∧ ((I210 0 36).toInt = 0 ∨ (I210 0 35).toInt + 1 ≤ (I210 0 34).toInt) := hI210rp
              have k218 : (I210 0 47).toInt = (I189 0 47).toInt := by rw [fI210 0 47 (by decide)]
              have k219 : (I210 0 39).toInt = (I189 0 39).toInt := by rw [fI210 0 39 (by decide)]
              have k220 : (I210 0 15).toInt = (I189 0 15).toInt := by rw [fI210 0 15 (by decide)]
              have k221 : (I210 0 40).toInt = (I189 0 40).toInt := by rw [fI210 0 40 (by decide)]
              have h222 := hp
              refine lv_aload_n hx hb dX12_atom_128 rfl (lv_at hl 0 rfl) ?_
              refine z_get (T := TX12) (N := 96) (ci := 12) (i := 0) (v := .ref (ad 27)) hx hb hts zj_X12_atom_X12 hown hK hW rfl rfl 44 (by decide) (hts (.fieldLink RX12 94 "PetrolBoardModel" "at" "[I") (List.mem_of_getElem? (i := 1) rfl)) (fun _ h => h) rfl dX12_atom_129 ?_
              refine lv_iload_n hx hb dX12_atom_132 rfl (lv_at hl 1 rfl) ?_
              refine lv_iconst (v := 2) hx hb dX12_atom_133 (by decide) ?_
              refine z_iast (i := 27) hx hb hK hW hS rfl (z_ix rfl (by omega) (by omega)) dX12_atom_134 (fun H locs hz1 hW hS => ?_)
              obtain ⟨I223, eI223⟩ : ∃ K : z_I, K = z_up I210 27 a1.toNatClampNeg 2 := ⟨_, rfl⟩
              rw [← eI223] at hW
              have f224 := z_fr_a f211 (show z_wa L_X12_atom 27 = true by decide) eI223
              have a225 := z_Nd_n (z_Nd_fr (z_Nd_fr a188 fI189 (by decide)) fI210 (by decide)) (by decide) eI223
              refine lv_aload_n hx hb dX12_atom_135 rfl (lv_at hl 0 rfl) ?_
              have r226 : 0 ≤ (I210 0 42).toInt ∧ (I210 0 42).toInt ≤ 1 := hI210mt.2
              refine z_get (T := TX12) (N := 96) (ci := 12) (i := 0) (v := .int (I210 0 42)) hx hb hts zj_X12_atom_X12 hown hK hW rfl rfl 42 (by decide) (hts (.fieldLink RX12 294 "PetrolBoardModel" "isWrong" "Z") (List.mem_of_getElem? (i := 7) rfl)) (fun _ h => h) (congrArg Value.int (by rw [eI223, z_up_n (by decide)])) dX12_atom_136 ?_
              refine lv_if_ne (tgt := 311) hx hb dX12_atom_139 (by decide) (fun c227 => ?_) (fun c227 => ?_)
              · have g228 := z_f_ne rfl z_l0 c227
                exact z_vret hx hb hr hK hS (Nat.le_of_ble_eq_true rfl) (Nat.le_of_ble_eq_true rfl) hlocks dX12_atom_311 (shM, ad, I223, J212, PM ad) hW ⟨I223, J212, rfl, ⟨(by show 0 ≤ (I223 0 31).toInt ∧ (I223 0 31).toInt ≤ 500; rw [eI223, z_up_n (by decide)]; exact hI210mp.1), (by show 0 ≤ (I223 0 33).toInt ∧ (I223 0 33).toInt ≤ 500; rw [eI223, z_up_n (by decide)]; exact hI210mp.2.1), (by show 0 ≤ (I223 0 34).toInt ∧ (I223 0 34).toInt ≤ 500; rw [eI223, z_up_n (by decide)]; exact hI210mp.2.2.1), (by show 0 ≤ (I223 0 35).toInt ∧ (I223 0 35).toInt ≤ 500; rw [eI223, z_up_n (by decide)]; exact hI210mp.2.2.2)⟩, ⟨(by show 0 ≤ (I223 0 36).toInt ∧ (I223 0 36).toInt ≤ 4; rw [eI223, z_up_n (by decide)]; exact hI210mt.1), (by show 0 ≤ (I223 0 42).toInt ∧ (I223 0 42).toInt ≤ 1; rw [eI223, z_up_n (by decide)]; exact hI210mt.2)⟩, ⟨(by show 0 ≤ (I223 0 47).toInt ∧ (I223 0 47).toInt ≤ 119; rw [eI223, z_up_n (by decide)]; exact k213), (by show 0 ≤ (I223 0 39).toInt ∧ (I223 0 39).toInt ≤ 100; rw [eI223, z_up_n (by decide)]; exact k214)⟩, (by show 0 ≤ (I223 0 40).toInt ∧ (I223 0 40).toInt ≤ 6199; rw [eI223, z_up_n (by decide)]; exact k215), (by show 0 ≤ (I223 0 15).toInt ∧ (I223 0 15).toInt ≤ 6100; rw [eI223, z_up_n (by decide)]; exact k216), a225, (by have q0 : (I223 0 35) = (I210 0 35) := by rw [eI223, z_up_n (by decide)]; have q1 : (I223 0 34) = (I210 0 34) := by rw [eI223, z_up_n (by decide)]; have q2 : (I223 0 33) = (I210 0 33) := by rw [eI223, z_up_n (by decide)]; have q3 : (I223 0 36) = (I210 0 36) := by rw [eI223, z_up_n (by decide)]; show 0 ≤ (I223 0 35).toInt ∧ (I223 0 35).toInt ≤ (I223 0 34).toInt ∧ (I223 0 34).toInt ≤ (I223 0 33).toInt ∧ (I223 0 33).toInt ≤ 500 ∧ ((I223 0 36).toInt = 0 ∨ (I223 0 35).toInt + 1 ≤ (I223 0 34).toInt); rw [q0, q1, q2, q3]; first | omega | decide), f224, (Or.inl (by have q0 : (I223 0 42) = (I210 0 42) := by rw [eI223, z_up_n (by decide)]; show ¬ (I223 0 42).toInt = 0; rw [q0]; omega))⟩
              · have g229 := z_f_eq rfl z_l0 c227
                refine lv_aload_n hx hb dX12_atom_142 rfl (lv_at hl 0 rfl) ?_
                refine lv_iconst (v := 0) hx hb dX12_atom_143 (by decide) ?_
                refine z_cv hW hS hA (va_runV (As := [.int 0]) (rest := []) ⟨hx, hb, hml, hown, hts⟩ (sx_X12_begin l G ad I223 J212 ⟨(by show 0 ≤ (I223 0 47).toInt ∧ (I223 0 47).toInt ≤ 119; rw [eI223, z_up_n (by decide)]; exact k213), (by show 0 ≤ (I223 0 39).toInt ∧ (I223 0 39).toInt ≤ 100; rw [eI223, z_up_n (by decide)]; exact k214)⟩ 0 (by have q0 : (I223 0 47) = (I210 0 47) := by rw [eI223, z_up_n (by decide)]; show (I223 0 47).toInt ≤ 118; rw [q0]; omega) _) (cwV 1 hts gX12_atom_X12_begin rfl rfl rfl (by decide +kernel) ⟨Nat.le_of_ble_eq_true rfl, Nat.le_of_ble_eq_true rfl⟩) (z_preV (i := 0) hK hW rfl rfl) rfl rfl hl.1 rfl (lv_room (Nat.le_of_ble_eq_true rfl)) dX12_atom_144 ⟨Nat.le_of_ble_eq_true rfl, Nat.le_of_ble_eq_true rfl⟩) (fun u1 H locs hp hW hS => ?_)
                obtain ⟨I230, J232, e9, hI230md, fI230, hp⟩ := hp
                rw [e9] at hW
                have f231 := z_fr_sub (L := L_X12_atom) f224 fI230 (by decide)
                have k233 : 0 ≤ (I230 0 31).toInt ∧ (I230 0 31).toInt ≤ 500 := by rw [fI230 0 31 (by decide)]; exact (by show 0 ≤ (I223 0 31).toInt ∧ (I223 0 31).toInt ≤ 500; rw [eI223, z_up_n (by decide)]; exact hI210mp.1)
                have k234 : 0 ≤ (I230 0 33).toInt ∧ (I230 0 33).toInt ≤ 500 := by rw [fI230 0 33 (by decide)]; exact (by show 0 ≤ (I223 0 33).toInt ∧ (I223 0 33).toInt ≤ 500; rw [eI223, z_up_n (by decide)]; exact hI210mp.2.1)
                have k235 : 0 ≤ (I230 0 34).toInt ∧ (I230 0 34).toInt ≤ 500 := by rw [fI230 0 34 (by decide)]; exact (by show 0 ≤ (I223 0 34).toInt ∧ (I223 0 34).toInt ≤ 500; rw [eI223, z_up_n (by decide)]; exact hI210mp.2.2.1)
                have k236 : 0 ≤ (I230 0 35).toInt ∧ (I230 0 35).toInt ≤ 500 := by rw [fI230 0 35 (by decide)]; exact (by show 0 ≤ (I223 0 35).toInt ∧ (I223 0 35).toInt ≤ 500; rw [eI223, z_up_n (by decide)]; exact hI210mp.2.2.2)
                have k237 : 0 ≤ (I230 0 36).toInt ∧ (I230 0 36).toInt ≤ 4 := by rw [fI230 0 36 (by decide)]; exact (by show 0 ≤ (I223 0 36).toInt ∧ (I223 0 36).toInt ≤ 4; rw [eI223, z_up_n (by decide)]; exact hI210mt.1)
                have k238 : 0 ≤ (I230 0 42).toInt ∧ (I230 0 42).toInt ≤ 1 := by rw [fI230 0 42 (by decide)]; exact (by show 0 ≤ (I223 0 42).toInt ∧ (I223 0 42).toInt ≤ 1; rw [eI223, z_up_n (by decide)]; exact hI210mt.2)
                have k239 : 0 ≤ (I230 0 40).toInt ∧ (I230 0 40).toInt ≤ 6199 := by rw [fI230 0 40 (by decide)]; exact (by show 0 ≤ (I223 0 40).toInt ∧ (I223 0 40).toInt ≤ 6199; rw [eI223, z_up_n (by decide)]; exact k215)
                have k240 : 0 ≤ (I230 0 15).toInt ∧ (I230 0 15).toInt ≤ 6100 := by rw [fI230 0 15 (by decide)]; exact (by show 0 ≤ (I223 0 15).toInt ∧ (I223 0 15).toInt ≤ 6100; rw [eI223, z_up_n (by decide)]; exact k216)
                have k241 : 0 ≤ (I230 0 35).toInt ∧ (I230 0 35).toInt ≤ (I230 0 34).toInt ∧ (I230 0 34).toInt ≤ (I230 0 33).toInt ∧ (I230 0 33).toInt ≤ 500 ∧ ((I230 0 36).toInt = 0 ∨ (I230 0 35).toInt + 1 ≤ (I230 0 34).toInt) := (by have q0 : (I230 0 35) = (I210 0 35) := by rw [fI230 0 35 (by decide), eI223, z_up_n (by decide)]; have q1 : (I230 0 34) = (I210 0 34) := by rw [fI230 0 34 (by decide), eI223, z_up_n (by decide)]; have q2 : (I230 0 33) = (I210 0 33) := by rw [fI230 0 33 (by decide), eI223, z_up_n (by decide)]; have q3 : (I230 0 36) = (I210 0 36) := by rw [fI230 0 36 (by decide), eI223, z_up_n (by decide)]; show 0 ≤ (I230 0 35).toInt ∧ (I230 0 35).toInt ≤ (I230 0 34).toInt ∧ (I230 0 34).toInt ≤ (I230 0 33).toInt ∧ (I230 0 33).toInt ≤ 500 ∧ ((I230 0 36).toInt = 0 ∨ (I230 0 35).toInt + 1 ≤ (I230 0 34).toInt); rw [q0, q1, q2, q3]; first | omega | decide)
                have k242 : (I230 0 35).toInt = (I210 0 35).toInt := by rw [fI230 0 35 (by decide), eI223, z_up_n (by decide)]
                have k243 : (I230 0 34).toInt = (I210 0 34).toInt := by rw [fI230 0 34 (by decide), eI223, z_up_n (by decide)]
                have k244 : (I230 0 36).toInt = (I210 0 36).toInt := by rw [fI230 0 36 (by decide), eI223, z_up_n (by decide)]
                have k245 : (I230 0 42).toInt = (I210 0 42).toInt := by rw [fI230 0 42 (by decide), eI223, z_up_n (by decide)]
                have k246 : (I230 0 39).toInt = (I210 0 39).toInt := by rw [fI230 0 39 (by decide), eI223, z_up_n (by decide)]
                have k247 : (I230 0 15).toInt = (I210 0 15).toInt := by rw [fI230 0 15 (by decide), eI223, z_up_n (by decide)]
                have k248 : (I230 0 40).toInt = (I210 0 40).toInt := by rw [fI230 0 40 (by decide), eI223, z_up_n (by decide)]
                have h249 := hp
                refine lv_goto (tgt := 311) hx hb dX12_atom_147 (by decide) ?_
                exact z_vret hx hb hr hK hS (Nat.le_of_ble_eq_true rfl) (Nat.le_of_ble_eq_true rfl) hlocks dX12_atom_311 (shM, ad, I230, J232, PM ad) hW ⟨I230, J232, rfl, ⟨(by show 0 ≤ (I230 0 31).toInt ∧ (I230 0 31).toInt ≤ 500; exact k233), (by show 0 ≤ (I230 0 33).toInt ∧ (I230 0 33).toInt ≤ 500; exact k234), (by show 0 ≤ (I230 0 34).toInt ∧ (I230 0 34).toInt ≤ 500; exact k235), (by show 0 ≤ (I230 0 35).toInt ∧ (I230 0 35).toInt ≤ 500; exact k236)⟩, ⟨(by show 0 ≤ (I230 0 36).toInt ∧ (I230 0 36).toInt ≤ 4; exact k237), (by show 0 ≤ (I230 0 42).toInt ∧ (I230 0 42).toInt ≤ 1; exact k238)⟩, ⟨(by show 0 ≤ (I230 0 47).toInt ∧ (I230 0 47).toInt ≤ 119; exact hI230md.1), (by show 0 ≤ (I230 0 39).toInt ∧ (I230 0 39).toInt ≤ 100; exact hI230md.2)⟩, (by show 0 ≤ (I230 0 40).toInt ∧ (I230 0 40).toInt ≤ 6199; exact k239), (by show 0 ≤ (I230 0 15).toInt ∧ (I230 0 15).toInt ≤ 6100; exact k240), (z_Nd_fr a225 fI230 (by decide)), (by show 0 ≤ (I230 0 35).toInt ∧ (I230 0 35).toInt ≤ (I230 0 34).toInt ∧ (I230 0 34).toInt ≤ (I230 0 33).toInt ∧ (I230 0 33).toInt ≤ 500 ∧ ((I230 0 36).toInt = 0 ∨ (I230 0 35).toInt + 1 ≤ (I230 0 34).toInt); first | omega | decide), f231, ((Classical.em ((I230 0 42).toInt = 0)).elim (fun hw9 => Or.inr ⟨a1.toNatClampNeg + 2, by have w1 := z_fw_20 (a := va.toInt) (o := vo.toInt) (by omega); have w2 := z_fo_2n (a := va.toInt) (by omega); have w3 := z_fw_2n (a := 2) (o := vo.toInt) (by omega); have w4 := z_fo_2y (a := 2) (by omega); have w5 := z_fw_00 (a := 0) (o := -1) (by omega); have w6 := z_rk_2; have w7 := z_rk_0; exact z_PUSH (d := a1.toNatClampNeg) (w := 2) (a := 2) (o := vo.toInt) (s := 6) (wi := 0) hPS (fun i hi => ⟨by rw [eI223, z_up_n (by decide), fI210 26 i (z_wr_c (by decide)), fI189 26 i (z_wr_c (by decide)), eI186, z_up_n (by decide)], by rw [eI223, z_up_k (by omega), fI210 27 i (z_wr_c (by decide)), fI189 27 i (z_wr_c (by decide)), eI186, z_up_n (by decide)], by rw [eI223, z_up_n (by decide), fI210 28 i (z_wr_c (by decide)), fI189 28 i (z_wr_c (by decide)), eI186, z_up_n (by decide)], by rw [eI223, z_up_n (by decide), fI210 29 i (z_wr_c (by decide)), fI189 29 i (z_wr_c (by decide)), eI186, z_up_k (by omega)]⟩) (by rw [show I223 26 a1.toNatClampNeg = vw from (by rw [eI223, z_up_n (by decide), fI210 26 a1.toNatClampNeg (z_wr_c (by decide)), fI189 26 a1.toNatClampNeg (z_wr_c (by decide)), eI186, z_up_n (by decide)]; exact evw.symm)]; exact hvw) (by rw [show I223 27 a1.toNatClampNeg = 2 from (by rw [eI223, z_up_s])]; exact z_l2) (by rw [show I223 28 a1.toNatClampNeg = vo from (by rw [eI223, z_up_n (by decide), fI210 28 a1.toNatClampNeg (z_wr_c (by decide)), fI189 28 a1.toNatClampNeg (z_wr_c (by decide)), eI186, z_up_n (by decide)]; exact evo.symm)]; exact rfl) (by rw [show I223 29 a1.toNatClampNeg = 6 from (by rw [eI223, z_up_n (by decide), fI210 29 a1.toNatClampNeg (z_wr_c (by decide)), fI189 29 a1.toNatClampNeg (z_wr_c (by decide)), eI186, z_up_s])]; exact z_l6) (by unfold z_fv; omega) hwd (by rw [eI223, z_up_n (by decide)]; omega) h249 z_l0 (by omega) (by omega) (by omega) (by omega) (by omega) (by omega) (by omega) (by omega)⟩) Or.inl)⟩
          · refine lv_if_eq (tgt := 108) hx hb dX12_atom_100 (by decide) (fun c250 => ?_) (fun c250 => absurd (by decide) c250)
            refine lv_bipush (v := 7) hx hb dX12_atom_108 (by decide) ?_
            refine z_iast (i := 29) hx hb hK hW hS rfl (z_ix rfl (by omega) (by omega)) dX12_atom_110 (fun H locs hz1 hW hS => ?_)
            obtain ⟨I251, eI251⟩ : ∃ K : z_I, K = z_up I 29 a1.toNatClampNeg 7 := ⟨_, rfl⟩
            rw [← eI251] at hW
            have f252 := z_fr_a z_fr_0 (show z_wa L_X12_atom 29 = true by decide) eI251
            have a253 := z_Nd_n hNd (by decide) eI251
            refine lv_aload_n hx hb dX12_atom_111 rfl (lv_at hl 0 rfl) ?_
            refine z_cv hW hS hA (va_runV (As := []) (rest := []) ⟨hx, hb, hml, hown, hts⟩ (sx_X12_opens l G ad I251 J ⟨(by show 0 ≤ (I251 0 31).toInt ∧ (I251 0 31).toInt ≤ 500; rw [eI251, z_up_n (by decide)]; exact hmp.1), (by show 0 ≤ (I251 0 33).toInt ∧ (I251 0 33).toInt ≤ 500; rw [eI251, z_up_n (by decide)]; exact hmp.2.1), (by show 0 ≤ (I251 0 34).toInt ∧ (I251 0 34).toInt ≤ 500; rw [eI251, z_up_n (by decide)]; exact hmp.2.2.1), (by show 0 ≤ (I251 0 35).toInt ∧ (I251 0 35).toInt ≤ 500; rw [eI251, z_up_n (by decide)]; exact hmp.2.2.2)⟩ ⟨(by show 0 ≤ (I251 0 36).toInt ∧ (I251 0 36).toInt ≤ 4; rw [eI251, z_up_n (by decide)]; exact hmt.1), (by show 0 ≤ (I251 0 42).toInt ∧ (I251 0 42).toInt ≤ 1; rw [eI251, z_up_n (by decide)]; exact hmt.2)⟩ (by have q0 : (I251 0 35) = (I 0 35) := by rw [eI251, z_up_n (by decide)]; have q1 : (I251 0 34) = (I 0 34) := by rw [eI251, z_up_n (by decide)]; have q2 : (I251 0 33) = (I 0 33) := by rw [eI251, z_up_n (by decide)]; have q3 : (I251 0 36) = (I 0 36) := by rw [eI251, z_up_n (by decide)]; show 0 ≤ (I251 0 35).toInt ∧ (I251 0 35).toInt ≤ (I251 0 34).toInt ∧ (I251 0 34).toInt ≤ (I251 0 33).toInt ∧ (I251 0 33).toInt ≤ 500 ∧ ((I251 0 36).toInt = 0 ∨ (I251 0 35).toInt + 1 ≤ (I251 0 34).toInt); rw [q0, q1, q2, q3]; first | omega | decide) ⟨(by show 0 ≤ (I251 0 47).toInt ∧ (I251 0 47).toInt ≤ 119; rw [eI251, z_up_n (by decide)]; exact hmd.1), (by show 0 ≤ (I251 0 39).toInt ∧ (I251 0 39).toInt ≤ 100; rw [eI251, z_up_n (by decide)]; exact hmd.2)⟩  (by have q0 : (I251 0 39) = (I 0 39) := by rw [eI251, z_up_n (by decide)]; show (I251 0 39).toInt ≤ 9; rw [q0]; omega) _) (cwV 0 hts gX12_atom_X12_opens rfl rfl rfl (by decide +kernel) ⟨Nat.le_of_ble_eq_true rfl, Nat.le_of_ble_eq_true rfl⟩) (z_preV (i := 0) hK hW rfl rfl) rfl rfl hl.1 rfl (lv_room (Nat.le_of_ble_eq_true rfl)) dX12_atom_112 ⟨Nat.le_of_ble_eq_true rfl, Nat.le_of_ble_eq_true rfl⟩) (fun u1 H locs hp hW hS => ?_)
            obtain ⟨I254, J256, e9, hI254mp, hI254mt, hI254rp, hI254md, fI254, hp⟩ := hp
            rw [e9] at hW
            have f255 := z_fr_sub (L := L_X12_atom) f252 fI254 (by decide)
            have k257 : 0 ≤ (I254 0 40).toInt ∧ (I254 0 40).toInt ≤ 6199 := by rw [fI254 0 40 (by decide)]; exact (by show 0 ≤ (I251 0 40).toInt ∧ (I251 0 40).toInt ≤ 6199; rw [eI251, z_up_n (by decide)]; exact hmg)
            have k258 : 0 ≤ (I254 0 15).toInt ∧ (I254 0 15).toInt ≤ 6100 := by rw [fI254 0 15 (by decide)]; exact (by show 0 ≤ (I251 0 15).toInt ∧ (I251 0 15).toInt ≤ 6100; rw [eI251, z_up_n (by decide)]; exact hmn)
            have k259 : 0 ≤ (I254 0 35).toInt ∧ (I254 0 35).toInt ≤ (I254 0 34).toInt ∧ (I254 0 34).toInt ≤ (I254 0 33).toInt ∧ (I254 0 33).toInt ≤ 500 ∧ ((I254 0 36).toInt = 0 ∨ (I254 0 35).toInt + 1 ≤ (I254 0 34).toInt) := hI254rp
            have k260 : (I254 0 47).toInt = (I 0 47).toInt := by rw [fI254 0 47 (by decide), eI251, z_up_n (by decide)]
            have k261 : (I254 0 15).toInt = (I 0 15).toInt := by rw [fI254 0 15 (by decide), eI251, z_up_n (by decide)]
            have k262 : (I254 0 40).toInt = (I 0 40).toInt := by rw [fI254 0 40 (by decide), eI251, z_up_n (by decide)]
            obtain ⟨h263, h264, h265⟩ := hp
            rw [show (I251 0 39) = (I 0 39) from by rw [eI251, z_up_n (by decide)]] at h263
            rw [show (I251 0 34) = (I 0 34) from by rw [eI251, z_up_n (by decide)]] at h264
            rw [show (I251 0 39) = (I 0 39) from by rw [eI251, z_up_n (by decide)]] at h265
            refine lv_aload_n hx hb dX12_atom_115 rfl (lv_at hl 0 rfl) ?_
            have r266 : 0 ≤ (I254 0 42).toInt ∧ (I254 0 42).toInt ≤ 1 := hI254mt.2
            refine z_get (T := TX12) (N := 96) (ci := 12) (i := 0) (v := .int (I254 0 42)) hx hb hts zj_X12_atom_X12 hown hK hW rfl rfl 42 (by decide) (hts (.fieldLink RX12 294 "PetrolBoardModel" "isWrong" "Z") (List.mem_of_getElem? (i := 7) rfl)) (fun _ h => h) rfl dX12_atom_116 ?_
            refine lv_if_ne (tgt := 128) hx hb dX12_atom_119 (by decide) (fun c267 => ?_) (fun c267 => ?_)
            · have g268 := z_f_ne rfl z_l0 c267
              refine lv_aload_n hx hb dX12_atom_128 rfl (lv_at hl 0 rfl) ?_
              refine z_get (T := TX12) (N := 96) (ci := 12) (i := 0) (v := .ref (ad 27)) hx hb hts zj_X12_atom_X12 hown hK hW rfl rfl 44 (by decide) (hts (.fieldLink RX12 94 "PetrolBoardModel" "at" "[I") (List.mem_of_getElem? (i := 1) rfl)) (fun _ h => h) rfl dX12_atom_129 ?_
              refine lv_iload_n hx hb dX12_atom_132 rfl (lv_at hl 1 rfl) ?_
              refine lv_iconst (v := 2) hx hb dX12_atom_133 (by decide) ?_
              refine z_iast (i := 27) hx hb hK hW hS rfl (z_ix rfl (by omega) (by omega)) dX12_atom_134 (fun H locs hz1 hW hS => ?_)
              obtain ⟨I269, eI269⟩ : ∃ K : z_I, K = z_up I254 27 a1.toNatClampNeg 2 := ⟨_, rfl⟩
              rw [← eI269] at hW
              have f270 := z_fr_a f255 (show z_wa L_X12_atom 27 = true by decide) eI269
              have a271 := z_Nd_n (z_Nd_fr a253 fI254 (by decide)) (by decide) eI269
              refine lv_aload_n hx hb dX12_atom_135 rfl (lv_at hl 0 rfl) ?_
              refine z_get (T := TX12) (N := 96) (ci := 12) (i := 0) (v := .int (I254 0 42)) hx hb hts zj_X12_atom_X12 hown hK hW rfl rfl 42 (by decide) (hts (.fieldLink RX12 294 "PetrolBoardModel" "isWrong" "Z") (List.mem_of_getElem? (i := 7) rfl)) (fun _ h => h) (congrArg Value.int (by rw [eI269, z_up_n (by decide)])) dX12_atom_136 ?_
              refine lv_if_ne (tgt := 311) hx hb dX12_atom_139 (by decide) (fun c272 => ?_) (fun c272 => (by have g := z_f_eq rfl z_l0 c272; omega))
              have g273 := z_f_ne rfl z_l0 c272
              exact z_vret hx hb hr hK hS (Nat.le_of_ble_eq_true rfl) (Nat.le_of_ble_eq_true rfl) hlocks dX12_atom_311 (shM, ad, I269, J256, PM ad) hW ⟨I269, J256, rfl, ⟨(by show 0 ≤ (I269 0 31).toInt ∧ (I269 0 31).toInt ≤ 500; rw [eI269, z_up_n (by decide)]; exact hI254mp.1), (by show 0 ≤ (I269 0 33).toInt ∧ (I269 0 33).toInt ≤ 500; rw [eI269, z_up_n (by decide)]; exact hI254mp.2.1), (by show 0 ≤ (I269 0 34).toInt ∧ (I269 0 34).toInt ≤ 500; rw [eI269, z_up_n (by decide)]; exact hI254mp.2.2.1), (by show 0 ≤ (I269 0 35).toInt ∧ (I269 0 35).toInt ≤ 500; rw [eI269, z_up_n (by decide)]; exact hI254mp.2.2.2)⟩, ⟨(by show 0 ≤ (I269 0 36).toInt ∧ (I269 0 36).toInt ≤ 4; rw [eI269, z_up_n (by decide)]; exact hI254mt.1), (by show 0 ≤ (I269 0 42).toInt ∧ (I269 0 42).toInt ≤ 1; rw [eI269, z_up_n (by decide)]; exact hI254mt.2)⟩, ⟨(by show 0 ≤ (I269 0 47).toInt ∧ (I269 0 47).toInt ≤ 119; rw [eI269, z_up_n (by decide)]; exact hI254md.1), (by show 0 ≤ (I269 0 39).toInt ∧ (I269 0 39).toInt ≤ 100; rw [eI269, z_up_n (by decide)]; exact hI254md.2)⟩, (by show 0 ≤ (I269 0 40).toInt ∧ (I269 0 40).toInt ≤ 6199; rw [eI269, z_up_n (by decide)]; exact k257), (by show 0 ≤ (I269 0 15).toInt ∧ (I269 0 15).toInt ≤ 6100; rw [eI269, z_up_n (by decide)]; exact k258), a271, (by have q0 : (I269 0 35) = (I254 0 35) := by rw [eI269, z_up_n (by decide)]; have q1 : (I269 0 34) = (I254 0 34) := by rw [eI269, z_up_n (by decide)]; have q2 : (I269 0 33) = (I254 0 33) := by rw [eI269, z_up_n (by decide)]; have q3 : (I269 0 36) = (I254 0 36) := by rw [eI269, z_up_n (by decide)]; show 0 ≤ (I269 0 35).toInt ∧ (I269 0 35).toInt ≤ (I269 0 34).toInt ∧ (I269 0 34).toInt ≤ (I269 0 33).toInt ∧ (I269 0 33).toInt ≤ 500 ∧ ((I269 0 36).toInt = 0 ∨ (I269 0 35).toInt + 1 ≤ (I269 0 34).toInt); rw [q0, q1, q2, q3]; first | omega | decide), f270, (Or.inl (by have q0 : (I269 0 42) = (I254 0 42) := by rw [eI269, z_up_n (by decide)]; show ¬ (I269 0 42).toInt = 0; rw [q0]; omega))⟩
            · have g274 := z_f_eq rfl z_l0 c267
              refine lv_aload_n hx hb dX12_atom_122 rfl (lv_at hl 0 rfl) ?_
              refine lv_bipush (v := 40) hx hb dX12_atom_123 (by decide) ?_
              refine z_cv hW hS hA (va_runV (As := [.int 40]) (rest := []) ⟨hx, hb, hml, hown, hts⟩ (sx_X12_must l G ad I254 J256 ⟨(by show 0 ≤ (I254 0 31).toInt ∧ (I254 0 31).toInt ≤ 500; exact hI254mp.1), (by show 0 ≤ (I254 0 33).toInt ∧ (I254 0 33).toInt ≤ 500; exact hI254mp.2.1), (by show 0 ≤ (I254 0 34).toInt ∧ (I254 0 34).toInt ≤ 500; exact hI254mp.2.2.1), (by show 0 ≤ (I254 0 35).toInt ∧ (I254 0 35).toInt ≤ 500; exact hI254mp.2.2.2)⟩ ⟨(by show 0 ≤ (I254 0 36).toInt ∧ (I254 0 36).toInt ≤ 4; exact hI254mt.1), (by show 0 ≤ (I254 0 42).toInt ∧ (I254 0 42).toInt ≤ 1; exact hI254mt.2)⟩ (by show 0 ≤ (I254 0 35).toInt ∧ (I254 0 35).toInt ≤ (I254 0 34).toInt ∧ (I254 0 34).toInt ≤ (I254 0 33).toInt ∧ (I254 0 33).toInt ≤ 500 ∧ ((I254 0 36).toInt = 0 ∨ (I254 0 35).toInt + 1 ≤ (I254 0 34).toInt); first | omega | decide) 40 _) (cwV 1 hts gX12_atom_X12_must rfl rfl rfl (by decide +kernel) ⟨Nat.le_of_ble_eq_true rfl, Nat.le_of_ble_eq_true rfl⟩) (z_preV (i := 0) hK hW rfl rfl) rfl rfl hl.1 rfl (lv_room (Nat.le_of_ble_eq_true rfl)) dX12_atom_125 ⟨Nat.le_of_ble_eq_true rfl, Nat.le_of_ble_eq_true rfl⟩) (fun u1 H locs hp hW hS => ?_)
              obtain ⟨I275, J277, e9, hI275mp, hI275mt, hI275rp, fI275, hp⟩ := hp
              rw [e9] at hW
              have f276 := z_fr_sub (L := L_X12_atom) f255 fI275 (by decide)
              have k278 : 0 ≤ (I275 0 47).toInt ∧ (I275 0 47).toInt ≤ 119 := by rw [fI275 0 47 (by decide)]; exact (by show 0 ≤ (I254 0 47).toInt ∧ (I254 0 47).toInt ≤ 119; exact hI254md.1)
              have k279 : 0 ≤ (I275 0 39).toInt ∧ (I275 0 39).toInt ≤ 100 := by rw [fI275 0 39 (by decide)]; exact (by show 0 ≤ (I254 0 39).toInt ∧ (I254 0 39).toInt ≤ 100; exact hI254md.2)
              have k280 : 0 ≤ (I275 0 40).toInt ∧ (I275 0 40).toInt ≤ 6199 := by rw [fI275 0 40 (by decide)]; exact (by show 0 ≤ (I254 0 40).toInt ∧ (I254 0 40).toInt ≤ 6199; exact k257)
              have k281 : 0 ≤ (I275 0 15).toInt ∧ (I275 0 15).toInt ≤ 6100 := by rw [fI275 0 15 (by decide)]; exact (by show 0 ≤ (I254 0 15).toInt ∧ (I254 0 15).toInt ≤ 6100; exact k258)
              have k282 : 0 ≤ (I275 0 35).toInt ∧ (I275 0 35).toInt ≤ (I275 0 34).toInt ∧ (I275 0 34).toInt ≤ (I275 0 33).toInt ∧ (I275 0 33).toInt ≤ 500 ∧ ((I275 0 36).toInt = 0 ∨ (I275 0 35).toInt + 1 ≤ (I275 0 34).toInt) := hI275rp
              have k283 : (I275 0 47).toInt = (I254 0 47).toInt := by rw [fI275 0 47 (by decide)]
              have k284 : (I275 0 39).toInt = (I254 0 39).toInt := by rw [fI275 0 39 (by decide)]
              have k285 : (I275 0 15).toInt = (I254 0 15).toInt := by rw [fI275 0 15 (by decide)]
              have k286 : (I275 0 40).toInt = (I254 0 40).toInt := by rw [fI275 0 40 (by decide)]
              have h287 := hp
              refine lv_aload_n hx hb dX12_atom_128 rfl (lv_at hl 0 rfl) ?_
              refine z_get (T := TX12) (N := 96) (ci := 12) (i := 0) (v := .ref (ad 27)) hx hb hts zj_X12_atom_X12 hown hK hW rfl rfl 44 (by decide) (hts (.fieldLink RX12 94 "PetrolBoardModel" "at" "[I") (List.mem_of_getElem? (i := 1) rfl)) (fun _ h => h) rfl dX12_atom_129 ?_
              refine lv_iload_n hx hb dX12_atom_132 rfl (lv_at hl 1 rfl) ?_
              refine lv_iconst (v := 2) hx hb dX12_atom_133 (by decide) ?_
              refine z_iast (i := 27) hx hb hK hW hS rfl (z_ix rfl (by omega) (by omega)) dX12_atom_134 (fun H locs hz1 hW hS => ?_)
              obtain ⟨I288, eI288⟩ : ∃ K : z_I, K = z_up I275 27 a1.toNatClampNeg 2 := ⟨_, rfl⟩
              rw [← eI288] at hW
              have f289 := z_fr_a f276 (show z_wa L_X12_atom 27 = true by decide) eI288
              have a290 := z_Nd_n (z_Nd_fr (z_Nd_fr a253 fI254 (by decide)) fI275 (by decide)) (by decide) eI288
              refine lv_aload_n hx hb dX12_atom_135 rfl (lv_at hl 0 rfl) ?_
              have r291 : 0 ≤ (I275 0 42).toInt ∧ (I275 0 42).toInt ≤ 1 := hI275mt.2
              refine z_get (T := TX12) (N := 96) (ci := 12) (i := 0) (v := .int (I275 0 42)) hx hb hts zj_X12_atom_X12 hown hK hW rfl rfl 42 (by decide) (hts (.fieldLink RX12 294 "PetrolBoardModel" "isWrong" "Z") (List.mem_of_getElem? (i := 7) rfl)) (fun _ h => h) (congrArg Value.int (by rw [eI288, z_up_n (by decide)])) dX12_atom_136 ?_
              refine lv_if_ne (tgt := 311) hx hb dX12_atom_139 (by decide) (fun c292 => ?_) (fun c292 => ?_)
              · have g293 := z_f_ne rfl z_l0 c292
                exact z_vret hx hb hr hK hS (Nat.le_of_ble_eq_true rfl) (Nat.le_of_ble_eq_true rfl) hlocks dX12_atom_311 (shM, ad, I288, J277, PM ad) hW ⟨I288, J277, rfl, ⟨(by show 0 ≤ (I288 0 31).toInt ∧ (I288 0 31).toInt ≤ 500; rw [eI288, z_up_n (by decide)]; exact hI275mp.1), (by show 0 ≤ (I288 0 33).toInt ∧ (I288 0 33).toInt ≤ 500; rw [eI288, z_up_n (by decide)]; exact hI275mp.2.1), (by show 0 ≤ (I288 0 34).toInt ∧ (I288 0 34).toInt ≤ 500; rw [eI288, z_up_n (by decide)]; exact hI275mp.2.2.1), (by show 0 ≤ (I288 0 35).toInt ∧ (I288 0 35).toInt ≤ 500; rw [eI288, z_up_n (by decide)]; exact hI275mp.2.2.2)⟩, ⟨(by show 0 ≤ (I288 0 36).toInt ∧ (I288 0 36).toInt ≤ 4; rw [eI288, z_up_n (by decide)]; exact hI275mt.1), (by show 0 ≤ (I288 0 42).toInt ∧ (I288 0 42).toInt ≤ 1; rw [eI288, z_up_n (by decide)]; exact hI275mt.2)⟩, ⟨(by show 0 ≤ (I288 0 47).toInt ∧ (I288 0 47).toInt ≤ 119; rw [eI288, z_up_n (by decide)]; exact k278), (by show 0 ≤ (I288 0 39).toInt ∧ (I288 0 39).toInt ≤ 100; rw [eI288, z_up_n (by decide)]; exact k279)⟩, (by show 0 ≤ (I288 0 40).toInt ∧ (I288 0 40).toInt ≤ 6199; rw [eI288, z_up_n (by decide)]; exact k280), (by show 0 ≤ (I288 0 15).toInt ∧ (I288 0 15).toInt ≤ 6100; rw [eI288, z_up_n (by decide)]; exact k281), a290, (by have q0 : (I288 0 35) = (I275 0 35) := by rw [eI288, z_up_n (by decide)]; have q1 : (I288 0 34) = (I275 0 34) := by rw [eI288, z_up_n (by decide)]; have q2 : (I288 0 33) = (I275 0 33) := by rw [eI288, z_up_n (by decide)]; have q3 : (I288 0 36) = (I275 0 36) := by rw [eI288, z_up_n (by decide)]; show 0 ≤ (I288 0 35).toInt ∧ (I288 0 35).toInt ≤ (I288 0 34).toInt ∧ (I288 0 34).toInt ≤ (I288 0 33).toInt ∧ (I288 0 33).toInt ≤ 500 ∧ ((I288 0 36).toInt = 0 ∨ (I288 0 35).toInt + 1 ≤ (I288 0 34).toInt); rw [q0, q1, q2, q3]; first | omega | decide), f289, (Or.inl (by have q0 : (I288 0 42) = (I275 0 42) := by rw [eI288, z_up_n (by decide)]; show ¬ (I288 0 42).toInt = 0; rw [q0]; omega))⟩
              · have g294 := z_f_eq rfl z_l0 c292
                refine lv_aload_n hx hb dX12_atom_142 rfl (lv_at hl 0 rfl) ?_
                refine lv_iconst (v := 0) hx hb dX12_atom_143 (by decide) ?_
                refine z_cv hW hS hA (va_runV (As := [.int 0]) (rest := []) ⟨hx, hb, hml, hown, hts⟩ (sx_X12_begin l G ad I288 J277 ⟨(by show 0 ≤ (I288 0 47).toInt ∧ (I288 0 47).toInt ≤ 119; rw [eI288, z_up_n (by decide)]; exact k278), (by show 0 ≤ (I288 0 39).toInt ∧ (I288 0 39).toInt ≤ 100; rw [eI288, z_up_n (by decide)]; exact k279)⟩ 0 (by have q0 : (I288 0 47) = (I275 0 47) := by rw [eI288, z_up_n (by decide)]; show (I288 0 47).toInt ≤ 118; rw [q0]; omega) _) (cwV 1 hts gX12_atom_X12_begin rfl rfl rfl (by decide +kernel) ⟨Nat.le_of_ble_eq_true rfl, Nat.le_of_ble_eq_true rfl⟩) (z_preV (i := 0) hK hW rfl rfl) rfl rfl hl.1 rfl (lv_room (Nat.le_of_ble_eq_true rfl)) dX12_atom_144 ⟨Nat.le_of_ble_eq_true rfl, Nat.le_of_ble_eq_true rfl⟩) (fun u1 H locs hp hW hS => ?_)
                obtain ⟨I295, J297, e9, hI295md, fI295, hp⟩ := hp
                rw [e9] at hW
                have f296 := z_fr_sub (L := L_X12_atom) f289 fI295 (by decide)
                have k298 : 0 ≤ (I295 0 31).toInt ∧ (I295 0 31).toInt ≤ 500 := by rw [fI295 0 31 (by decide)]; exact (by show 0 ≤ (I288 0 31).toInt ∧ (I288 0 31).toInt ≤ 500; rw [eI288, z_up_n (by decide)]; exact hI275mp.1)
                have k299 : 0 ≤ (I295 0 33).toInt ∧ (I295 0 33).toInt ≤ 500 := by rw [fI295 0 33 (by decide)]; exact (by show 0 ≤ (I288 0 33).toInt ∧ (I288 0 33).toInt ≤ 500; rw [eI288, z_up_n (by decide)]; exact hI275mp.2.1)
                have k300 : 0 ≤ (I295 0 34).toInt ∧ (I295 0 34).toInt ≤ 500 := by rw [fI295 0 34 (by decide)]; exact (by show 0 ≤ (I288 0 34).toInt ∧ (I288 0 34).toInt ≤ 500; rw [eI288, z_up_n (by decide)]; exact hI275mp.2.2.1)
                have k301 : 0 ≤ (I295 0 35).toInt ∧ (I295 0 35).toInt ≤ 500 := by rw [fI295 0 35 (by decide)]; exact (by show 0 ≤ (I288 0 35).toInt ∧ (I288 0 35).toInt ≤ 500; rw [eI288, z_up_n (by decide)]; exact hI275mp.2.2.2)
                have k302 : 0 ≤ (I295 0 36).toInt ∧ (I295 0 36).toInt ≤ 4 := by rw [fI295 0 36 (by decide)]; exact (by show 0 ≤ (I288 0 36).toInt ∧ (I288 0 36).toInt ≤ 4; rw [eI288, z_up_n (by decide)]; exact hI275mt.1)
                have k303 : 0 ≤ (I295 0 42).toInt ∧ (I295 0 42).toInt ≤ 1 := by rw [fI295 0 42 (by decide)]; exact (by show 0 ≤ (I288 0 42).toInt ∧ (I288 0 42).toInt ≤ 1; rw [eI288, z_up_n (by decide)]; exact hI275mt.2)
                have k304 : 0 ≤ (I295 0 40).toInt ∧ (I295 0 40).toInt ≤ 6199 := by rw [fI295 0 40 (by decide)]; exact (by show 0 ≤ (I288 0 40).toInt ∧ (I288 0 40).toInt ≤ 6199; rw [eI288, z_up_n (by decide)]; exact k280)
                have k305 : 0 ≤ (I295 0 15).toInt ∧ (I295 0 15).toInt ≤ 6100 := by rw [fI295 0 15 (by decide)]; exact (by show 0 ≤ (I288 0 15).toInt ∧ (I288 0 15).toInt ≤ 6100; rw [eI288, z_up_n (by decide)]; exact k281)
                have k306 : 0 ≤ (I295 0 35).toInt ∧ (I295 0 35).toInt ≤ (I295 0 34).toInt ∧ (I295 0 34).toInt ≤ (I295 0 33).toInt ∧ (I295 0 33).toInt ≤ 500 ∧ ((I295 0 36).toInt = 0 ∨ (I295 0 35).toInt + 1 ≤ (I295 0 34).toInt) := (by have q0 : (I295 0 35) = (I275 0 35) := by rw [fI295 0 35 (by decide), eI288, z_up_n (by decide)]; have q1 : (I295 0 34) = (I275 0 34) := by rw [fI295 0 34 (by decide), eI288, z_up_n (by decide)]; have q2 : (I295 0 33) = (I275 0 33) := by rw [fI295 0 33 (by decide), eI288, z_up_n (by decide)]; have q3 : (I295 0 36) = (I275 0 36) := by rw [fI295 0 36 (by decide), eI288, z_up_n (by decide)]; show 0 ≤ (I295 0 35).toInt ∧ (I295 0 35).toInt ≤ (I295 0 34).toInt ∧ (I295 0 34).toInt ≤ (I295 0 33).toInt ∧ (I295 0 33).toInt ≤ 500 ∧ ((I295 0 36).toInt = 0 ∨ (I295 0 35).toInt + 1 ≤ (I295 0 34).toInt); rw [q0, q1, q2, q3]; first | omega | decide)
                have k307 : (I295 0 35).toInt = (I275 0 35).toInt := by rw [fI295 0 35 (by decide), eI288, z_up_n (by decide)]
                have k308 : (I295 0 34).toInt = (I275 0 34).toInt := by rw [fI295 0 34 (by decide), eI288, z_up_n (by decide)]
                have k309 : (I295 0 36).toInt = (I275 0 36).toInt := by rw [fI295 0 36 (by decide), eI288, z_up_n (by decide)]
                have k310 : (I295 0 42).toInt = (I275 0 42).toInt := by rw [fI295 0 42 (by decide), eI288, z_up_n (by decide)]
                have k311 : (I295 0 39).toInt = (I275 0 39).toInt := by rw [fI295 0 39 (by decide), eI288, z_up_n (by decide)]
                have k312 : (I295 0 15).toInt = (I275 0 15).toInt := by rw [fI295 0 15 (by decide), eI288, z_up_n (by decide)]
                have k313 : (I295 0 40).toInt = (I275 0 40).toInt := by rw [fI295 0 40 (by decide), eI288, z_up_n (by decide)]
                have h314 := hp
                refine lv_goto (tgt := 311) hx hb dX12_atom_147 (by decide) ?_
                exact z_vret hx hb hr hK hS (Nat.le_of_ble_eq_true rfl) (Nat.le_of_ble_eq_true rfl) hlocks dX12_atom_311 (shM, ad, I295, J297, PM ad) hW ⟨I295, J297, rfl, ⟨(by show 0 ≤ (I295 0 31).toInt ∧ (I295 0 31).toInt ≤ 500; exact k298), (by show 0 ≤ (I295 0 33).toInt ∧ (I295 0 33).toInt ≤ 500; exact k299), (by show 0 ≤ (I295 0 34).toInt ∧ (I295 0 34).toInt ≤ 500; exact k300), (by show 0 ≤ (I295 0 35).toInt ∧ (I295 0 35).toInt ≤ 500; exact k301)⟩, ⟨(by show 0 ≤ (I295 0 36).toInt ∧ (I295 0 36).toInt ≤ 4; exact k302), (by show 0 ≤ (I295 0 42).toInt ∧ (I295 0 42).toInt ≤ 1; exact k303)⟩, ⟨(by show 0 ≤ (I295 0 47).toInt ∧ (I295 0 47).toInt ≤ 119; exact hI295md.1), (by show 0 ≤ (I295 0 39).toInt ∧ (I295 0 39).toInt ≤ 100; exact hI295md.2)⟩, (by show 0 ≤ (I295 0 40).toInt ∧ (I295 0 40).toInt ≤ 6199; exact k304), (by show 0 ≤ (I295 0 15).toInt ∧ (I295 0 15).toInt ≤ 6100; exact k305), (z_Nd_fr a290 fI295 (by decide)), (by show 0 ≤ (I295 0 35).toInt ∧ (I295 0 35).toInt ≤ (I295 0 34).toInt ∧ (I295 0 34).toInt ≤ (I295 0 33).toInt ∧ (I295 0 33).toInt ≤ 500 ∧ ((I295 0 36).toInt = 0 ∨ (I295 0 35).toInt + 1 ≤ (I295 0 34).toInt); first | omega | decide), f296, ((Classical.em ((I295 0 42).toInt = 0)).elim (fun hw9 => Or.inr ⟨a1.toNatClampNeg + 2, by have w1 := z_fw_20 (a := va.toInt) (o := vo.toInt) (by omega); have w2 := z_fo_2n (a := va.toInt) (by omega); have w3 := z_fw_2n (a := 2) (o := vo.toInt) (by omega); have w4 := z_fo_2y (a := 2) (by omega); have w5 := z_fw_00 (a := 0) (o := -1) (by omega); have w6 := z_rk_2; have w7 := z_rk_0; exact z_PUSH (d := a1.toNatClampNeg) (w := 2) (a := 2) (o := vo.toInt) (s := 7) (wi := 0) hPS (fun i hi => ⟨by rw [eI288, z_up_n (by decide), fI275 26 i (z_wr_c (by decide)), fI254 26 i (z_wr_c (by decide)), eI251, z_up_n (by decide)], by rw [eI288, z_up_k (by omega), fI275 27 i (z_wr_c (by decide)), fI254 27 i (z_wr_c (by decide)), eI251, z_up_n (by decide)], by rw [eI288, z_up_n (by decide), fI275 28 i (z_wr_c (by decide)), fI254 28 i (z_wr_c (by decide)), eI251, z_up_n (by decide)], by rw [eI288, z_up_n (by decide), fI275 29 i (z_wr_c (by decide)), fI254 29 i (z_wr_c (by decide)), eI251, z_up_k (by omega)]⟩) (by rw [show I288 26 a1.toNatClampNeg = vw from (by rw [eI288, z_up_n (by decide), fI275 26 a1.toNatClampNeg (z_wr_c (by decide)), fI254 26 a1.toNatClampNeg (z_wr_c (by decide)), eI251, z_up_n (by decide)]; exact evw.symm)]; exact hvw) (by rw [show I288 27 a1.toNatClampNeg = 2 from (by rw [eI288, z_up_s])]; exact z_l2) (by rw [show I288 28 a1.toNatClampNeg = vo from (by rw [eI288, z_up_n (by decide), fI275 28 a1.toNatClampNeg (z_wr_c (by decide)), fI254 28 a1.toNatClampNeg (z_wr_c (by decide)), eI251, z_up_n (by decide)]; exact evo.symm)]; exact rfl) (by rw [show I288 29 a1.toNatClampNeg = 7 from (by rw [eI288, z_up_n (by decide), fI275 29 a1.toNatClampNeg (z_wr_c (by decide)), fI254 29 a1.toNatClampNeg (z_wr_c (by decide)), eI251, z_up_s])]; exact z_l7) (by unfold z_fv; omega) hwd (by rw [eI288, z_up_n (by decide)]; omega) h314 z_l0 (by omega) (by omega) (by omega) (by omega) (by omega) (by omega) (by omega) (by omega)⟩) Or.inl)⟩
        · refine lv_if_ne (tgt := 88) hx hb dX12_atom_75 (by decide) (fun c315 => absurd (by decide) c315) (fun c315 => ?_)
          refine lv_aload_n hx hb dX12_atom_78 rfl (lv_at hl 0 rfl) ?_
          refine lv_ldc2 (v := 267347) hx hb hown (hts (.constantLong RX12 381 (267347)) (List.mem_of_getElem? (i := 5) rfl)) dX12_atom_79 ?_
          refine z_ci hW hS hA (va_runV (As := [.long 267347]) (rest := []) ⟨hx, hb, hml, hown, hts⟩ (sx_X12_isWord l G ad I J ⟨(by show 0 ≤ (I 0 36).toInt ∧ (I 0 36).toInt ≤ 4; exact hmt.1), (by show 0 ≤ (I 0 42).toInt ∧ (I 0 42).toInt ≤ 1; exact hmt.2)⟩ 267347 _) (cwV 1 hts gX12_atom_X12_isWord rfl rfl rfl (by decide +kernel) ⟨Nat.le_of_ble_eq_true rfl, Nat.le_of_ble_eq_true rfl⟩) (z_preV (i := 0) hK hW rfl rfl) rfl rfl hl.1 rfl (lv_room (Nat.le_of_ble_eq_true rfl)) dX12_atom_82 ⟨Nat.le_of_ble_eq_true rfl, Nat.le_of_ble_eq_true rfl⟩) (fun r u1 H locs hp hW hS => ?_)
          obtain ⟨e9, hp⟩ := hp
          rw [e9] at hW
          rcases hp with ⟨rfl, h316⟩ | rfl
          · have h317 : (I 0 35).toInt + 1 ≤ (I 0 34).toInt := by omega
            refine lv_if_eq (tgt := 150) hx hb dX12_atom_85 (by decide) (fun c318 => absurd c318 (by decide)) (fun c318 => ?_)
            refine lv_aload_n hx hb dX12_atom_88 rfl (lv_at hl 0 rfl) ?_
            refine z_get (T := TX12) (N := 96) (ci := 12) (i := 0) (v := .ref (ad 29)) hx hb hts zj_X12_atom_X12 hown hK hW rfl rfl 46 (by decide) (hts (.fieldLink RX12 100 "PetrolBoardModel" "sort" "[I") (List.mem_of_getElem? (i := 6) rfl)) (fun _ h => h) rfl dX12_atom_89 ?_
            refine lv_iload_n hx hb dX12_atom_92 rfl (lv_at hl 1 rfl) ?_
            refine lv_aload_n hx hb dX12_atom_93 rfl (lv_at hl 0 rfl) ?_
            refine lv_ldc2 (v := 6476969) hx hb hown (hts (.constantLong RX12 375 (6476969)) (List.mem_of_getElem? (i := 4) rfl)) dX12_atom_94 ?_
            refine z_ci hW hS hA (va_runV (As := [.long 6476969]) (rest := [.int a1, .ref (ad 29)]) ⟨hx, hb, hml, hown, hts⟩ (sx_X12_isWord l G ad I J ⟨(by show 0 ≤ (I 0 36).toInt ∧ (I 0 36).toInt ≤ 4; exact hmt.1), (by show 0 ≤ (I 0 42).toInt ∧ (I 0 42).toInt ≤ 1; exact hmt.2)⟩ 6476969 _) (cwV 1 hts gX12_atom_X12_isWord rfl rfl rfl (by decide +kernel) ⟨Nat.le_of_ble_eq_true rfl, Nat.le_of_ble_eq_true rfl⟩) (z_preV (i := 0) hK hW rfl rfl) rfl rfl hl.1 rfl (lv_room (Nat.le_of_ble_eq_true rfl)) dX12_atom_97 ⟨Nat.le_of_ble_eq_true rfl, Nat.le_of_ble_eq_true rfl⟩) (fun r u1 H locs hp hW hS => ?_)
            obtain ⟨e9, hp⟩ := hp
            rw [e9] at hW
            rcases hp with ⟨rfl, h319⟩ | rfl
            · have h320 : (I 0 35).toInt + 1 ≤ (I 0 34).toInt := by omega
              refine lv_if_eq (tgt := 108) hx hb dX12_atom_100 (by decide) (fun c321 => absurd c321 (by decide)) (fun c321 => ?_)
              refine lv_bipush (v := 6) hx hb dX12_atom_103 (by decide) ?_
              refine lv_goto (tgt := 110) hx hb dX12_atom_105 (by decide) ?_
              refine z_iast (i := 29) hx hb hK hW hS rfl (z_ix rfl (by omega) (by omega)) dX12_atom_110 (fun H locs hz1 hW hS => ?_)
              obtain ⟨I322, eI322⟩ : ∃ K : z_I, K = z_up I 29 a1.toNatClampNeg 6 := ⟨_, rfl⟩
              rw [← eI322] at hW
              have f323 := z_fr_a z_fr_0 (show z_wa L_X12_atom 29 = true by decide) eI322
              have a324 := z_Nd_n hNd (by decide) eI322
              refine lv_aload_n hx hb dX12_atom_111 rfl (lv_at hl 0 rfl) ?_
              refine z_cv hW hS hA (va_runV (As := []) (rest := []) ⟨hx, hb, hml, hown, hts⟩ (sx_X12_opens l G ad I322 J ⟨(by show 0 ≤ (I322 0 31).toInt ∧ (I322 0 31).toInt ≤ 500; rw [eI322, z_up_n (by decide)]; exact hmp.1), (by show 0 ≤ (I322 0 33).toInt ∧ (I322 0 33).toInt ≤ 500; rw [eI322, z_up_n (by decide)]; exact hmp.2.1), (by show 0 ≤ (I322 0 34).toInt ∧ (I322 0 34).toInt ≤ 500; rw [eI322, z_up_n (by decide)]; exact hmp.2.2.1), (by show 0 ≤ (I322 0 35).toInt ∧ (I322 0 35).toInt ≤ 500; rw [eI322, z_up_n (by decide)]; exact hmp.2.2.2)⟩ ⟨(by show 0 ≤ (I322 0 36).toInt ∧ (I322 0 36).toInt ≤ 4; rw [eI322, z_up_n (by decide)]; exact hmt.1), (by show 0 ≤ (I322 0 42).toInt ∧ (I322 0 42).toInt ≤ 1; rw [eI322, z_up_n (by decide)]; exact hmt.2)⟩ (by have q0 : (I322 0 35) = (I 0 35) := by rw [eI322, z_up_n (by decide)]; have q1 : (I322 0 34) = (I 0 34) := by rw [eI322, z_up_n (by decide)]; have q2 : (I322 0 33) = (I 0 33) := by rw [eI322, z_up_n (by decide)]; have q3 : (I322 0 36) = (I 0 36) := by rw [eI322, z_up_n (by decide)]; show 0 ≤ (I322 0 35).toInt ∧ (I322 0 35).toInt ≤ (I322 0 34).toInt ∧ (I322 0 34).toInt ≤ (I322 0 33).toInt ∧ (I322 0 33).toInt ≤ 500 ∧ ((I322 0 36).toInt = 0 ∨ (I322 0 35).toInt + 1 ≤ (I322 0 34).toInt); rw [q0, q1, q2, q3]; first | omega | decide) ⟨(by show 0 ≤ (I322 0 47).toInt ∧ (I322 0 47).toInt ≤ 119; rw [eI322, z_up_n (by decide)]; exact hmd.1), (by show 0 ≤ (I322 0 39).toInt ∧ (I322 0 39).toInt ≤ 100; rw [eI322, z_up_n (by decide)]; exact hmd.2)⟩  (by have q0 : (I322 0 39) = (I 0 39) := by rw [eI322, z_up_n (by decide)]; show (I322 0 39).toInt ≤ 9; rw [q0]; omega) _) (cwV 0 hts gX12_atom_X12_opens rfl rfl rfl (by decide +kernel) ⟨Nat.le_of_ble_eq_true rfl, Nat.le_of_ble_eq_true rfl⟩) (z_preV (i := 0) hK hW rfl rfl) rfl rfl hl.1 rfl (lv_room (Nat.le_of_ble_eq_true rfl)) dX12_atom_112 ⟨Nat.le_of_ble_eq_true rfl, Nat.le_of_ble_eq_true rfl⟩) (fun u1 H locs hp hW hS => ?_)
              obtain ⟨I325, J327, e9, hI325mp, hI325mt, hI325rp, hI325md, fI325, hp⟩ := hp
              rw [e9] at hW
              have f326 := z_fr_sub (L := L_X12_atom) f323 fI325 (by decide)
              have k328 : 0 ≤ (I325 0 40).toInt ∧ (I325 0 40).toInt ≤ 6199 := by rw [fI325 0 40 (by decide)]; exact (by show 0 ≤ (I322 0 40).toInt ∧ (I322 0 40).toInt ≤ 6199; rw [eI322, z_up_n (by decide)]; exact hmg)
              have k329 : 0 ≤ (I325 0 15).toInt ∧ (I325 0 15).toInt ≤ 6100 := by rw [fI325 0 15 (by decide)]; exact (by show 0 ≤ (I322 0 15).toInt ∧ (I322 0 15).toInt ≤ 6100; rw [eI322, z_up_n (by decide)]; exact hmn)
              have k330 : 0 ≤ (I325 0 35).toInt ∧ (I325 0 35).toInt ≤ (I325 0 34).toInt ∧ (I325 0 34).toInt ≤ (I325 0 33).toInt ∧ (I325 0 33).toInt ≤ 500 ∧ ((I325 0 36).toInt = 0 ∨ (I325 0 35).toInt + 1 ≤ (I325 0 34).toInt) := hI325rp
              have k331 : (I325 0 47).toInt = (I 0 47).toInt := by rw [fI325 0 47 (by decide), eI322, z_up_n (by decide)]
              have k332 : (I325 0 15).toInt = (I 0 15).toInt := by rw [fI325 0 15 (by decide), eI322, z_up_n (by decide)]
              have k333 : (I325 0 40).toInt = (I 0 40).toInt := by rw [fI325 0 40 (by decide), eI322, z_up_n (by decide)]
              obtain ⟨h334, h335, h336⟩ := hp
              rw [show (I322 0 39) = (I 0 39) from by rw [eI322, z_up_n (by decide)]] at h334
              rw [show (I322 0 34) = (I 0 34) from by rw [eI322, z_up_n (by decide)]] at h335
              rw [show (I322 0 39) = (I 0 39) from by rw [eI322, z_up_n (by decide)]] at h336
              refine lv_aload_n hx hb dX12_atom_115 rfl (lv_at hl 0 rfl) ?_
              have r337 : 0 ≤ (I325 0 42).toInt ∧ (I325 0 42).toInt ≤ 1 := hI325mt.2
              refine z_get (T := TX12) (N := 96) (ci := 12) (i := 0) (v := .int (I325 0 42)) hx hb hts zj_X12_atom_X12 hown hK hW rfl rfl 42 (by decide) (hts (.fieldLink RX12 294 "PetrolBoardModel" "isWrong" "Z") (List.mem_of_getElem? (i := 7) rfl)) (fun _ h => h) rfl dX12_atom_116 ?_
              refine lv_if_ne (tgt := 128) hx hb dX12_atom_119 (by decide) (fun c338 => ?_) (fun c338 => ?_)
              · have g339 := z_f_ne rfl z_l0 c338
                refine lv_aload_n hx hb dX12_atom_128 rfl (lv_at hl 0 rfl) ?_
                refine z_get (T := TX12) (N := 96) (ci := 12) (i := 0) (v := .ref (ad 27)) hx hb hts zj_X12_atom_X12 hown hK hW rfl rfl 44 (by decide) (hts (.fieldLink RX12 94 "PetrolBoardModel" "at" "[I") (List.mem_of_getElem? (i := 1) rfl)) (fun _ h => h) rfl dX12_atom_129 ?_
                refine lv_iload_n hx hb dX12_atom_132 rfl (lv_at hl 1 rfl) ?_
                refine lv_iconst (v := 2) hx hb dX12_atom_133 (by decide) ?_
                refine z_iast (i := 27) hx hb hK hW hS rfl (z_ix rfl (by omega) (by omega)) dX12_atom_134 (fun H locs hz1 hW hS => ?_)
                obtain ⟨I340, eI340⟩ : ∃ K : z_I, K = z_up I325 27 a1.toNatClampNeg 2 := ⟨_, rfl⟩
                rw [← eI340] at hW
                have f341 := z_fr_a f326 (show z_wa L_X12_atom 27 = true by decide) eI340
                have a342 := z_Nd_n (z_Nd_fr a324 fI325 (by decide)) (by decide) eI340
                refine lv_aload_n hx hb dX12_atom_135 rfl (lv_at hl 0 rfl) ?_
                refine z_get (T := TX12) (N := 96) (ci := 12) (i := 0) (v := .int (I325 0 42)) hx hb hts zj_X12_atom_X12 hown hK hW rfl rfl 42 (by decide) (hts (.fieldLink RX12 294 "PetrolBoardModel" "isWrong" "Z") (List.mem_of_getElem? (i := 7) rfl)) (fun _ h => h) (congrArg Value.int (by rw [eI340, z_up_n (by decide)])) dX12_atom_136 ?_
                refine lv_if_ne (tgt := 311) hx hb dX12_atom_139 (by decide) (fun c343 => ?_) (fun c343 => (by have g := z_f_eq rfl z_l0 c343; omega))
                have g344 := z_f_ne rfl z_l0 c343
                exact z_vret hx hb hr hK hS (Nat.le_of_ble_eq_true rfl) (Nat.le_of_ble_eq_true rfl) hlocks dX12_atom_311 (shM, ad, I340, J327, PM ad) hW ⟨I340, J327, rfl, ⟨(by show 0 ≤ (I340 0 31).toInt ∧ (I340 0 31).toInt ≤ 500; rw [eI340, z_up_n (by decide)]; exact hI325mp.1), (by show 0 ≤ (I340 0 33).toInt ∧ (I340 0 33).toInt ≤ 500; rw [eI340, z_up_n (by decide)]; exact hI325mp.2.1), (by show 0 ≤ (I340 0 34).toInt ∧ (I340 0 34).toInt ≤ 500; rw [eI340, z_up_n (by decide)]; exact hI325mp.2.2.1), (by show 0 ≤ (I340 0 35).toInt ∧ (I340 0 35).toInt ≤ 500; rw [eI340, z_up_n (by decide)]; exact hI325mp.2.2.2)⟩, ⟨(by show 0 ≤ (I340 0 36).toInt ∧ (I340 0 36).toInt ≤ 4; rw [eI340, z_up_n (by decide)]; exact hI325mt.1), (by show 0 ≤ (I340 0 42).toInt ∧ (I340 0 42).toInt ≤ 1; rw [eI340, z_up_n (by decide)]; exact hI325mt.2)⟩, ⟨(by show 0 ≤ (I340 0 47).toInt ∧ (I340 0 47).toInt ≤ 119; rw [eI340, z_up_n (by decide)]; exact hI325md.1), (by show 0 ≤ (I340 0 39).toInt ∧ (I340 0 39).toInt ≤ 100; rw [eI340, z_up_n (by decide)]; exact hI325md.2)⟩, (by show 0 ≤ (I340 0 40).toInt ∧ (I340 0 40).toInt ≤ 6199; rw [eI340, z_up_n (by decide)]; exact k328), (by show 0 ≤ (I340 0 15).toInt ∧ (I340 0 15).toInt ≤ 6100; rw [eI340, z_up_n (by decide)]; exact k329), a342, (by have q0 : (I340 0 35) = (I325 0 35) := by rw [eI340, z_up_n (by decide)]; have q1 : (I340 0 34) = (I325 0 34) := by rw [eI340, z_up_n (by decide)]; have q2 : (I340 0 33) = (I325 0 33) := by rw [eI340, z_up_n (by decide)]; have q3 : (I340 0 36) = (I325 0 36) := by rw [eI340, z_up_n (by decide)]; show 0 ≤ (I340 0 35).toInt ∧ (I340 0 35).toInt ≤ (I340 0 34).toInt ∧ (I340 0 34).toInt ≤ (I340 0 33).toInt ∧ (I340 0 33).toInt ≤ 500 ∧ ((I340 0 36).toInt = 0 ∨ (I340 0 35).toInt + 1 ≤ (I340 0 34).toInt); rw [q0, q1, q2, q3]; first | omega | decide), f341, (Or.inl (by have q0 : (I340 0 42) = (I325 0 42) := by rw [eI340, z_up_n (by decide)]; show ¬ (I340 0 42).toInt = 0; rw [q0]; omega))⟩
              · have g345 := z_f_eq rfl z_l0 c338
                refine lv_aload_n hx hb dX12_atom_122 rfl (lv_at hl 0 rfl) ?_
                refine lv_bipush (v := 40) hx hb dX12_atom_123 (by decide) ?_
                refine z_cv hW hS hA (va_runV (As := [.int 40]) (rest := []) ⟨hx, hb, hml, hown, hts⟩ (sx_X12_must l G ad I325 J327 ⟨(by show 0 ≤ (I325 0 31).toInt ∧ (I325 0 31).toInt ≤ 500; exact hI325mp.1), (by show 0 ≤ (I325 0 33).toInt ∧ (I325 0 33).toInt ≤ 500; exact hI325mp.2.1), (by show 0 ≤ (I325 0 34).toInt ∧ (I325 0 34).toInt ≤ 500; exact hI325mp.2.2.1), (by show 0 ≤ (I325 0 35).toInt ∧ (I325 0 35).toInt ≤ 500; exact hI325mp.2.2.2)⟩ ⟨(by show 0 ≤ (I325 0 36).toInt ∧ (I325 0 36).toInt ≤ 4; exact hI325mt.1), (by show 0 ≤ (I325 0 42).toInt ∧ (I325 0 42).toInt ≤ 1; exact hI325mt.2)⟩ (by show 0 ≤ (I325 0 35).toInt ∧ (I325 0 35).toInt ≤ (I325 0 34).toInt ∧ (I325 0 34).toInt ≤ (I325 0 33).toInt ∧ (I325 0 33).toInt ≤ 500 ∧ ((I325 0 36).toInt = 0 ∨ (I325 0 35).toInt + 1 ≤ (I325 0 34).toInt); first | omega | decide) 40 _) (cwV 1 hts gX12_atom_X12_must rfl rfl rfl (by decide +kernel) ⟨Nat.le_of_ble_eq_true rfl, Nat.le_of_ble_eq_true rfl⟩) (z_preV (i := 0) hK hW rfl rfl) rfl rfl hl.1 rfl (lv_room (Nat.le_of_ble_eq_true rfl)) dX12_atom_125 ⟨Nat.le_of_ble_eq_true rfl, Nat.le_of_ble_eq_true rfl⟩) (fun u1 H locs hp hW hS => ?_)
                obtain ⟨I346, J348, e9, hI346mp, hI346mt, hI346rp, fI346, hp⟩ := hp
                rw [e9] at hW
                have f347 := z_fr_sub (L := L_X12_atom) f326 fI346 (by decide)
                have k349 : 0 ≤ (I346 0 47).toInt ∧ (I346 0 47).toInt ≤ 119 := by rw [fI346 0 47 (by decide)]; exact (by show 0 ≤ (I325 0 47).toInt ∧ (I325 0 47).toInt ≤ 119; exact hI325md.1)
                have k350 : 0 ≤ (I346 0 39).toInt ∧ (I346 0 39).toInt ≤ 100 := by rw [fI346 0 39 (by decide)]; exact (by show 0 ≤ (I325 0 39).toInt ∧ (I325 0 39).toInt ≤ 100; exact hI325md.2)
                have k351 : 0 ≤ (I346 0 40).toInt ∧ (I346 0 40).toInt ≤ 6199 := by rw [fI346 0 40 (by decide)]; exact (by show 0 ≤ (I325 0 40).toInt ∧ (I325 0 40).toInt ≤ 6199; exact k328)
                have k352 : 0 ≤ (I346 0 15).toInt ∧ (I346 0 15).toInt ≤ 6100 := by rw [fI346 0 15 (by decide)]; exact (by show 0 ≤ (I325 0 15).toInt ∧ (I325 0 15).toInt ≤ 6100; exact k329)
                have k353 : 0 ≤ (I346 0 35).toInt ∧ (I346 0 35).toInt ≤ (I346 0 34).toInt ∧ (I346 0 34).toInt ≤ (I346 0 33).toInt ∧ (I346 0 33).toInt ≤ 500 ∧ ((I346 0 36).toInt = 0 ∨ (I346 0 35).toInt + 1 ≤ (I346 0 34).toInt) := hI346rp
                have k354 : (I346 0 47).toInt = (I325 0 47).toInt := by rw [fI346 0 47 (by decide)]
                have k355 : (I346 0 39).toInt = (I325 0 39).toInt := by rw [fI346 0 39 (by decide)]
                have k356 : (I346 0 15).toInt = (I325 0 15).toInt := by rw [fI346 0 15 (by decide)]
                have k357 : (I346 0 40).toInt = (I325 0 40).toInt := by rw [fI346 0 40 (by decide)]
                have h358 := hp
                refine lv_aload_n hx hb dX12_atom_128 rfl (lv_at hl 0 rfl) ?_
                refine z_get (T := TX12) (N := 96) (ci := 12) (i := 0) (v := .ref (ad 27)) hx hb hts zj_X12_atom_X12 hown hK hW rfl rfl 44 (by decide) (hts (.fieldLink RX12 94 "PetrolBoardModel" "at" "[I") (List.mem_of_getElem? (i := 1) rfl)) (fun _ h => h) rfl dX12_atom_129 ?_
                refine lv_iload_n hx hb dX12_atom_132 rfl (lv_at hl 1 rfl) ?_
                refine lv_iconst (v := 2) hx hb dX12_atom_133 (by decide) ?_
                refine z_iast (i := 27) hx hb hK hW hS rfl (z_ix rfl (by omega) (by omega)) dX12_atom_134 (fun H locs hz1 hW hS => ?_)
                obtain ⟨I359, eI359⟩ : ∃ K : z_I, K = z_up I346 27 a1.toNatClampNeg 2 := ⟨_, rfl⟩
                rw [← eI359] at hW
                have f360 := z_fr_a f347 (show z_wa L_X12_atom 27 = true by decide) eI359
                have a361 := z_Nd_n (z_Nd_fr (z_Nd_fr a324 fI325 (by decide)) fI346 (by decide)) (by decide) eI359
                refine lv_aload_n hx hb dX12_atom_135 rfl (lv_at hl 0 rfl) ?_
                have r362 : 0 ≤ (I346 0 42).toInt ∧ (I346 0 42).toInt ≤ 1 := hI346mt.2
                refine z_get (T := TX12) (N := 96) (ci := 12) (i := 0) (v := .int (I346 0 42)) hx hb hts zj_X12_atom_X12 hown hK hW rfl rfl 42 (by decide) (hts (.fieldLink RX12 294 "PetrolBoardModel" "isWrong" "Z") (List.mem_of_getElem? (i := 7) rfl)) (fun _ h => h) (congrArg Value.int (by rw [eI359, z_up_n (by decide)])) dX12_atom_136 ?_
                refine lv_if_ne (tgt := 311) hx hb dX12_atom_139 (by decide) (fun c363 => ?_) (fun c363 => ?_)
                · have g364 := z_f_ne rfl z_l0 c363
                  exact z_vret hx hb hr hK hS (Nat.le_of_ble_eq_true rfl) (Nat.le_of_ble_eq_true rfl) hlocks dX12_atom_311 (shM, ad, I359, J348, PM ad) hW ⟨I359, J348, rfl, ⟨(by show 0 ≤ (I359 0 31).toInt ∧ (I359 0 31).toInt ≤ 500; rw [eI359, z_up_n (by decide)]; exact hI346mp.1), (by show 0 ≤ (I359 0 33).toInt ∧ (I359 0 33).toInt ≤ 500; rw [eI359, z_up_n (by decide)]; exact hI346mp.2.1), (by show 0 ≤ (I359 0 34).toInt ∧ (I359 0 34).toInt ≤ 500; rw [eI359, z_up_n (by decide)]; exact hI346mp.2.2.1), (by show 0 ≤ (I359 0 35).toInt ∧ (I359 0 35).toInt ≤ 500; rw [eI359, z_up_n (by decide)]; exact hI346mp.2.2.2)⟩, ⟨(by show 0 ≤ (I359 0 36).toInt ∧ (I359 0 36).toInt ≤ 4; rw [eI359, z_up_n (by decide)]; exact hI346mt.1), (by show 0 ≤ (I359 0 42).toInt ∧ (I359 0 42).toInt ≤ 1; rw [eI359, z_up_n (by decide)]; exact hI346mt.2)⟩, ⟨(by show 0 ≤ (I359 0 47).toInt ∧ (I359 0 47).toInt ≤ 119; rw [eI359, z_up_n (by decide)]; exact k349), (by show 0 ≤ (I359 0 39).toInt ∧ (I359 0 39).toInt ≤ 100; rw [eI359, z_up_n (by decide)]; exact k350)⟩, (by show 0 ≤ (I359 0 40).toInt ∧ (I359 0 40).toInt ≤ 6199; rw [eI359, z_up_n (by decide)]; exact k351), (by show 0 ≤ (I359 0 15).toInt ∧ (I359 0 15).toInt ≤ 6100; rw [eI359, z_up_n (by decide)]; exact k352), a361, (by have q0 : (I359 0 35) = (I346 0 35) := by rw [eI359, z_up_n (by decide)]; have q1 : (I359 0 34) = (I346 0 34) := by rw [eI359, z_up_n (by decide)]; have q2 : (I359 0 33) = (I346 0 33) := by rw [eI359, z_up_n (by decide)]; have q3 : (I359 0 36) = (I346 0 36) := by rw [eI359, z_up_n (by decide)]; show 0 ≤ (I359 0 35).toInt ∧ (I359 0 35).toInt ≤ (I359 0 34).toInt ∧ (I359 0 34).toInt ≤ (I359 0 33).toInt ∧ (I359 0 33).toInt ≤ 500 ∧ ((I359 0 36).toInt = 0 ∨ (I359 0 35).toInt + 1 ≤ (I359 0 34).toInt); rw [q0, q1, q2, q3]; first | omega | decide), f360, (Or.inl (by have q0 : (I359 0 42) = (I346 0 42) := by rw [eI359, z_up_n (by decide)]; show ¬ (I359 0 42).toInt = 0; rw [q0]; omega))⟩
                · have g365 := z_f_eq rfl z_l0 c363
                  refine lv_aload_n hx hb dX12_atom_142 rfl (lv_at hl 0 rfl) ?_
                  refine lv_iconst (v := 0) hx hb dX12_atom_143 (by decide) ?_
                  refine z_cv hW hS hA (va_runV (As := [.int 0]) (rest := []) ⟨hx, hb, hml, hown, hts⟩ (sx_X12_begin l G ad I359 J348 ⟨(by show 0 ≤ (I359 0 47).toInt ∧ (I359 0 47).toInt ≤ 119; rw [eI359, z_up_n (by decide)]; exact k349), (by show 0 ≤ (I359 0 39).toInt ∧ (I359 0 39).toInt ≤ 100; rw [eI359, z_up_n (by decide)]; exact k350)⟩ 0 (by have q0 : (I359 0 47) = (I346 0 47) := by rw [eI359, z_up_n (by decide)]; show (I359 0 47).toInt ≤ 118; rw [q0]; omega) _) (cwV 1 hts gX12_atom_X12_begin rfl rfl rfl (by decide +kernel) ⟨Nat.le_of_ble_eq_true rfl, Nat.le_of_ble_eq_true rfl⟩) (z_preV (i := 0) hK hW rfl rfl) rfl rfl hl.1 rfl (lv_room (Nat.le_of_ble_eq_true rfl)) dX12_atom_144 ⟨Nat.le_of_ble_eq_true rfl, Nat.le_of_ble_eq_true rfl⟩) (fun u1 H locs hp hW hS => ?_)
                  obtain ⟨I366, J368, e9, hI366md, fI366, hp⟩ := hp
                  rw [e9] at hW
                  have f367 := z_fr_sub (L := L_X12_atom) f360 fI366 (by decide)
                  have k369 : 0 ≤ (I366 0 31).toInt ∧ (I366 0 31).toInt ≤ 500 := by rw [fI366 0 31 (by decide)]; exact (by show 0 ≤ (I359 0 31).toInt ∧ (I359 0 31).toInt ≤ 500; rw [eI359, z_up_n (by decide)]; exact hI346mp.1)
                  have k370 : 0 ≤ (I366 0 33).toInt ∧ (I366 0 33).toInt ≤ 500 := by rw [fI366 0 33 (by decide)]; exact (by show 0 ≤ (I359 0 33).toInt ∧ (I359 0 33).toInt ≤ 500; rw [eI359, z_up_n (by decide)]; exact hI346mp.2.1)
                  have k371 : 0 ≤ (I366 0 34).toInt ∧ (I366 0 34).toInt ≤ 500 := by rw [fI366 0 34 (by decide)]; exact (by show 0 ≤ (I359 0 34).toInt ∧ (I359 0 34).toInt ≤ 500; rw [eI359, z_up_n (by decide)]; exact hI346mp.2.2.1)
                  have k372 : 0 ≤ (I366 0 35).toInt ∧ (I366 0 35).toInt ≤ 500 := by rw [fI366 0 35 (by decide)]; exact (by show 0 ≤ (I359 0 35).toInt ∧ (I359 0 35).toInt ≤ 500; rw [eI359, z_up_n (by decide)]; exact hI346mp.2.2.2)
                  have k373 : 0 ≤ (I366 0 36).toInt ∧ (I366 0 36).toInt ≤ 4 := by rw [fI366 0 36 (by decide)]; exact (by show 0 ≤ (I359 0 36).toInt ∧ (I359 0 36).toInt ≤ 4; rw [eI359, z_up_n (by decide)]; exact hI346mt.1)
                  have k374 : 0 ≤ (I366 0 42).toInt ∧ (I366 0 42).toInt ≤ 1 := by rw [fI366 0 42 (by decide)]; exact (by show 0 ≤ (I359 0 42).toInt ∧ (I359 0 42).toInt ≤ 1; rw [eI359, z_up_n (by decide)]; exact hI346mt.2)
                  have k375 : 0 ≤ (I366 0 40).toInt ∧ (I366 0 40).toInt ≤ 6199 := by rw [fI366 0 40 (by decide)]; exact (by show 0 ≤ (I359 0 40).toInt ∧ (I359 0 40).toInt ≤ 6199; rw [eI359, z_up_n (by decide)]; exact k351)
                  have k376 : 0 ≤ (I366 0 15).toInt ∧ (I366 0 15).toInt ≤ 6100 := by rw [fI366 0 15 (by decide)]; exact (by show 0 ≤ (I359 0 15).toInt ∧ (I359 0 15).toInt ≤ 6100; rw [eI359, z_up_n (by decide)]; exact k352)
                  have k377 : 0 ≤ (I366 0 35).toInt ∧ (I366 0 35).toInt ≤ (I366 0 34).toInt ∧ (I366 0 34).toInt ≤ (I366 0 33).toInt ∧ (I366 0 33).toInt ≤ 500 ∧ ((I366 0 36).toInt = 0 ∨ (I366 0 35).toInt + 1 ≤ (I366 0 34).toInt) := (by have q0 : (I366 0 35) = (I346 0 35) := by rw [fI366 0 35 (by decide), eI359, z_up_n (by decide)]; have q1 : (I366 0 34) = (I346 0 34) := by rw [fI366 0 34 (by decide), eI359, z_up_n (by decide)]; have q2 : (I366 0 33) = (I346 0 33) := by rw [fI366 0 33 (by decide), eI359, z_up_n (by decide)]; have q3 : (I366 0 36) = (I346 0 36) := by rw [fI366 0 36 (by decide), eI359, z_up_n (by decide)]; show 0 ≤ (I366 0 35).toInt ∧ (I366 0 35).toInt ≤ (I366 0 34).toInt ∧ (I366 0 34).toInt ≤ (I366 0 33).toInt ∧ (I366 0 33).toInt ≤ 500 ∧ ((I366 0 36).toInt = 0 ∨ (I366 0 35).toInt + 1 ≤ (I366 0 34).toInt); rw [q0, q1, q2, q3]; first | omega | decide)
                  have k378 : (I366 0 35).toInt = (I346 0 35).toInt := by rw [fI366 0 35 (by decide), eI359, z_up_n (by decide)]
                  have k379 : (I366 0 34).toInt = (I346 0 34).toInt := by rw [fI366 0 34 (by decide), eI359, z_up_n (by decide)]
                  have k380 : (I366 0 36).toInt = (I346 0 36).toInt := by rw [fI366 0 36 (by decide), eI359, z_up_n (by decide)]
                  have k381 : (I366 0 42).toInt = (I346 0 42).toInt := by rw [fI366 0 42 (by decide), eI359, z_up_n (by decide)]
                  have k382 : (I366 0 39).toInt = (I346 0 39).toInt := by rw [fI366 0 39 (by decide), eI359, z_up_n (by decide)]
                  have k383 : (I366 0 15).toInt = (I346 0 15).toInt := by rw [fI366 0 15 (by decide), eI359, z_up_n (by decide)]
                  have k384 : (I366 0 40).toInt = (I346 0 40).toInt := by rw [fI366 0 40 (by decide), eI359, z_up_n (by decide)]
                  have h385 := hp
                  refine lv_goto (tgt := 311) hx hb dX12_atom_147 (by decide) ?_
                  exact z_vret hx hb hr hK hS (Nat.le_of_ble_eq_true rfl) (Nat.le_of_ble_eq_true rfl) hlocks dX12_atom_311 (shM, ad, I366, J368, PM ad) hW ⟨I366, J368, rfl, ⟨(by show 0 ≤ (I366 0 31).toInt ∧ (I366 0 31).toInt ≤ 500; exact k369), (by show 0 ≤ (I366 0 33).toInt ∧ (I366 0 33).toInt ≤ 500; exact k370), (by show 0 ≤ (I366 0 34).toInt ∧ (I366 0 34).toInt ≤ 500; exact k371), (by show 0 ≤ (I366 0 35).toInt ∧ (I366 0 35).toInt ≤ 500; exact k372)⟩, ⟨(by show 0 ≤ (I366 0 36).toInt ∧ (I366 0 36).toInt ≤ 4; exact k373), (by show 0 ≤ (I366 0 42).toInt ∧ (I366 0 42).toInt ≤ 1; exact k374)⟩, ⟨(by show 0 ≤ (I366 0 47).toInt ∧ (I366 0 47).toInt ≤ 119; exact hI366md.1), (by show 0 ≤ (I366 0 39).toInt ∧ (I366 0 39).toInt ≤ 100; exact hI366md.2)⟩, (by show 0 ≤ (I366 0 40).toInt ∧ (I366 0 40).toInt ≤ 6199; exact k375), (by show 0 ≤ (I366 0 15).toInt ∧ (I366 0 15).toInt ≤ 6100; exact k376), (z_Nd_fr a361 fI366 (by decide)), (by show 0 ≤ (I366 0 35).toInt ∧ (I366 0 35).toInt ≤ (I366 0 34).toInt ∧ (I366 0 34).toInt ≤ (I366 0 33).toInt ∧ (I366 0 33).toInt ≤ 500 ∧ ((I366 0 36).toInt = 0 ∨ (I366 0 35).toInt + 1 ≤ (I366 0 34).toInt); first | omega | decide), f367, ((Classical.em ((I366 0 42).toInt = 0)).elim (fun hw9 => Or.inr ⟨a1.toNatClampNeg + 2, by have w1 := z_fw_20 (a := va.toInt) (o := vo.toInt) (by omega); have w2 := z_fo_2n (a := va.toInt) (by omega); have w3 := z_fw_2n (a := 2) (o := vo.toInt) (by omega); have w4 := z_fo_2y (a := 2) (by omega); have w5 := z_fw_00 (a := 0) (o := -1) (by omega); have w6 := z_rk_2; have w7 := z_rk_0; exact z_PUSH (d := a1.toNatClampNeg) (w := 2) (a := 2) (o := vo.toInt) (s := 6) (wi := 0) hPS (fun i hi => ⟨by rw [eI359, z_up_n (by decide), fI346 26 i (z_wr_c (by decide)), fI325 26 i (z_wr_c (by decide)), eI322, z_up_n (by decide)], by rw [eI359, z_up_k (by omega), fI346 27 i (z_wr_c (by decide)), fI325 27 i (z_wr_c (by decide)), eI322, z_up_n (by decide)], by rw [eI359, z_up_n (by decide), fI346 28 i (z_wr_c (by decide)), fI325 28 i (z_wr_c (by decide)), eI322, z_up_n (by decide)], by rw [eI359, z_up_n (by decide), fI346 29 i (z_wr_c (by decide)), fI325 29 i (z_wr_c (by decide)), eI322, z_up_k (by omega)]⟩) (by rw [show I359 26 a1.toNatClampNeg = vw from (by rw [eI359, z_up_n (by decide), fI346 26 a1.toNatClampNeg (z_wr_c (by decide)), fI325 26 a1.toNatClampNeg (z_wr_c (by decide)), eI322, z_up_n (by decide)]; exact evw.symm)]; exact hvw) (by rw [show I359 27 a1.toNatClampNeg = 2 from (by rw [eI359, z_up_s])]; exact z_l2) (by rw [show I359 28 a1.toNatClampNeg = vo from (by rw [eI359, z_up_n (by decide), fI346 28 a1.toNatClampNeg (z_wr_c (by decide)), fI325 28 a1.toNatClampNeg (z_wr_c (by decide)), eI322, z_up_n (by decide)]; exact evo.symm)]; exact rfl) (by rw [show I359 29 a1.toNatClampNeg = 6 from (by rw [eI359, z_up_n (by decide), fI346 29 a1.toNatClampNeg (z_wr_c (by decide)), fI325 29 a1.toNatClampNeg (z_wr_c (by decide)), eI322, z_up_s])]; exact z_l6) (by unfold z_fv; omega) hwd (by rw [eI359, z_up_n (by decide)]; omega) h385 z_l0 (by omega) (by omega) (by omega) (by omega) (by omega) (by omega) (by omega) (by omega)⟩) Or.inl)⟩
            · refine lv_if_eq (tgt := 108) hx hb dX12_atom_100 (by decide) (fun c386 => ?_) (fun c386 => absurd (by decide) c386)
              refine lv_bipush (v := 7) hx hb dX12_atom_108 (by decide) ?_
              refine z_iast (i := 29) hx hb hK hW hS rfl (z_ix rfl (by omega) (by omega)) dX12_atom_110 (fun H locs hz1 hW hS => ?_)
              obtain ⟨I387, eI387⟩ : ∃ K : z_I, K = z_up I 29 a1.toNatClampNeg 7 := ⟨_, rfl⟩
              rw [← eI387] at hW
              have f388 := z_fr_a z_fr_0 (show z_wa L_X12_atom 29 = true by decide) eI387
              have a389 := z_Nd_n hNd (by decide) eI387
              refine lv_aload_n hx hb dX12_atom_111 rfl (lv_at hl 0 rfl) ?_
              refine z_cv hW hS hA (va_runV (As := []) (rest := []) ⟨hx, hb, hml, hown, hts⟩ (sx_X12_opens l G ad I387 J ⟨(by show 0 ≤ (I387 0 31).toInt ∧ (I387 0 31).toInt ≤ 500; rw [eI387, z_up_n (by decide)]; exact hmp.1), (by show 0 ≤ (I387 0 33).toInt ∧ (I387 0 33).toInt ≤ 500; rw [eI387, z_up_n (by decide)]; exact hmp.2.1), (by show 0 ≤ (I387 0 34).toInt ∧ (I387 0 34).toInt ≤ 500; rw [eI387, z_up_n (by decide)]; exact hmp.2.2.1), (by show 0 ≤ (I387 0 35).toInt ∧ (I387 0 35).toInt ≤ 500; rw [eI387, z_up_n (by decide)]; exact hmp.2.2.2)⟩ ⟨(by show 0 ≤ (I387 0 36).toInt ∧ (I387 0 36).toInt ≤ 4; rw [eI387, z_up_n (by decide)]; exact hmt.1), (by show 0 ≤ (I387 0 42).toInt ∧ (I387 0 42).toInt ≤ 1; rw [eI387, z_up_n (by decide)]; exact hmt.2)⟩ (by have q0 : (I387 0 35) = (I 0 35) := by rw [eI387, z_up_n (by decide)]; have q1 : (I387 0 34) = (I 0 34) := by rw [eI387, z_up_n (by decide)]; have q2 : (I387 0 33) = (I 0 33) := by rw [eI387, z_up_n (by decide)]; have q3 : (I387 0 36) = (I 0 36) := by rw [eI387, z_up_n (by decide)]; show 0 ≤ (I387 0 35).toInt ∧ (I387 0 35).toInt ≤ (I387 0 34).toInt ∧ (I387 0 34).toInt ≤ (I387 0 33).toInt ∧ (I387 0 33).toInt ≤ 500 ∧ ((I387 0 36).toInt = 0 ∨ (I387 0 35).toInt + 1 ≤ (I387 0 34).toInt); rw [q0, q1, q2, q3]; first | omega | decide) ⟨(by show 0 ≤ (I387 0 47).toInt ∧ (I387 0 47).toInt ≤ 119; rw [eI387, z_up_n (by decide)]; exact hmd.1), (by show 0 ≤ (I387 0 39).toInt ∧ (I387 0 39).toInt ≤ 100; rw [eI387, z_up_n (by decide)]; exact hmd.2)⟩  (by have q0 : (I387 0 39) = (I 0 39) := by rw [eI387, z_up_n (by decide)]; show (I387 0 39).toInt ≤ 9; rw [q0]; omega) _) (cwV 0 hts gX12_atom_X12_opens rfl rfl rfl (by decide +kernel) ⟨Nat.le_of_ble_eq_true rfl, Nat.le_of_ble_eq_true rfl⟩) (z_preV (i := 0) hK hW rfl rfl) rfl rfl hl.1 rfl (lv_room (Nat.le_of_ble_eq_true rfl)) dX12_atom_112 ⟨Nat.le_of_ble_eq_true rfl, Nat.le_of_ble_eq_true rfl⟩) (fun u1 H locs hp hW hS => ?_)
              obtain ⟨I390, J392, e9, hI390mp, hI390mt, hI390rp, hI390md, fI390, hp⟩ := hp
              rw [e9] at hW
              have f391 := z_fr_sub (L := L_X12_atom) f388 fI390 (by decide)
              have k393 : 0 ≤ (I390 0 40).toInt ∧ (I390 0 40).toInt ≤ 6199 := by rw [fI390 0 40 (by decide)]; exact (by show 0 ≤ (I387 0 40).toInt ∧ (I387 0 40).toInt ≤ 6199; rw [eI387, z_up_n (by decide)]; exact hmg)
              have k394 : 0 ≤ (I390 0 15).toInt ∧ (I390 0 15).toInt ≤ 6100 := by rw [fI390 0 15 (by decide)]; exact (by show 0 ≤ (I387 0 15).toInt ∧ (I387 0 15).toInt ≤ 6100; rw [eI387, z_up_n (by decide)]; exact hmn)
              have k395 : 0 ≤ (I390 0 35).toInt ∧ (I390 0 35).toInt ≤ (I390 0 34).toInt ∧ (I390 0 34).toInt ≤ (I390 0 33).toInt ∧ (I390 0 33).toInt ≤ 500 ∧ ((I390 0 36).toInt = 0 ∨ (I390 0 35).toInt + 1 ≤ (I390 0 34).toInt) := hI390rp
              have k396 : (I390 0 47).toInt = (I 0 47).toInt := by rw [fI390 0 47 (by decide), eI387, z_up_n (by decide)]
              have k397 : (I390 0 15).toInt = (I 0 15).toInt := by rw [fI390 0 15 (by decide), eI387, z_up_n (by decide)]
              have k398 : (I390 0 40).toInt = (I 0 40).toInt := by rw [fI390 0 40 (by decide), eI387, z_up_n (by decide)]
              obtain ⟨h399, h400, h401⟩ := hp
              rw [show (I387 0 39) = (I 0 39) from by rw [eI387, z_up_n (by decide)]] at h399
              rw [show (I387 0 34) = (I 0 34) from by rw [eI387, z_up_n (by decide)]] at h400
              rw [show (I387 0 39) = (I 0 39) from by rw [eI387, z_up_n (by decide)]] at h401
              refine lv_aload_n hx hb dX12_atom_115 rfl (lv_at hl 0 rfl) ?_
              have r402 : 0 ≤ (I390 0 42).toInt ∧ (I390 0 42).toInt ≤ 1 := hI390mt.2
              refine z_get (T := TX12) (N := 96) (ci := 12) (i := 0) (v := .int (I390 0 42)) hx hb hts zj_X12_atom_X12 hown hK hW rfl rfl 42 (by decide) (hts (.fieldLink RX12 294 "PetrolBoardModel" "isWrong" "Z") (List.mem_of_getElem? (i := 7) rfl)) (fun _ h => h) rfl dX12_atom_116 ?_
              refine lv_if_ne (tgt := 128) hx hb dX12_atom_119 (by decide) (fun c403 => ?_) (fun c403 => ?_)
              · have g404 := z_f_ne rfl z_l0 c403
                refine lv_aload_n hx hb dX12_atom_128 rfl (lv_at hl 0 rfl) ?_
                refine z_get (T := TX12) (N := 96) (ci := 12) (i := 0) (v := .ref (ad 27)) hx hb hts zj_X12_atom_X12 hown hK hW rfl rfl 44 (by decide) (hts (.fieldLink RX12 94 "PetrolBoardModel" "at" "[I") (List.mem_of_getElem? (i := 1) rfl)) (fun _ h => h) rfl dX12_atom_129 ?_
                refine lv_iload_n hx hb dX12_atom_132 rfl (lv_at hl 1 rfl) ?_
                refine lv_iconst (v := 2) hx hb dX12_atom_133 (by decide) ?_
                refine z_iast (i := 27) hx hb hK hW hS rfl (z_ix rfl (by omega) (by omega)) dX12_atom_134 (fun H locs hz1 hW hS => ?_)
                obtain ⟨I405, eI405⟩ : ∃ K : z_I, K = z_up I390 27 a1.toNatClampNeg 2 := ⟨_, rfl⟩
                rw [← eI405] at hW
                have f406 := z_fr_a f391 (show z_wa L_X12_atom 27 = true by decide) eI405
                have a407 := z_Nd_n (z_Nd_fr a389 fI390 (by decide)) (by decide) eI405
                refine lv_aload_n hx hb dX12_atom_135 rfl (lv_at hl 0 rfl) ?_
                refine z_get (T := TX12) (N := 96) (ci := 12) (i := 0) (v := .int (I390 0 42)) hx hb hts zj_X12_atom_X12 hown hK hW rfl rfl 42 (by decide) (hts (.fieldLink RX12 294 "PetrolBoardModel" "isWrong" "Z") (List.mem_of_getElem? (i := 7) rfl)) (fun _ h => h) (congrArg Value.int (by rw [eI405, z_up_n (by decide)])) dX12_atom_136 ?_
                refine lv_if_ne (tgt := 311) hx hb dX12_atom_139 (by decide) (fun c408 => ?_) (fun c408 => (by have g := z_f_eq rfl z_l0 c408; omega))
                have g409 := z_f_ne rfl z_l0 c408
                exact z_vret hx hb hr hK hS (Nat.le_of_ble_eq_true rfl) (Nat.le_of_ble_eq_true rfl) hlocks dX12_atom_311 (shM, ad, I405, J392, PM ad) hW ⟨I405, J392, rfl, ⟨(by show 0 ≤ (I405 0 31).toInt ∧ (I405 0 31).toInt ≤ 500; rw [eI405, z_up_n (by decide)]; exact hI390mp.1), (by show 0 ≤ (I405 0 33).toInt ∧ (I405 0 33).toInt ≤ 500; rw [eI405, z_up_n (by decide)]; exact hI390mp.2.1), (by show 0 ≤ (I405 0 34).toInt ∧ (I405 0 34).toInt ≤ 500; rw [eI405, z_up_n (by decide)]; exact hI390mp.2.2.1), (by show 0 ≤ (I405 0 35).toInt ∧ (I405 0 35).toInt ≤ 500; rw [eI405, z_up_n (by decide)]; exact hI390mp.2.2.2)⟩, ⟨(by show 0 ≤ (I405 0 36).toInt ∧ (I405 0 36).toInt ≤ 4; rw [eI405, z_up_n (by decide)]; exact hI390mt.1), (by show 0 ≤ (I405 0 42).toInt ∧ (I405 0 42).toInt ≤ 1; rw [eI405, z_up_n (by decide)]; exact hI390mt.2)⟩, ⟨(by show 0 ≤ (I405 0 47).toInt ∧ (I405 0 47).toInt ≤ 119; rw [eI405, z_up_n (by decide)]; exact hI390md.1), (by show 0 ≤ (I405 0 39).toInt ∧ (I405 0 39).toInt ≤ 100; rw [eI405, z_up_n (by decide)]; exact hI390md.2)⟩, (by show 0 ≤ (I405 0 40).toInt ∧ (I405 0 40).toInt ≤ 6199; rw [eI405, z_up_n (by decide)]; exact k393), (by show 0 ≤ (I405 0 15).toInt ∧ (I405 0 15).toInt ≤ 6100; rw [eI405, z_up_n (by decide)]; exact k394), a407, (by have q0 : (I405 0 35) = (I390 0 35) := by rw [eI405, z_up_n (by decide)]; have q1 : (I405 0 34) = (I390 0 34) := by rw [eI405, z_up_n (by decide)]; have q2 : (I405 0 33) = (I390 0 33) := by rw [eI405, z_up_n (by decide)]; have q3 : (I405 0 36) = (I390 0 36) := by rw [eI405, z_up_n (by decide)]; show 0 ≤ (I405 0 35).toInt ∧ (I405 0 35).toInt ≤ (I405 0 34).toInt ∧ (I405 0 34).toInt ≤ (I405 0 33).toInt ∧ (I405 0 33).toInt ≤ 500 ∧ ((I405 0 36).toInt = 0 ∨ (I405 0 35).toInt + 1 ≤ (I405 0 34).toInt); rw [q0, q1, q2, q3]; first | omega | decide), f406, (Or.inl (by have q0 : (I405 0 42) = (I390 0 42) := by rw [eI405, z_up_n (by decide)]; show ¬ (I405 0 42).toInt = 0; rw [q0]; omega))⟩
              · have g410 := z_f_eq rfl z_l0 c403
                refine lv_aload_n hx hb dX12_atom_122 rfl (lv_at hl 0 rfl) ?_
                refine lv_bipush (v := 40) hx hb dX12_atom_123 (by decide) ?_
                refine z_cv hW hS hA (va_runV (As := [.int 40]) (rest := []) ⟨hx, hb, hml, hown, hts⟩ (sx_X12_must l G ad I390 J392 ⟨(by show 0 ≤ (I390 0 31).toInt ∧ (I390 0 31).toInt ≤ 500; exact hI390mp.1), (by show 0 ≤ (I390 0 33).toInt ∧ (I390 0 33).toInt ≤ 500; exact hI390mp.2.1), (by show 0 ≤ (I390 0 34).toInt ∧ (I390 0 34).toInt ≤ 500; exact hI390mp.2.2.1), (by show 0 ≤ (I390 0 35).toInt ∧ (I390 0 35).toInt ≤ 500; exact hI390mp.2.2.2)⟩ ⟨(by show 0 ≤ (I390 0 36).toInt ∧ (I390 0 36).toInt ≤ 4; exact hI390mt.1), (by show 0 ≤ (I390 0 42).toInt ∧ (I390 0 42).toInt ≤ 1; exact hI390mt.2)⟩ (by show 0 ≤ (I390 0 35).toInt ∧ (I390 0 35).toInt ≤ (I390 0 34).toInt ∧ (I390 0 34).toInt ≤ (I390 0 33).toInt ∧ (I390 0 33).toInt ≤ 500 ∧ ((I390 0 36).toInt = 0 ∨ (I390 0 35).toInt + 1 ≤ (I390 0 34).toInt); first | omega | decide) 40 _) (cwV 1 hts gX12_atom_X12_must rfl rfl rfl (by decide +kernel) ⟨Nat.le_of_ble_eq_true rfl, Nat.le_of_ble_eq_true rfl⟩) (z_preV (i := 0) hK hW rfl rfl) rfl rfl hl.1 rfl (lv_room (Nat.le_of_ble_eq_true rfl)) dX12_atom_125 ⟨Nat.le_of_ble_eq_true rfl, Nat.le_of_ble_eq_true rfl⟩) (fun u1 H locs hp hW hS => ?_)
                obtain ⟨I411, J413, e9, hI411mp, hI411mt, hI411rp, fI411, hp⟩ := hp
                rw [e9] at hW
                have f412 := z_fr_sub (L := L_X12_atom) f391 fI411 (by decide)
                have k414 : 0 ≤ (I411 0 47).toInt ∧ (I411 0 47).toInt ≤ 119 := by rw [fI411 0 47 (by decide)]; exact (by show 0 ≤ (I390 0 47).toInt ∧ (I390 0 47).toInt ≤ 119; exact hI390md.1)
                have k415 : 0 ≤ (I411 0 39).toInt ∧ (I411 0 39).toInt ≤ 100 := by rw [fI411 0 39 (by decide)]; exact (by show 0 ≤ (I390 0 39).toInt ∧ (I390 0 39).toInt ≤ 100; exact hI390md.2)
                have k416 : 0 ≤ (I411 0 40).toInt ∧ (I411 0 40).toInt ≤ 6199 := by rw [fI411 0 40 (by decide)]; exact (by show 0 ≤ (I390 0 40).toInt ∧ (I390 0 40).toInt ≤ 6199; exact k393)
                have k417 : 0 ≤ (I411 0 15).toInt ∧ (I411 0 15).toInt ≤ 6100 := by rw [fI411 0 15 (by decide)]; exact (by show 0 ≤ (I390 0 15).toInt ∧ (I390 0 15).toInt ≤ 6100; exact k394)
                have k418 : 0 ≤ (I411 0 35).toInt ∧ (I411 0 35).toInt ≤ (I411 0 34).toInt ∧ (I411 0 34).toInt ≤ (I411 0 33).toInt ∧ (I411 0 33).toInt ≤ 500 ∧ ((I411 0 36).toInt = 0 ∨ (I411 0 35).toInt + 1 ≤ (I411 0 34).toInt) := hI411rp
                have k419 : (I411 0 47).toInt = (I390 0 47).toInt := by rw [fI411 0 47 (by decide)]
                have k420 : (I411 0 39).toInt = (I390 0 39).toInt := by rw [fI411 0 39 (by decide)]
                have k421 : (I411 0 15).toInt = (I390 0 15).toInt := by rw [fI411 0 15 (by decide)]
                have k422 : (I411 0 40).toInt = (I390 0 40).toInt := by rw [fI411 0 40 (by decide)]
                have h423 := hp
                refine lv_aload_n hx hb dX12_atom_128 rfl (lv_at hl 0 rfl) ?_
                refine z_get (T := TX12) (N := 96) (ci := 12) (i := 0) (v := .ref (ad 27)) hx hb hts zj_X12_atom_X12 hown hK hW rfl rfl 44 (by decide) (hts (.fieldLink RX12 94 "PetrolBoardModel" "at" "[I") (List.mem_of_getElem? (i := 1) rfl)) (fun _ h => h) rfl dX12_atom_129 ?_
                refine lv_iload_n hx hb dX12_atom_132 rfl (lv_at hl 1 rfl) ?_
                refine lv_iconst (v := 2) hx hb dX12_atom_133 (by decide) ?_
                refine z_iast (i := 27) hx hb hK hW hS rfl (z_ix rfl (by omega) (by omega)) dX12_atom_134 (fun H locs hz1 hW hS => ?_)
                obtain ⟨I424, eI424⟩ : ∃ K : z_I, K = z_up I411 27 a1.toNatClampNeg 2 := ⟨_, rfl⟩
                rw [← eI424] at hW
                have f425 := z_fr_a f412 (show z_wa L_X12_atom 27 = true by decide) eI424
                have a426 := z_Nd_n (z_Nd_fr (z_Nd_fr a389 fI390 (by decide)) fI411 (by decide)) (by decide) eI424
                refine lv_aload_n hx hb dX12_atom_135 rfl (lv_at hl 0 rfl) ?_
                have r427 : 0 ≤ (I411 0 42).toInt ∧ (I411 0 42).toInt ≤ 1 := hI411mt.2
                refine z_get (T := TX12) (N := 96) (ci := 12) (i := 0) (v := .int (I411 0 42)) hx hb hts zj_X12_atom_X12 hown hK hW rfl rfl 42 (by decide) (hts (.fieldLink RX12 294 "PetrolBoardModel" "isWrong" "Z") (List.mem_of_getElem? (i := 7) rfl)) (fun _ h => h) (congrArg Value.int (by rw [eI424, z_up_n (by decide)])) dX12_atom_136 ?_
                refine lv_if_ne (tgt := 311) hx hb dX12_atom_139 (by decide) (fun c428 => ?_) (fun c428 => ?_)
                · have g429 := z_f_ne rfl z_l0 c428
                  exact z_vret hx hb hr hK hS (Nat.le_of_ble_eq_true rfl) (Nat.le_of_ble_eq_true rfl) hlocks dX12_atom_311 (shM, ad, I424, J413, PM ad) hW ⟨I424, J413, rfl, ⟨(by show 0 ≤ (I424 0 31).toInt ∧ (I424 0 31).toInt ≤ 500; rw [eI424, z_up_n (by decide)]; exact hI411mp.1), (by show 0 ≤ (I424 0 33).toInt ∧ (I424 0 33).toInt ≤ 500; rw [eI424, z_up_n (by decide)]; exact hI411mp.2.1), (by show 0 ≤ (I424 0 34).toInt ∧ (I424 0 34).toInt ≤ 500; rw [eI424, z_up_n (by decide)]; exact hI411mp.2.2.1), (by show 0 ≤ (I424 0 35).toInt ∧ (I424 0 35).toInt ≤ 500; rw [eI424, z_up_n (by decide)]; exact hI411mp.2.2.2)⟩, ⟨(by show 0 ≤ (I424 0 36).toInt ∧ (I424 0 36).toInt ≤ 4; rw [eI424, z_up_n (by decide)]; exact hI411mt.1), (by show 0 ≤ (I424 0 42).toInt ∧ (I424 0 42).toInt ≤ 1; rw [eI424, z_up_n (by decide)]; exact hI411mt.2)⟩, ⟨(by show 0 ≤ (I424 0 47).toInt ∧ (I424 0 47).toInt ≤ 119; rw [eI424, z_up_n (by decide)]; exact k414), (by show 0 ≤ (I424 0 39).toInt ∧ (I424 0 39).toInt ≤ 100; rw [eI424, z_up_n (by decide)]; exact k415)⟩, (by show 0 ≤ (I424 0 40).toInt ∧ (I424 0 40).toInt ≤ 6199; rw [eI424, z_up_n (by decide)]; exact k416), (by show 0 ≤ (I424 0 15).toInt ∧ (I424 0 15).toInt ≤ 6100; rw [eI424, z_up_n (by decide)]; exact k417), a426, (by have q0 : (I424 0 35) = (I411 0 35) := by rw [eI424, z_up_n (by decide)]; have q1 : (I424 0 34) = (I411 0 34) := by rw [eI424, z_up_n (by decide)]; have q2 : (I424 0 33) = (I411 0 33) := by rw [eI424, z_up_n (by decide)]; have q3 : (I424 0 36) = (I411 0 36) := by rw [eI424, z_up_n (by decide)]; show 0 ≤ (I424 0 35).toInt ∧ (I424 0 35).toInt ≤ (I424 0 34).toInt ∧ (I424 0 34).toInt ≤ (I424 0 33).toInt ∧ (I424 0 33).toInt ≤ 500 ∧ ((I424 0 36).toInt = 0 ∨ (I424 0 35).toInt + 1 ≤ (I424 0 34).toInt); rw [q0, q1, q2, q3]; first | omega | decide), f425, (Or.inl (by have q0 : (I424 0 42) = (I411 0 42) := by rw [eI424, z_up_n (by decide)]; show ¬ (I424 0 42).toInt = 0; rw [q0]; omega))⟩
                · have g430 := z_f_eq rfl z_l0 c428
                  refine lv_aload_n hx hb dX12_atom_142 rfl (lv_at hl 0 rfl) ?_
                  refine lv_iconst (v := 0) hx hb dX12_atom_143 (by decide) ?_
                  refine z_cv hW hS hA (va_runV (As := [.int 0]) (rest := []) ⟨hx, hb, hml, hown, hts⟩ (sx_X12_begin l G ad I424 J413 ⟨(by show 0 ≤ (I424 0 47).toInt ∧ (I424 0 47).toInt ≤ 119; rw [eI424, z_up_n (by decide)]; exact k414), (by show 0 ≤ (I424 0 39).toInt ∧ (I424 0 39).toInt ≤ 100; rw [eI424, z_up_n (by decide)]; exact k415)⟩ 0 (by have q0 : (I424 0 47) = (I411 0 47) := by rw [eI424, z_up_n (by decide)]; show (I424 0 47).toInt ≤ 118; rw [q0]; omega) _) (cwV 1 hts gX12_atom_X12_begin rfl rfl rfl (by decide +kernel) ⟨Nat.le_of_ble_eq_true rfl, Nat.le_of_ble_eq_true rfl⟩) (z_preV (i := 0) hK hW rfl rfl) rfl rfl hl.1 rfl (lv_room (Nat.le_of_ble_eq_true rfl)) dX12_atom_144 ⟨Nat.le_of_ble_eq_true rfl, Nat.le_of_ble_eq_true rfl⟩) (fun u1 H locs hp hW hS => ?_)
                  obtain ⟨I431, J433, e9, hI431md, fI431, hp⟩ := hp
                  rw [e9] at hW
                  have f432 := z_fr_sub (L := L_X12_atom) f425 fI431 (by decide)
                  have k434 : 0 ≤ (I431 0 31).toInt ∧ (I431 0 31).toInt ≤ 500 := by rw [fI431 0 31 (by decide)]; exact (by show 0 ≤ (I424 0 31).toInt ∧ (I424 0 31).toInt ≤ 500; rw [eI424, z_up_n (by decide)]; exact hI411mp.1)
                  have k435 : 0 ≤ (I431 0 33).toInt ∧ (I431 0 33).toInt ≤ 500 := by rw [fI431 0 33 (by decide)]; exact (by show 0 ≤ (I424 0 33).toInt ∧ (I424 0 33).toInt ≤ 500; rw [eI424, z_up_n (by decide)]; exact hI411mp.2.1)
                  have k436 : 0 ≤ (I431 0 34).toInt ∧ (I431 0 34).toInt ≤ 500 := by rw [fI431 0 34 (by decide)]; exact (by show 0 ≤ (I424 0 34).toInt ∧ (I424 0 34).toInt ≤ 500; rw [eI424, z_up_n (by decide)]; exact hI411mp.2.2.1)
                  have k437 : 0 ≤ (I431 0 35).toInt ∧ (I431 0 35).toInt ≤ 500 := by rw [fI431 0 35 (by decide)]; exact (by show 0 ≤ (I424 0 35).toInt ∧ (I424 0 35).toInt ≤ 500; rw [eI424, z_up_n (by decide)]; exact hI411mp.2.2.2)
                  have k438 : 0 ≤ (I431 0 36).toInt ∧ (I431 0 36).toInt ≤ 4 := by rw [fI431 0 36 (by decide)]; exact (by show 0 ≤ (I424 0 36).toInt ∧ (I424 0 36).toInt ≤ 4; rw [eI424, z_up_n (by decide)]; exact hI411mt.1)
                  have k439 : 0 ≤ (I431 0 42).toInt ∧ (I431 0 42).toInt ≤ 1 := by rw [fI431 0 42 (by decide)]; exact (by show 0 ≤ (I424 0 42).toInt ∧ (I424 0 42).toInt ≤ 1; rw [eI424, z_up_n (by decide)]; exact hI411mt.2)
                  have k440 : 0 ≤ (I431 0 40).toInt ∧ (I431 0 40).toInt ≤ 6199 := by rw [fI431 0 40 (by decide)]; exact (by show 0 ≤ (I424 0 40).toInt ∧ (I424 0 40).toInt ≤ 6199; rw [eI424, z_up_n (by decide)]; exact k416)
                  have k441 : 0 ≤ (I431 0 15).toInt ∧ (I431 0 15).toInt ≤ 6100 := by rw [fI431 0 15 (by decide)]; exact (by show 0 ≤ (I424 0 15).toInt ∧ (I424 0 15).toInt ≤ 6100; rw [eI424, z_up_n (by decide)]; exact k417)
                  have k442 : 0 ≤ (I431 0 35).toInt ∧ (I431 0 35).toInt ≤ (I431 0 34).toInt ∧ (I431 0 34).toInt ≤ (I431 0 33).toInt ∧ (I431 0 33).toInt ≤ 500 ∧ ((I431 0 36).toInt = 0 ∨ (I431 0 35).toInt + 1 ≤ (I431 0 34).toInt) := (by have q0 : (I431 0 35) = (I411 0 35) := by rw [fI431 0 35 (by decide), eI424, z_up_n (by decide)]; have q1 : (I431 0 34) = (I411 0 34) := by rw [fI431 0 34 (by decide), eI424, z_up_n (by decide)]; have q2 : (I431 0 33) = (I411 0 33) := by rw [fI431 0 33 (by decide), eI424, z_up_n (by decide)]; have q3 : (I431 0 36) = (I411 0 36) := by rw [fI431 0 36 (by decide), eI424, z_up_n (by decide)]; show 0 ≤ (I431 0 35).toInt ∧ (I431 0 35).toInt ≤ (I431 0 34).toInt ∧ (I431 0 34).toInt ≤ (I431 0 33).toInt ∧ (I431 0 33).toInt ≤ 500 ∧ ((I431 0 36).toInt = 0 ∨ (I431 0 35).toInt + 1 ≤ (I431 0 34).toInt); rw [q0, q1, q2, q3]; first | omega | decide)
                  have k443 : (I431 0 35).toInt = (I411 0 35).toInt := by rw [fI431 0 35 (by decide), eI424, z_up_n (by decide)]
                  have k444 : (I431 0 34).toInt = (I411 0 34).toInt := by rw [fI431 0 34 (by decide), eI424, z_up_n (by decide)]
                  have k445 : (I431 0 36).toInt = (I411 0 36).toInt := by rw [fI431 0 36 (by decide), eI424, z_up_n (by decide)]
                  have k446 : (I431 0 42).toInt = (I411 0 42).toInt := by rw [fI431 0 42 (by decide), eI424, z_up_n (by decide)]
                  have k447 : (I431 0 39).toInt = (I411 0 39).toInt := by rw [fI431 0 39 (by decide), eI424, z_up_n (by decide)]
                  have k448 : (I431 0 15).toInt = (I411 0 15).toInt := by rw [fI431 0 15 (by decide), eI424, z_up_n (by decide)]
                  have k449 : (I431 0 40).toInt = (I411 0 40).toInt := by rw [fI431 0 40 (by decide), eI424, z_up_n (by decide)]
                  have h450 := hp
                  refine lv_goto (tgt := 311) hx hb dX12_atom_147 (by decide) ?_
                  exact z_vret hx hb hr hK hS (Nat.le_of_ble_eq_true rfl) (Nat.le_of_ble_eq_true rfl) hlocks dX12_atom_311 (shM, ad, I431, J433, PM ad) hW ⟨I431, J433, rfl, ⟨(by show 0 ≤ (I431 0 31).toInt ∧ (I431 0 31).toInt ≤ 500; exact k434), (by show 0 ≤ (I431 0 33).toInt ∧ (I431 0 33).toInt ≤ 500; exact k435), (by show 0 ≤ (I431 0 34).toInt ∧ (I431 0 34).toInt ≤ 500; exact k436), (by show 0 ≤ (I431 0 35).toInt ∧ (I431 0 35).toInt ≤ 500; exact k437)⟩, ⟨(by show 0 ≤ (I431 0 36).toInt ∧ (I431 0 36).toInt ≤ 4; exact k438), (by show 0 ≤ (I431 0 42).toInt ∧ (I431 0 42).toInt ≤ 1; exact k439)⟩, ⟨(by show 0 ≤ (I431 0 47).toInt ∧ (I431 0 47).toInt ≤ 119; exact hI431md.1), (by show 0 ≤ (I431 0 39).toInt ∧ (I431 0 39).toInt ≤ 100; exact hI431md.2)⟩, (by show 0 ≤ (I431 0 40).toInt ∧ (I431 0 40).toInt ≤ 6199; exact k440), (by show 0 ≤ (I431 0 15).toInt ∧ (I431 0 15).toInt ≤ 6100; exact k441), (z_Nd_fr a426 fI431 (by decide)), (by show 0 ≤ (I431 0 35).toInt ∧ (I431 0 35).toInt ≤ (I431 0 34).toInt ∧ (I431 0 34).toInt ≤ (I431 0 33).toInt ∧ (I431 0 33).toInt ≤ 500 ∧ ((I431 0 36).toInt = 0 ∨ (I431 0 35).toInt + 1 ≤ (I431 0 34).toInt); first | omega | decide), f432, ((Classical.em ((I431 0 42).toInt = 0)).elim (fun hw9 => Or.inr ⟨a1.toNatClampNeg + 2, by have w1 := z_fw_20 (a := va.toInt) (o := vo.toInt) (by omega); have w2 := z_fo_2n (a := va.toInt) (by omega); have w3 := z_fw_2n (a := 2) (o := vo.toInt) (by omega); have w4 := z_fo_2y (a := 2) (by omega); have w5 := z_fw_00 (a := 0) (o := -1) (by omega); have w6 := z_rk_2; have w7 := z_rk_0; exact z_PUSH (d := a1.toNatClampNeg) (w := 2) (a := 2) (o := vo.toInt) (s := 7) (wi := 0) hPS (fun i hi => ⟨by rw [eI424, z_up_n (by decide), fI411 26 i (z_wr_c (by decide)), fI390 26 i (z_wr_c (by decide)), eI387, z_up_n (by decide)], by rw [eI424, z_up_k (by omega), fI411 27 i (z_wr_c (by decide)), fI390 27 i (z_wr_c (by decide)), eI387, z_up_n (by decide)], by rw [eI424, z_up_n (by decide), fI411 28 i (z_wr_c (by decide)), fI390 28 i (z_wr_c (by decide)), eI387, z_up_n (by decide)], by rw [eI424, z_up_n (by decide), fI411 29 i (z_wr_c (by decide)), fI390 29 i (z_wr_c (by decide)), eI387, z_up_k (by omega)]⟩) (by rw [show I424 26 a1.toNatClampNeg = vw from (by rw [eI424, z_up_n (by decide), fI411 26 a1.toNatClampNeg (z_wr_c (by decide)), fI390 26 a1.toNatClampNeg (z_wr_c (by decide)), eI387, z_up_n (by decide)]; exact evw.symm)]; exact hvw) (by rw [show I424 27 a1.toNatClampNeg = 2 from (by rw [eI424, z_up_s])]; exact z_l2) (by rw [show I424 28 a1.toNatClampNeg = vo from (by rw [eI424, z_up_n (by decide), fI411 28 a1.toNatClampNeg (z_wr_c (by decide)), fI390 28 a1.toNatClampNeg (z_wr_c (by decide)), eI387, z_up_n (by decide)]; exact evo.symm)]; exact rfl) (by rw [show I424 29 a1.toNatClampNeg = 7 from (by rw [eI424, z_up_n (by decide), fI411 29 a1.toNatClampNeg (z_wr_c (by decide)), fI390 29 a1.toNatClampNeg (z_wr_c (by decide)), eI387, z_up_s])]; exact z_l7) (by unfold z_fv; omega) hwd (by rw [eI424, z_up_n (by decide)]; omega) h450 z_l0 (by omega) (by omega) (by omega) (by omega) (by omega) (by omega) (by omega) (by omega)⟩) Or.inl)⟩
          · refine lv_if_eq (tgt := 150) hx hb dX12_atom_85 (by decide) (fun c451 => ?_) (fun c451 => absurd (by decide) c451)
            refine lv_aload_n hx hb dX12_atom_150 rfl (lv_at hl 0 rfl) ?_
            refine z_get (T := TX12) (N := 96) (ci := 12) (i := 0) (v := .int (I 0 36)) hx hb hts zj_X12_atom_X12 hown hK hW rfl rfl 36 (by decide) (hts (.fieldLink RX12 281 "PetrolBoardModel" "token" "I") (List.mem_of_getElem? (i := 2) rfl)) (fun _ h => h) rfl dX12_atom_151 ?_
            refine lv_iconst (v := 1) hx hb dX12_atom_154 (by decide) ?_
            refine lv_icmp_ne (tgt := 169) hx hb dX12_atom_155 (by decide) (fun c452 => ?_) (fun c452 => ?_)
            · have g453 := z_f_ne rfl z_l1 c452
              refine lv_iconst (v := (-1)) hx hb dX12_atom_169 (by decide) ?_
              refine lv_istore_n (lv' := [(2, .int (-1)), (0, .ref (ad 0)), (1, .int a1)]) hx hb dX12_atom_170 rfl hl (by decide) rfl (fun ls hl => ?_)
              refine lv_iload_n hx hb dX12_atom_171 rfl (lv_at hl 0 rfl) ?_
              refine lv_if_ge (tgt := 180) hx hb dX12_atom_172 (by decide) (fun c454 => absurd c454 (by decide)) (fun c454 => ?_)
              refine lv_aload_n hx hb dX12_atom_175 rfl (lv_at hl 1 rfl) ?_
              refine z_cv hW hS hA (va_runV (As := []) (rest := []) ⟨hx, hb, hml, hown, hts⟩ (sx_X12_errs l G ad I J ⟨(by show 0 ≤ (I 0 36).toInt ∧ (I 0 36).toInt ≤ 4; exact hmt.1), (by show 0 ≤ (I 0 42).toInt ∧ (I 0 42).toInt ≤ 1; exact hmt.2)⟩  _) (cwV 0 hts gX12_atom_X12_errs rfl rfl rfl (by decide +kernel) ⟨Nat.le_of_ble_eq_true rfl, Nat.le_of_ble_eq_true rfl⟩) (z_preV (i := 0) hK hW rfl rfl) rfl rfl hl.1 rfl (lv_room (Nat.le_of_ble_eq_true rfl)) dX12_atom_176 ⟨Nat.le_of_ble_eq_true rfl, Nat.le_of_ble_eq_true rfl⟩) (fun u1 H locs hp hW hS => ?_)
              obtain ⟨I455, J457, e9, hI455mt, fI455, hp⟩ := hp
              rw [e9] at hW
              have f456 := z_fr_sub (L := L_X12_atom) z_fr_0 fI455 (by decide)
              have k458 : 0 ≤ (I455 0 31).toInt ∧ (I455 0 31).toInt ≤ 500 := by rw [fI455 0 31 (by decide)]; exact (by show 0 ≤ (I 0 31).toInt ∧ (I 0 31).toInt ≤ 500; exact hmp.1)
              have k459 : 0 ≤ (I455 0 33).toInt ∧ (I455 0 33).toInt ≤ 500 := by rw [fI455 0 33 (by decide)]; exact (by show 0 ≤ (I 0 33).toInt ∧ (I 0 33).toInt ≤ 500; exact hmp.2.1)
              have k460 : 0 ≤ (I455 0 34).toInt ∧ (I455 0 34).toInt ≤ 500 := by rw [fI455 0 34 (by decide)]; exact (by show 0 ≤ (I 0 34).toInt ∧ (I 0 34).toInt ≤ 500; exact hmp.2.2.1)
              have k461 : 0 ≤ (I455 0 35).toInt ∧ (I455 0 35).toInt ≤ 500 := by rw [fI455 0 35 (by decide)]; exact (by show 0 ≤ (I 0 35).toInt ∧ (I 0 35).toInt ≤ 500; exact hmp.2.2.2)
              have k462 : (I455 0 36).toInt = (I 0 36).toInt := by rw [fI455 0 36 (by decide)]
              have k463 : 0 ≤ (I455 0 47).toInt ∧ (I455 0 47).toInt ≤ 119 := by rw [fI455 0 47 (by decide)]; exact (by show 0 ≤ (I 0 47).toInt ∧ (I 0 47).toInt ≤ 119; exact hmd.1)
              have k464 : 0 ≤ (I455 0 39).toInt ∧ (I455 0 39).toInt ≤ 100 := by rw [fI455 0 39 (by decide)]; exact (by show 0 ≤ (I 0 39).toInt ∧ (I 0 39).toInt ≤ 100; exact hmd.2)
              have k465 : 0 ≤ (I455 0 40).toInt ∧ (I455 0 40).toInt ≤ 6199 := by rw [fI455 0 40 (by decide)]; exact (by show 0 ≤ (I 0 40).toInt ∧ (I 0 40).toInt ≤ 6199; exact hmg)
              have k466 : 0 ≤ (I455 0 15).toInt ∧ (I455 0 15).toInt ≤ 6100 := by rw [fI455 0 15 (by decide)]; exact (by show 0 ≤ (I 0 15).toInt ∧ (I 0 15).toInt ≤ 6100; exact hmn)
              have k467 : 0 ≤ (I455 0 35).toInt ∧ (I455 0 35).toInt ≤ (I455 0 34).toInt ∧ (I455 0 34).toInt ≤ (I455 0 33).toInt ∧ (I455 0 33).toInt ≤ 500 ∧ ((I455 0 36).toInt = 0 ∨ (I455 0 35).toInt + 1 ≤ (I455 0 34).toInt) := (by have q0 : (I455 0 35) = (I 0 35) := by rw [fI455 0 35 (by decide)]; have q1 : (I455 0 34) = (I 0 34) := by rw [fI455 0 34 (by decide)]; have q2 : (I455 0 33) = (I 0 33) := by rw [fI455 0 33 (by decide)]; have q3 : (I455 0 36) = (I 0 36) := by rw [fI455 0 36 (by decide)]; show 0 ≤ (I455 0 35).toInt ∧ (I455 0 35).toInt ≤ (I455 0 34).toInt ∧ (I455 0 34).toInt ≤ (I455 0 33).toInt ∧ (I455 0 33).toInt ≤ 500 ∧ ((I455 0 36).toInt = 0 ∨ (I455 0 35).toInt + 1 ≤ (I455 0 34).toInt); rw [q0, q1, q2, q3]; first | omega | decide)
              have k468 : (I455 0 35).toInt = (I 0 35).toInt := by rw [fI455 0 35 (by decide)]
              have k469 : (I455 0 34).toInt = (I 0 34).toInt := by rw [fI455 0 34 (by decide)]
              have k470 : (I455 0 36).toInt = (I 0 36).toInt := by rw [fI455 0 36 (by decide)]
              have k471 : (I455 0 47).toInt = (I 0 47).toInt := by rw [fI455 0 47 (by decide)]
              have k472 : (I455 0 39).toInt = (I 0 39).toInt := by rw [fI455 0 39 (by decide)]
              have k473 : (I455 0 15).toInt = (I 0 15).toInt := by rw [fI455 0 15 (by decide)]
              have k474 : (I455 0 40).toInt = (I 0 40).toInt := by rw [fI455 0 40 (by decide)]
              have h475 := hp
              exact z_vret hx hb hr hK hS (Nat.le_of_ble_eq_true rfl) (Nat.le_of_ble_eq_true rfl) hlocks dX12_atom_179 (shM, ad, I455, J457, PM ad) hW ⟨I455, J457, rfl, ⟨(by show 0 ≤ (I455 0 31).toInt ∧ (I455 0 31).toInt ≤ 500; exact k458), (by show 0 ≤ (I455 0 33).toInt ∧ (I455 0 33).toInt ≤ 500; exact k459), (by show 0 ≤ (I455 0 34).toInt ∧ (I455 0 34).toInt ≤ 500; exact k460), (by show 0 ≤ (I455 0 35).toInt ∧ (I455 0 35).toInt ≤ 500; exact k461)⟩, ⟨(by show 0 ≤ (I455 0 36).toInt ∧ (I455 0 36).toInt ≤ 4; exact hI455mt.1), (by show 0 ≤ (I455 0 42).toInt ∧ (I455 0 42).toInt ≤ 1; exact hI455mt.2)⟩, ⟨(by show 0 ≤ (I455 0 47).toInt ∧ (I455 0 47).toInt ≤ 119; exact k463), (by show 0 ≤ (I455 0 39).toInt ∧ (I455 0 39).toInt ≤ 100; exact k464)⟩, (by show 0 ≤ (I455 0 40).toInt ∧ (I455 0 40).toInt ≤ 6199; exact k465), (by show 0 ≤ (I455 0 15).toInt ∧ (I455 0 15).toInt ≤ 6100; exact k466), (z_Nd_fr hNd fI455 (by decide)), (by show 0 ≤ (I455 0 35).toInt ∧ (I455 0 35).toInt ≤ (I455 0 34).toInt ∧ (I455 0 34).toInt ≤ (I455 0 33).toInt ∧ (I455 0 33).toInt ≤ 500 ∧ ((I455 0 36).toInt = 0 ∨ (I455 0 35).toInt + 1 ≤ (I455 0 34).toInt); first | omega | decide), f456, (Or.inl (by show ¬ (I455 0 42).toInt = 0; omega))⟩
            · have g476 := z_f_eq rfl z_l1 c452
              refine lv_aload_n hx hb dX12_atom_158 rfl (lv_at hl 0 rfl) ?_
              refine lv_aload_n hx hb dX12_atom_159 rfl (lv_at hl 0 rfl) ?_
              refine z_get (T := TX12) (N := 96) (ci := 12) (i := 0) (v := .long (J 0 41)) hx hb hts zj_X12_atom_X12 hown hK hW rfl rfl 41 (by decide) (hts (.fieldLink RX12 271 "PetrolBoardModel" "word" "J") (List.mem_of_getElem? (i := 8) rfl)) (fun _ h => h) rfl dX12_atom_160 ?_
              refine z_ci hW hS hA (va_runV (As := [.long (J 0 41)]) (rest := []) ⟨hx, hb, hml, hown, hts⟩ (sx_X12_nameOf l G ad I J  (J 0 41) _) (cwV 1 hts gX12_atom_X12_nameOf rfl rfl rfl (by decide +kernel) ⟨Nat.le_of_ble_eq_true rfl, Nat.le_of_ble_eq_true rfl⟩) (z_preV (i := 0) hK hW rfl rfl) rfl rfl hl.1 rfl (lv_room (Nat.le_of_ble_eq_true rfl)) dX12_atom_163 ⟨Nat.le_of_ble_eq_true rfl, Nat.le_of_ble_eq_true rfl⟩) (fun r u1 H locs hp hW hS => ?_)
              obtain ⟨e9, hp⟩ := hp
              rw [e9] at hW
              have hq := hp
              generalize r = x477 at hq ⊢
              have h478 := hq
              refine lv_goto (tgt := 170) hx hb dX12_atom_166 (by decide) ?_
              refine lv_istore_n (lv' := [(2, .int x477), (0, .ref (ad 0)), (1, .int a1)]) hx hb dX12_atom_170 rfl hl (by decide) rfl (fun ls hl => ?_)
              refine lv_iload_n hx hb dX12_atom_171 rfl (lv_at hl 0 rfl) ?_
              refine lv_if_ge (tgt := 180) hx hb dX12_atom_172 (by decide) (fun c479 => ?_) (fun c479 => ?_)
              · have g480 := z_f_ge rfl z_l0 c479
                refine lv_aload_n hx hb dX12_atom_180 rfl (lv_at hl 1 rfl) ?_
                refine z_cv hW hS hA (va_runV (As := []) (rest := []) ⟨hx, hb, hml, hown, hts⟩ (sx_X12_next l G ad I J ⟨(by show 0 ≤ (I 0 31).toInt ∧ (I 0 31).toInt ≤ 500; exact hmp.1), (by show 0 ≤ (I 0 33).toInt ∧ (I 0 33).toInt ≤ 500; exact hmp.2.1), (by show 0 ≤ (I 0 34).toInt ∧ (I 0 34).toInt ≤ 500; exact hmp.2.2.1), (by show 0 ≤ (I 0 35).toInt ∧ (I 0 35).toInt ≤ 500; exact hmp.2.2.2)⟩ ⟨(by show 0 ≤ (I 0 36).toInt ∧ (I 0 36).toInt ≤ 4; exact hmt.1), (by show 0 ≤ (I 0 42).toInt ∧ (I 0 42).toInt ≤ 1; exact hmt.2)⟩ (by show 0 ≤ (I 0 34).toInt ∧ (I 0 34).toInt ≤ (I 0 33).toInt ∧ (I 0 33).toInt ≤ 500; first | omega | decide)  _) (cwV 0 hts gX12_atom_X12_next rfl rfl rfl (by decide +kernel) ⟨Nat.le_of_ble_eq_true rfl, Nat.le_of_ble_eq_true rfl⟩) (z_preV (i := 0) hK hW rfl rfl) rfl rfl hl.1 rfl (lv_room (Nat.le_of_ble_eq_true rfl)) dX12_atom_181 ⟨Nat.le_of_ble_eq_true rfl, Nat.le_of_ble_eq_true rfl⟩) (fun u1 H locs hp hW hS => ?_)
                obtain ⟨I481, J483, e9, hI481mp, hI481mt, hI481rp, fI481, hp⟩ := hp
                rw [e9] at hW
                have f482 := z_fr_sub (L := L_X12_atom) z_fr_0 fI481 (by decide)
                have k484 : 0 ≤ (I481 0 47).toInt ∧ (I481 0 47).toInt ≤ 119 := by rw [fI481 0 47 (by decide)]; exact (by show 0 ≤ (I 0 47).toInt ∧ (I 0 47).toInt ≤ 119; exact hmd.1)
                have k485 : 0 ≤ (I481 0 39).toInt ∧ (I481 0 39).toInt ≤ 100 := by rw [fI481 0 39 (by decide)]; exact (by show 0 ≤ (I 0 39).toInt ∧ (I 0 39).toInt ≤ 100; exact hmd.2)
                have k486 : 0 ≤ (I481 0 40).toInt ∧ (I481 0 40).toInt ≤ 6199 := by rw [fI481 0 40 (by decide)]; exact (by show 0 ≤ (I 0 40).toInt ∧ (I 0 40).toInt ≤ 6199; exact hmg)
                have k487 : 0 ≤ (I481 0 15).toInt ∧ (I481 0 15).toInt ≤ 6100 := by rw [fI481 0 15 (by decide)]; exact (by show 0 ≤ (I 0 15).toInt ∧ (I 0 15).toInt ≤ 6100; exact hmn)
                have k488 : 0 ≤ (I481 0 35).toInt ∧ (I481 0 35).toInt ≤ (I481 0 34).toInt ∧ (I481 0 34).toInt ≤ (I481 0 33).toInt ∧ (I481 0 33).toInt ≤ 500 ∧ ((I481 0 36).toInt = 0 ∨ (I481 0 35).toInt + 1 ≤ (I481 0 34).toInt) := hI481rp
                have k489 : (I481 0 42).toInt = (I 0 42).toInt := by rw [fI481 0 42 (by decide)]
                have k490 : (I481 0 47).toInt = (I 0 47).toInt := by rw [fI481 0 47 (by decide)]
                have k491 : (I481 0 39).toInt = (I 0 39).toInt := by rw [fI481 0 39 (by decide)]
                have k492 : (I481 0 15).toInt = (I 0 15).toInt := by rw [fI481 0 15 (by decide)]
                have k493 : (I481 0 40).toInt = (I 0 40).toInt := by rw [fI481 0 40 (by decide)]
                have h494 := hp
                refine lv_aload_n hx hb dX12_atom_184 rfl (lv_at hl 1 rfl) ?_
                refine lv_aload_n hx hb dX12_atom_185 rfl (lv_at hl 1 rfl) ?_
                refine lv_iconst (v := 1) hx hb dX12_atom_186 (by decide) ?_
                refine lv_iload_n hx hb dX12_atom_187 rfl (lv_at hl 0 rfl) ?_
                refine lv_iconst (v := 0) hx hb dX12_atom_188 (by decide) ?_
                refine z_ci hW hS hA (va_runV (As := [.int 1, .int x477, .int 0]) (rest := [.ref (ad 0)]) ⟨hx, hb, hml, hown, hts⟩ (sx_X12_node l G ad I481 J483 (by show 0 ≤ (I481 0 15).toInt ∧ (I481 0 15).toInt ≤ 6100; exact k487) (z_Nd_fr hNd fI481 (by decide)) 1 x477 0 (by show (I481 0 15).toInt ≤ 6099; omega) (by have := z_l1; have := z_l0; first | omega | decide) (by have := z_l1; have := z_l0; first | omega | decide) (by have := z_l1; have := z_l0; first | omega | decide) _) (cwV 3 hts gX12_atom_X12_node rfl rfl rfl (by decide +kernel) ⟨Nat.le_of_ble_eq_true rfl, Nat.le_of_ble_eq_true rfl⟩) (z_preV (i := 0) hK hW rfl rfl) rfl rfl hl.1 rfl (lv_room (Nat.le_of_ble_eq_true rfl)) dX12_atom_189 ⟨Nat.le_of_ble_eq_true rfl, Nat.le_of_ble_eq_true rfl⟩) (fun r u1 H locs hp hW hS => ?_)
                obtain ⟨I495, J497, e9, hI495mn, hI495Nd, fI495, hp⟩ := hp
                rw [e9] at hW
                have f496 := z_fr_sub (L := L_X12_atom) f482 fI495 (by decide)
                have k498 : 0 ≤ (I495 0 31).toInt ∧ (I495 0 31).toInt ≤ 500 := by rw [fI495 0 31 (by decide)]; exact (by show 0 ≤ (I481 0 31).toInt ∧ (I481 0 31).toInt ≤ 500; exact hI481mp.1)
                have k499 : 0 ≤ (I495 0 33).toInt ∧ (I495 0 33).toInt ≤ 500 := by rw [fI495 0 33 (by decide)]; exact (by show 0 ≤ (I481 0 33).toInt ∧ (I481 0 33).toInt ≤ 500; exact hI481mp.2.1)
                have k500 : 0 ≤ (I495 0 34).toInt ∧ (I495 0 34).toInt ≤ 500 := by rw [fI495 0 34 (by decide)]; exact (by show 0 ≤ (I481 0 34).toInt ∧ (I481 0 34).toInt ≤ 500; exact hI481mp.2.2.1)
                have k501 : 0 ≤ (I495 0 35).toInt ∧ (I495 0 35).toInt ≤ 500 := by rw [fI495 0 35 (by decide)]; exact (by show 0 ≤ (I481 0 35).toInt ∧ (I481 0 35).toInt ≤ 500; exact hI481mp.2.2.2)
                have k502 : 0 ≤ (I495 0 36).toInt ∧ (I495 0 36).toInt ≤ 4 := by rw [fI495 0 36 (by decide)]; exact (by show 0 ≤ (I481 0 36).toInt ∧ (I481 0 36).toInt ≤ 4; exact hI481mt.1)
                have k503 : 0 ≤ (I495 0 42).toInt ∧ (I495 0 42).toInt ≤ 1 := by rw [fI495 0 42 (by decide)]; exact (by show 0 ≤ (I481 0 42).toInt ∧ (I481 0 42).toInt ≤ 1; exact hI481mt.2)
                have k504 : 0 ≤ (I495 0 47).toInt ∧ (I495 0 47).toInt ≤ 119 := by rw [fI495 0 47 (by decide)]; exact (by show 0 ≤ (I481 0 47).toInt ∧ (I481 0 47).toInt ≤ 119; exact k484)
                have k505 : 0 ≤ (I495 0 39).toInt ∧ (I495 0 39).toInt ≤ 100 := by rw [fI495 0 39 (by decide)]; exact (by show 0 ≤ (I481 0 39).toInt ∧ (I481 0 39).toInt ≤ 100; exact k485)
                have k506 : 0 ≤ (I495 0 40).toInt ∧ (I495 0 40).toInt ≤ 6199 := by rw [fI495 0 40 (by decide)]; exact (by show 0 ≤ (I481 0 40).toInt ∧ (I481 0 40).toInt ≤ 6199; exact k486)
                have k507 : 0 ≤ (I495 0 35).toInt ∧ (I495 0 35).toInt ≤ (I495 0 34).toInt ∧ (I495 0 34).toInt ≤ (I495 0 33).toInt ∧ (I495 0 33).toInt ≤ 500 ∧ ((I495 0 36).toInt = 0 ∨ (I495 0 35).toInt + 1 ≤ (I495 0 34).toInt) := (by have q0 : (I495 0 35) = (I481 0 35) := by rw [fI495 0 35 (by decide)]; have q1 : (I495 0 34) = (I481 0 34) := by rw [fI495 0 34 (by decide)]; have q2 : (I495 0 33) = (I481 0 33) := by rw [fI495 0 33 (by decide)]; have q3 : (I495 0 36) = (I481 0 36) := by rw [fI495 0 36 (by decide)]; show 0 ≤ (I495 0 35).toInt ∧ (I495 0 35).toInt ≤ (I495 0 34).toInt ∧ (I495 0 34).toInt ≤ (I495 0 33).toInt ∧ (I495 0 33).toInt ≤ 500 ∧ ((I495 0 36).toInt = 0 ∨ (I495 0 35).toInt + 1 ≤ (I495 0 34).toInt); rw [q0, q1, q2, q3]; first | omega | decide)
                have k508 : (I495 0 35).toInt = (I481 0 35).toInt := by rw [fI495 0 35 (by decide)]
                have k509 : (I495 0 34).toInt = (I481 0 34).toInt := by rw [fI495 0 34 (by decide)]
                have k510 : (I495 0 36).toInt = (I481 0 36).toInt := by rw [fI495 0 36 (by decide)]
                have k511 : (I495 0 42).toInt = (I481 0 42).toInt := by rw [fI495 0 42 (by decide)]
                have k512 : (I495 0 47).toInt = (I481 0 47).toInt := by rw [fI495 0 47 (by decide)]
                have k513 : (I495 0 39).toInt = (I481 0 39).toInt := by rw [fI495 0 39 (by decide)]
                have k514 : (I495 0 40).toInt = (I481 0 40).toInt := by rw [fI495 0 40 (by decide)]
                refine lv_topi (fun x515 ex515 => ?_)
                rw [← ex515] at hp
                obtain ⟨h516, h517⟩ := hp
                refine z_cv hW hS hA (va_runV (As := [.int x515]) (rest := []) ⟨hx, hb, hml, hown, hts⟩ (sx_X12_ends l G ad I495 J497 ⟨(by show 0 ≤ (I495 0 47).toInt ∧ (I495 0 47).toInt ≤ 119; exact k504), (by show 0 ≤ (I495 0 39).toInt ∧ (I495 0 39).toInt ≤ 100; exact k505)⟩ (by show 0 ≤ (I495 0 40).toInt ∧ (I495 0 40).toInt ≤ 6199; exact k506) x515 (by first | omega | decide) (by show 1 ≤ (I495 0 47).toInt; omega) _) (cwV 1 hts gX12_atom_X12_ends rfl rfl rfl (by decide +kernel) ⟨Nat.le_of_ble_eq_true rfl, Nat.le_of_ble_eq_true rfl⟩) (z_preV (i := 0) hK hW rfl rfl) rfl rfl hl.1 rfl (lv_room (Nat.le_of_ble_eq_true rfl)) dX12_atom_192 ⟨Nat.le_of_ble_eq_true rfl, Nat.le_of_ble_eq_true rfl⟩) (fun u1 H locs hp hW hS => ?_)
                obtain ⟨I518, J520, e9, hI518md, hI518mg, fI518, hp⟩ := hp
                rw [e9] at hW
                have f519 := z_fr_sub (L := L_X12_atom) f496 fI518 (by decide)
                have k521 : 0 ≤ (I518 0 31).toInt ∧ (I518 0 31).toInt ≤ 500 := by rw [fI518 0 31 (by decide)]; exact (by show 0 ≤ (I495 0 31).toInt ∧ (I495 0 31).toInt ≤ 500; exact k498)
                have k522 : 0 ≤ (I518 0 33).toInt ∧ (I518 0 33).toInt ≤ 500 := by rw [fI518 0 33 (by decide)]; exact (by show 0 ≤ (I495 0 33).toInt ∧ (I495 0 33).toInt ≤ 500; exact k499)
                have k523 : 0 ≤ (I518 0 34).toInt ∧ (I518 0 34).toInt ≤ 500 := by rw [fI518 0 34 (by decide)]; exact (by show 0 ≤ (I495 0 34).toInt ∧ (I495 0 34).toInt ≤ 500; exact k500)
                have k524 : 0 ≤ (I518 0 35).toInt ∧ (I518 0 35).toInt ≤ 500 := by rw [fI518 0 35 (by decide)]; exact (by show 0 ≤ (I495 0 35).toInt ∧ (I495 0 35).toInt ≤ 500; exact k501)
                have k525 : 0 ≤ (I518 0 36).toInt ∧ (I518 0 36).toInt ≤ 4 := by rw [fI518 0 36 (by decide)]; exact (by show 0 ≤ (I495 0 36).toInt ∧ (I495 0 36).toInt ≤ 4; exact k502)
                have k526 : 0 ≤ (I518 0 42).toInt ∧ (I518 0 42).toInt ≤ 1 := by rw [fI518 0 42 (by decide)]; exact (by show 0 ≤ (I495 0 42).toInt ∧ (I495 0 42).toInt ≤ 1; exact k503)
                have k527 : 0 ≤ (I518 0 15).toInt ∧ (I518 0 15).toInt ≤ 6100 := by rw [fI518 0 15 (by decide)]; exact (by show 0 ≤ (I495 0 15).toInt ∧ (I495 0 15).toInt ≤ 6100; exact hI495mn)
                have k528 : 0 ≤ (I518 0 35).toInt ∧ (I518 0 35).toInt ≤ (I518 0 34).toInt ∧ (I518 0 34).toInt ≤ (I518 0 33).toInt ∧ (I518 0 33).toInt ≤ 500 ∧ ((I518 0 36).toInt = 0 ∨ (I518 0 35).toInt + 1 ≤ (I518 0 34).toInt) := (by have q0 : (I518 0 35) = (I495 0 35) := by rw [fI518 0 35 (by decide)]; have q1 : (I518 0 34) = (I495 0 34) := by rw [fI518 0 34 (by decide)]; have q2 : (I518 0 33) = (I495 0 33) := by rw [fI518 0 33 (by decide)]; have q3 : (I518 0 36) = (I495 0 36) := by rw [fI518 0 36 (by decide)]; show 0 ≤ (I518 0 35).toInt ∧ (I518 0 35).toInt ≤ (I518 0 34).toInt ∧ (I518 0 34).toInt ≤ (I518 0 33).toInt ∧ (I518 0 33).toInt ≤ 500 ∧ ((I518 0 36).toInt = 0 ∨ (I518 0 35).toInt + 1 ≤ (I518 0 34).toInt); rw [q0, q1, q2, q3]; first | omega | decide)
                have k529 : (I518 0 35).toInt = (I495 0 35).toInt := by rw [fI518 0 35 (by decide)]
                have k530 : (I518 0 34).toInt = (I495 0 34).toInt := by rw [fI518 0 34 (by decide)]
                have k531 : (I518 0 36).toInt = (I495 0 36).toInt := by rw [fI518 0 36 (by decide)]
                have k532 : (I518 0 42).toInt = (I495 0 42).toInt := by rw [fI518 0 42 (by decide)]
                have k533 : (I518 0 39).toInt = (I495 0 39).toInt := by rw [fI518 0 39 (by decide)]
                have k534 : (I518 0 15).toInt = (I495 0 15).toInt := by rw [fI518 0 15 (by decide)]
                have h535 := hp
                refine lv_goto (tgt := 311) hx hb dX12_atom_195 (by decide) ?_
                exact z_vret hx hb hr hK hS (Nat.le_of_ble_eq_true rfl) (Nat.le_of_ble_eq_true rfl) hlocks dX12_atom_311 (shM, ad, I518, J520, PM ad) hW ⟨I518, J520, rfl, ⟨(by show 0 ≤ (I518 0 31).toInt ∧ (I518 0 31).toInt ≤ 500; exact k521), (by show 0 ≤ (I518 0 33).toInt ∧ (I518 0 33).toInt ≤ 500; exact k522), (by show 0 ≤ (I518 0 34).toInt ∧ (I518 0 34).toInt ≤ 500; exact k523), (by show 0 ≤ (I518 0 35).toInt ∧ (I518 0 35).toInt ≤ 500; exact k524)⟩, ⟨(by show 0 ≤ (I518 0 36).toInt ∧ (I518 0 36).toInt ≤ 4; exact k525), (by show 0 ≤ (I518 0 42).toInt ∧ (I518 0 42).toInt ≤ 1; exact k526)⟩, ⟨(by show 0 ≤ (I518 0 47).toInt ∧ (I518 0 47).toInt ≤ 119; exact hI518md.1), (by show 0 ≤ (I518 0 39).toInt ∧ (I518 0 39).toInt ≤ 100; exact hI518md.2)⟩, (by show 0 ≤ (I518 0 40).toInt ∧ (I518 0 40).toInt ≤ 6199; exact hI518mg), (by show 0 ≤ (I518 0 15).toInt ∧ (I518 0 15).toInt ≤ 6100; exact k527), (z_Nd_fr hI495Nd fI518 (by decide)), (by show 0 ≤ (I518 0 35).toInt ∧ (I518 0 35).toInt ≤ (I518 0 34).toInt ∧ (I518 0 34).toInt ≤ (I518 0 33).toInt ∧ (I518 0 33).toInt ≤ 500 ∧ ((I518 0 36).toInt = 0 ∨ (I518 0 35).toInt + 1 ≤ (I518 0 34).toInt); first | omega | decide), f519, ((Classical.em ((I518 0 42).toInt = 0)).elim (fun hw9 => Or.inr ⟨a1.toNatClampNeg, by have w1 := z_fw_20 (a := va.toInt) (o := vo.toInt) (by omega); have w2 := z_fo_2n (a := va.toInt) (by omega); exact z_POP (d := a1.toNatClampNeg) hPS (fun i hi => ⟨by rw [fI518 26 i (z_wr_c (by decide)), fI495 26 i (z_wr_c (by decide)), fI481 26 i (z_wr_c (by decide))], by rw [fI518 27 i (z_wr_c (by decide)), fI495 27 i (z_wr_c (by decide)), fI481 27 i (z_wr_c (by decide))], by rw [fI518 28 i (z_wr_c (by decide)), fI495 28 i (z_wr_c (by decide)), fI481 28 i (z_wr_c (by decide))], by rw [fI518 29 i (z_wr_c (by decide)), fI495 29 i (z_wr_c (by decide)), fI481 29 i (z_wr_c (by decide))]⟩) (by omega) (by omega) (by omega) (by omega) (by omega) (by omega)⟩) Or.inl)⟩
              · have g536 := z_f_nge rfl z_l0 c479
                refine lv_aload_n hx hb dX12_atom_175 rfl (lv_at hl 1 rfl) ?_
                refine z_cv hW hS hA (va_runV (As := []) (rest := []) ⟨hx, hb, hml, hown, hts⟩ (sx_X12_errs l G ad I J ⟨(by show 0 ≤ (I 0 36).toInt ∧ (I 0 36).toInt ≤ 4; exact hmt.1), (by show 0 ≤ (I 0 42).toInt ∧ (I 0 42).toInt ≤ 1; exact hmt.2)⟩  _) (cwV 0 hts gX12_atom_X12_errs rfl rfl rfl (by decide +kernel) ⟨Nat.le_of_ble_eq_true rfl, Nat.le_of_ble_eq_true rfl⟩) (z_preV (i := 0) hK hW rfl rfl) rfl rfl hl.1 rfl (lv_room (Nat.le_of_ble_eq_true rfl)) dX12_atom_176 ⟨Nat.le_of_ble_eq_true rfl, Nat.le_of_ble_eq_true rfl⟩) (fun u1 H locs hp hW hS => ?_)
                obtain ⟨I537, J539, e9, hI537mt, fI537, hp⟩ := hp
                rw [e9] at hW
                have f538 := z_fr_sub (L := L_X12_atom) z_fr_0 fI537 (by decide)
                have k540 : 0 ≤ (I537 0 31).toInt ∧ (I537 0 31).toInt ≤ 500 := by rw [fI537 0 31 (by decide)]; exact (by show 0 ≤ (I 0 31).toInt ∧ (I 0 31).toInt ≤ 500; exact hmp.1)
                have k541 : 0 ≤ (I537 0 33).toInt ∧ (I537 0 33).toInt ≤ 500 := by rw [fI537 0 33 (by decide)]; exact (by show 0 ≤ (I 0 33).toInt ∧ (I 0 33).toInt ≤ 500; exact hmp.2.1)
                have k542 : 0 ≤ (I537 0 34).toInt ∧ (I537 0 34).toInt ≤ 500 := by rw [fI537 0 34 (by decide)]; exact (by show 0 ≤ (I 0 34).toInt ∧ (I 0 34).toInt ≤ 500; exact hmp.2.2.1)
                have k543 : 0 ≤ (I537 0 35).toInt ∧ (I537 0 35).toInt ≤ 500 := by rw [fI537 0 35 (by decide)]; exact (by show 0 ≤ (I 0 35).toInt ∧ (I 0 35).toInt ≤ 500; exact hmp.2.2.2)
                have k544 : (I537 0 36).toInt = (I 0 36).toInt := by rw [fI537 0 36 (by decide)]
                have k545 : 0 ≤ (I537 0 47).toInt ∧ (I537 0 47).toInt ≤ 119 := by rw [fI537 0 47 (by decide)]; exact (by show 0 ≤ (I 0 47).toInt ∧ (I 0 47).toInt ≤ 119; exact hmd.1)
                have k546 : 0 ≤ (I537 0 39).toInt ∧ (I537 0 39).toInt ≤ 100 := by rw [fI537 0 39 (by decide)]; exact (by show 0 ≤ (I 0 39).toInt ∧ (I 0 39).toInt ≤ 100; exact hmd.2)
                have k547 : 0 ≤ (I537 0 40).toInt ∧ (I537 0 40).toInt ≤ 6199 := by rw [fI537 0 40 (by decide)]; exact (by show 0 ≤ (I 0 40).toInt ∧ (I 0 40).toInt ≤ 6199; exact hmg)
                have k548 : 0 ≤ (I537 0 15).toInt ∧ (I537 0 15).toInt ≤ 6100 := by rw [fI537 0 15 (by decide)]; exact (by show 0 ≤ (I 0 15).toInt ∧ (I 0 15).toInt ≤ 6100; exact hmn)
                have k549 : 0 ≤ (I537 0 35).toInt ∧ (I537 0 35).toInt ≤ (I537 0 34).toInt ∧ (I537 0 34).toInt ≤ (I537 0 33).toInt ∧ (I537 0 33).toInt ≤ 500 ∧ ((I537 0 36).toInt = 0 ∨ (I537 0 35).toInt + 1 ≤ (I537 0 34).toInt) := (by have q0 : (I537 0 35) = (I 0 35) := by rw [fI537 0 35 (by decide)]; have q1 : (I537 0 34) = (I 0 34) := by rw [fI537 0 34 (by decide)]; have q2 : (I537 0 33) = (I 0 33) := by rw [fI537 0 33 (by decide)]; have q3 : (I537 0 36) = (I 0 36) := by rw [fI537 0 36 (by decide)]; show 0 ≤ (I537 0 35).toInt ∧ (I537 0 35).toInt ≤ (I537 0 34).toInt ∧ (I537 0 34).toInt ≤ (I537 0 33).toInt ∧ (I537 0 33).toInt ≤ 500 ∧ ((I537 0 36).toInt = 0 ∨ (I537 0 35).toInt + 1 ≤ (I537 0 34).toInt); rw [q0, q1, q2, q3]; first | omega | decide)
                have k550 : (I537 0 35).toInt = (I 0 35).toInt := by rw [fI537 0 35 (by decide)]
                have k551 : (I537 0 34).toInt = (I 0 34).toInt := by rw [fI537 0 34 (by decide)]
                have k552 : (I537 0 36).toInt = (I 0 36).toInt := by rw [fI537 0 36 (by decide)]
                have k553 : (I537 0 47).toInt = (I 0 47).toInt := by rw [fI537 0 47 (by decide)]
                have k554 : (I537 0 39).toInt = (I 0 39).toInt := by rw [fI537 0 39 (by decide)]
                have k555 : (I537 0 15).toInt = (I 0 15).toInt := by rw [fI537 0 15 (by decide)]
                have k556 : (I537 0 40).toInt = (I 0 40).toInt := by rw [fI537 0 40 (by decide)]
                have h557 := hp
                exact z_vret hx hb hr hK hS (Nat.le_of_ble_eq_true rfl) (Nat.le_of_ble_eq_true rfl) hlocks dX12_atom_179 (shM, ad, I537, J539, PM ad) hW ⟨I537, J539, rfl, ⟨(by show 0 ≤ (I537 0 31).toInt ∧ (I537 0 31).toInt ≤ 500; exact k540), (by show 0 ≤ (I537 0 33).toInt ∧ (I537 0 33).toInt ≤ 500; exact k541), (by show 0 ≤ (I537 0 34).toInt ∧ (I537 0 34).toInt ≤ 500; exact k542), (by show 0 ≤ (I537 0 35).toInt ∧ (I537 0 35).toInt ≤ 500; exact k543)⟩, ⟨(by show 0 ≤ (I537 0 36).toInt ∧ (I537 0 36).toInt ≤ 4; exact hI537mt.1), (by show 0 ≤ (I537 0 42).toInt ∧ (I537 0 42).toInt ≤ 1; exact hI537mt.2)⟩, ⟨(by show 0 ≤ (I537 0 47).toInt ∧ (I537 0 47).toInt ≤ 119; exact k545), (by show 0 ≤ (I537 0 39).toInt ∧ (I537 0 39).toInt ≤ 100; exact k546)⟩, (by show 0 ≤ (I537 0 40).toInt ∧ (I537 0 40).toInt ≤ 6199; exact k547), (by show 0 ≤ (I537 0 15).toInt ∧ (I537 0 15).toInt ≤ 6100; exact k548), (z_Nd_fr hNd fI537 (by decide)), (by show 0 ≤ (I537 0 35).toInt ∧ (I537 0 35).toInt ≤ (I537 0 34).toInt ∧ (I537 0 34).toInt ≤ (I537 0 33).toInt ∧ (I537 0 33).toInt ≤ 500 ∧ ((I537 0 36).toInt = 0 ∨ (I537 0 35).toInt + 1 ≤ (I537 0 34).toInt); first | omega | decide), f538, (Or.inl (by show ¬ (I537 0 42).toInt = 0; omega))⟩
    · have g558 := z_f_eq rfl z_l2 c139
      refine lv_aload_n hx hb dX12_atom_17 rfl (lv_at hl 0 rfl) ?_
      refine z_get (T := TX12) (N := 96) (ci := 12) (i := 0) (v := .int (I 0 38)) hx hb hts zj_X12_atom_X12 hown hK hW rfl rfl 38 (by decide) (hts (.fieldLink RX12 278 "PetrolBoardModel" "value" "I") (List.mem_of_getElem? (i := 3) rfl)) (fun _ h => h) rfl dX12_atom_18 ?_
      refine lv_istore_n (lv' := [(2, .int (I 0 38)), (0, .ref (ad 0)), (1, .int a1)]) hx hb dX12_atom_21 rfl hl (by decide) rfl (fun ls hl => ?_)
      refine lv_aload_n hx hb dX12_atom_22 rfl (lv_at hl 1 rfl) ?_
      refine z_cv hW hS hA (va_runV (As := []) (rest := []) ⟨hx, hb, hml, hown, hts⟩ (sx_X12_next l G ad I J ⟨(by show 0 ≤ (I 0 31).toInt ∧ (I 0 31).toInt ≤ 500; exact hmp.1), (by show 0 ≤ (I 0 33).toInt ∧ (I 0 33).toInt ≤ 500; exact hmp.2.1), (by show 0 ≤ (I 0 34).toInt ∧ (I 0 34).toInt ≤ 500; exact hmp.2.2.1), (by show 0 ≤ (I 0 35).toInt ∧ (I 0 35).toInt ≤ 500; exact hmp.2.2.2)⟩ ⟨(by show 0 ≤ (I 0 36).toInt ∧ (I 0 36).toInt ≤ 4; exact hmt.1), (by show 0 ≤ (I 0 42).toInt ∧ (I 0 42).toInt ≤ 1; exact hmt.2)⟩ (by show 0 ≤ (I 0 34).toInt ∧ (I 0 34).toInt ≤ (I 0 33).toInt ∧ (I 0 33).toInt ≤ 500; first | omega | decide)  _) (cwV 0 hts gX12_atom_X12_next rfl rfl rfl (by decide +kernel) ⟨Nat.le_of_ble_eq_true rfl, Nat.le_of_ble_eq_true rfl⟩) (z_preV (i := 0) hK hW rfl rfl) rfl rfl hl.1 rfl (lv_room (Nat.le_of_ble_eq_true rfl)) dX12_atom_23 ⟨Nat.le_of_ble_eq_true rfl, Nat.le_of_ble_eq_true rfl⟩) (fun u1 H locs hp hW hS => ?_)
      obtain ⟨I559, J561, e9, hI559mp, hI559mt, hI559rp, fI559, hp⟩ := hp
      rw [e9] at hW
      have f560 := z_fr_sub (L := L_X12_atom) z_fr_0 fI559 (by decide)
      have k562 : 0 ≤ (I559 0 47).toInt ∧ (I559 0 47).toInt ≤ 119 := by rw [fI559 0 47 (by decide)]; exact (by show 0 ≤ (I 0 47).toInt ∧ (I 0 47).toInt ≤ 119; exact hmd.1)
      have k563 : 0 ≤ (I559 0 39).toInt ∧ (I559 0 39).toInt ≤ 100 := by rw [fI559 0 39 (by decide)]; exact (by show 0 ≤ (I 0 39).toInt ∧ (I 0 39).toInt ≤ 100; exact hmd.2)
      have k564 : 0 ≤ (I559 0 40).toInt ∧ (I559 0 40).toInt ≤ 6199 := by rw [fI559 0 40 (by decide)]; exact (by show 0 ≤ (I 0 40).toInt ∧ (I 0 40).toInt ≤ 6199; exact hmg)
      have k565 : 0 ≤ (I559 0 15).toInt ∧ (I559 0 15).toInt ≤ 6100 := by rw [fI559 0 15 (by decide)]; exact (by show 0 ≤ (I 0 15).toInt ∧ (I 0 15).toInt ≤ 6100; exact hmn)
      have k566 : 0 ≤ (I559 0 35).toInt ∧ (I559 0 35).toInt ≤ (I559 0 34).toInt ∧ (I559 0 34).toInt ≤ (I559 0 33).toInt ∧ (I559 0 33).toInt ≤ 500 ∧ ((I559 0 36).toInt = 0 ∨ (I559 0 35).toInt + 1 ≤ (I559 0 34).toInt) := hI559rp
      have k567 : (I559 0 42).toInt = (I 0 42).toInt := by rw [fI559 0 42 (by decide)]
      have k568 : (I559 0 47).toInt = (I 0 47).toInt := by rw [fI559 0 47 (by decide)]
      have k569 : (I559 0 39).toInt = (I 0 39).toInt := by rw [fI559 0 39 (by decide)]
      have k570 : (I559 0 15).toInt = (I 0 15).toInt := by rw [fI559 0 15 (by decide)]
      have k571 : (I559 0 40).toInt = (I 0 40).toInt := by rw [fI559 0 40 (by decide)]
      have h572 := hp
      refine lv_aload_n hx hb dX12_atom_26 rfl (lv_at hl 1 rfl) ?_
      refine lv_aload_n hx hb dX12_atom_27 rfl (lv_at hl 1 rfl) ?_
      refine lv_iconst (v := 0) hx hb dX12_atom_28 (by decide) ?_
      refine lv_iload_n hx hb dX12_atom_29 rfl (lv_at hl 0 rfl) ?_
      refine lv_iconst (v := 0) hx hb dX12_atom_30 (by decide) ?_
      refine z_ci hW hS hA (va_runV (As := [.int 0, .int (I 0 38), .int 0]) (rest := [.ref (ad 0)]) ⟨hx, hb, hml, hown, hts⟩ (sx_X12_node l G ad I559 J561 (by show 0 ≤ (I559 0 15).toInt ∧ (I559 0 15).toInt ≤ 6100; exact k565) (z_Nd_fr hNd fI559 (by decide)) 0 (I 0 38) 0 (by show (I559 0 15).toInt ≤ 6099; omega) (by have := z_l0; have := z_l0; first | omega | decide) (by have := z_l0; have := z_l0; first | omega | decide) (by have := z_l0; have := z_l0; first | omega | decide) _) (cwV 3 hts gX12_atom_X12_node rfl rfl rfl (by decide +kernel) ⟨Nat.le_of_ble_eq_true rfl, Nat.le_of_ble_eq_true rfl⟩) (z_preV (i := 0) hK hW rfl rfl) rfl rfl hl.1 rfl (lv_room (Nat.le_of_ble_eq_true rfl)) dX12_atom_31 ⟨Nat.le_of_ble_eq_true rfl, Nat.le_of_ble_eq_true rfl⟩) (fun r u1 H locs hp hW hS => ?_)
      obtain ⟨I573, J575, e9, hI573mn, hI573Nd, fI573, hp⟩ := hp
      rw [e9] at hW
      have f574 := z_fr_sub (L := L_X12_atom) f560 fI573 (by decide)
      have k576 : 0 ≤ (I573 0 31).toInt ∧ (I573 0 31).toInt ≤ 500 := by rw [fI573 0 31 (by decide)]; exact (by show 0 ≤ (I559 0 31).toInt ∧ (I559 0 31).toInt ≤ 500; exact hI559mp.1)
      have k577 : 0 ≤ (I573 0 33).toInt ∧ (I573 0 33).toInt ≤ 500 := by rw [fI573 0 33 (by decide)]; exact (by show 0 ≤ (I559 0 33).toInt ∧ (I559 0 33).toInt ≤ 500; exact hI559mp.2.1)
      have k578 : 0 ≤ (I573 0 34).toInt ∧ (I573 0 34).toInt ≤ 500 := by rw [fI573 0 34 (by decide)]; exact (by show 0 ≤ (I559 0 34).toInt ∧ (I559 0 34).toInt ≤ 500; exact hI559mp.2.2.1)
      have k579 : 0 ≤ (I573 0 35).toInt ∧ (I573 0 35).toInt ≤ 500 := by rw [fI573 0 35 (by decide)]; exact (by show 0 ≤ (I559 0 35).toInt ∧ (I559 0 35).toInt ≤ 500; exact hI559mp.2.2.2)
      have k580 : 0 ≤ (I573 0 36).toInt ∧ (I573 0 36).toInt ≤ 4 := by rw [fI573 0 36 (by decide)]; exact (by show 0 ≤ (I559 0 36).toInt ∧ (I559 0 36).toInt ≤ 4; exact hI559mt.1)
      have k581 : 0 ≤ (I573 0 42).toInt ∧ (I573 0 42).toInt ≤ 1 := by rw [fI573 0 42 (by decide)]; exact (by show 0 ≤ (I559 0 42).toInt ∧ (I559 0 42).toInt ≤ 1; exact hI559mt.2)
      have k582 : 0 ≤ (I573 0 47).toInt ∧ (I573 0 47).toInt ≤ 119 := by rw [fI573 0 47 (by decide)]; exact (by show 0 ≤ (I559 0 47).toInt ∧ (I559 0 47).toInt ≤ 119; exact k562)
      have k583 : 0 ≤ (I573 0 39).toInt ∧ (I573 0 39).toInt ≤ 100 := by rw [fI573 0 39 (by decide)]; exact (by show 0 ≤ (I559 0 39).toInt ∧ (I559 0 39).toInt ≤ 100; exact k563)
      have k584 : 0 ≤ (I573 0 40).toInt ∧ (I573 0 40).toInt ≤ 6199 := by rw [fI573 0 40 (by decide)]; exact (by show 0 ≤ (I559 0 40).toInt ∧ (I559 0 40).toInt ≤ 6199; exact k564)
      have k585 : 0 ≤ (I573 0 35).toInt ∧ (I573 0 35).toInt ≤ (I573 0 34).toInt ∧ (I573 0 34).toInt ≤ (I573 0 33).toInt ∧ (I573 0 33).toInt ≤ 500 ∧ ((I573 0 36).toInt = 0 ∨ (I573 0 35).toInt + 1 ≤ (I573 0 34).toInt) := (by have q0 : (I573 0 35) = (I559 0 35) := by rw [fI573 0 35 (by decide)]; have q1 : (I573 0 34) = (I559 0 34) := by rw [fI573 0 34 (by decide)]; have q2 : (I573 0 33) = (I559 0 33) := by rw [fI573 0 33 (by decide)]; have q3 : (I573 0 36) = (I559 0 36) := by rw [fI573 0 36 (by decide)]; show 0 ≤ (I573 0 35).toInt ∧ (I573 0 35).toInt ≤ (I573 0 34).toInt ∧ (I573 0 34).toInt ≤ (I573 0 33).toInt ∧ (I573 0 33).toInt ≤ 500 ∧ ((I573 0 36).toInt = 0 ∨ (I573 0 35).toInt + 1 ≤ (I573 0 34).toInt); rw [q0, q1, q2, q3]; first | omega | decide)
      have k586 : (I573 0 35).toInt = (I559 0 35).toInt := by rw [fI573 0 35 (by decide)]
      have k587 : (I573 0 34).toInt = (I559 0 34).toInt := by rw [fI573 0 34 (by decide)]
      have k588 : (I573 0 36).toInt = (I559 0 36).toInt := by rw [fI573 0 36 (by decide)]
      have k589 : (I573 0 42).toInt = (I559 0 42).toInt := by rw [fI573 0 42 (by decide)]
      have k590 : (I573 0 47).toInt = (I559 0 47).toInt := by rw [fI573 0 47 (by decide)]
      have k591 : (I573 0 39).toInt = (I559 0 39).toInt := by rw [fI573 0 39 (by decide)]
      have k592 : (I573 0 40).toInt = (I559 0 40).toInt := by rw [fI573 0 40 (by decide)]
      refine lv_topi (fun x593 ex593 => ?_)
      rw [← ex593] at hp
      obtain ⟨h594, h595⟩ := hp
      refine z_cv hW hS hA (va_runV (As := [.int x593]) (rest := []) ⟨hx, hb, hml, hown, hts⟩ (sx_X12_ends l G ad I573 J575 ⟨(by show 0 ≤ (I573 0 47).toInt ∧ (I573 0 47).toInt ≤ 119; exact k582), (by show 0 ≤ (I573 0 39).toInt ∧ (I573 0 39).toInt ≤ 100; exact k583)⟩ (by show 0 ≤ (I573 0 40).toInt ∧ (I573 0 40).toInt ≤ 6199; exact k584) x593 (by first | omega | decide) (by show 1 ≤ (I573 0 47).toInt; omega) _) (cwV 1 hts gX12_atom_X12_ends rfl rfl rfl (by decide +kernel) ⟨Nat.le_of_ble_eq_true rfl, Nat.le_of_ble_eq_true rfl⟩) (z_preV (i := 0) hK hW rfl rfl) rfl rfl hl.1 rfl (lv_room (Nat.le_of_ble_eq_true rfl)) dX12_atom_34 ⟨Nat.le_of_ble_eq_true rfl, Nat.le_of_ble_eq_true rfl⟩) (fun u1 H locs hp hW hS => ?_)
      obtain ⟨I596, J598, e9, hI596md, hI596mg, fI596, hp⟩ := hp
      rw [e9] at hW
      have f597 := z_fr_sub (L := L_X12_atom) f574 fI596 (by decide)
      have k599 : 0 ≤ (I596 0 31).toInt ∧ (I596 0 31).toInt ≤ 500 := by rw [fI596 0 31 (by decide)]; exact (by show 0 ≤ (I573 0 31).toInt ∧ (I573 0 31).toInt ≤ 500; exact k576)
      have k600 : 0 ≤ (I596 0 33).toInt ∧ (I596 0 33).toInt ≤ 500 := by rw [fI596 0 33 (by decide)]; exact (by show 0 ≤ (I573 0 33).toInt ∧ (I573 0 33).toInt ≤ 500; exact k577)
      have k601 : 0 ≤ (I596 0 34).toInt ∧ (I596 0 34).toInt ≤ 500 := by rw [fI596 0 34 (by decide)]; exact (by show 0 ≤ (I573 0 34).toInt ∧ (I573 0 34).toInt ≤ 500; exact k578)
      have k602 : 0 ≤ (I596 0 35).toInt ∧ (I596 0 35).toInt ≤ 500 := by rw [fI596 0 35 (by decide)]; exact (by show 0 ≤ (I573 0 35).toInt ∧ (I573 0 35).toInt ≤ 500; exact k579)
      have k603 : 0 ≤ (I596 0 36).toInt ∧ (I596 0 36).toInt ≤ 4 := by rw [fI596 0 36 (by decide)]; exact (by show 0 ≤ (I573 0 36).toInt ∧ (I573 0 36).toInt ≤ 4; exact k580)
      have k604 : 0 ≤ (I596 0 42).toInt ∧ (I596 0 42).toInt ≤ 1 := by rw [fI596 0 42 (by decide)]; exact (by show 0 ≤ (I573 0 42).toInt ∧ (I573 0 42).toInt ≤ 1; exact k581)
      have k605 : 0 ≤ (I596 0 15).toInt ∧ (I596 0 15).toInt ≤ 6100 := by rw [fI596 0 15 (by decide)]; exact (by show 0 ≤ (I573 0 15).toInt ∧ (I573 0 15).toInt ≤ 6100; exact hI573mn)
      have k606 : 0 ≤ (I596 0 35).toInt ∧ (I596 0 35).toInt ≤ (I596 0 34).toInt ∧ (I596 0 34).toInt ≤ (I596 0 33).toInt ∧ (I596 0 33).toInt ≤ 500 ∧ ((I596 0 36).toInt = 0 ∨ (I596 0 35).toInt + 1 ≤ (I596 0 34).toInt) := (by have q0 : (I596 0 35) = (I573 0 35) := by rw [fI596 0 35 (by decide)]; have q1 : (I596 0 34) = (I573 0 34) := by rw [fI596 0 34 (by decide)]; have q2 : (I596 0 33) = (I573 0 33) := by rw [fI596 0 33 (by decide)]; have q3 : (I596 0 36) = (I573 0 36) := by rw [fI596 0 36 (by decide)]; show 0 ≤ (I596 0 35).toInt ∧ (I596 0 35).toInt ≤ (I596 0 34).toInt ∧ (I596 0 34).toInt ≤ (I596 0 33).toInt ∧ (I596 0 33).toInt ≤ 500 ∧ ((I596 0 36).toInt = 0 ∨ (I596 0 35).toInt + 1 ≤ (I596 0 34).toInt); rw [q0, q1, q2, q3]; first | omega | decide)
      have k607 : (I596 0 35).toInt = (I573 0 35).toInt := by rw [fI596 0 35 (by decide)]
      have k608 : (I596 0 34).toInt = (I573 0 34).toInt := by rw [fI596 0 34 (by decide)]
      have k609 : (I596 0 36).toInt = (I573 0 36).toInt := by rw [fI596 0 36 (by decide)]
      have k610 : (I596 0 42).toInt = (I573 0 42).toInt := by rw [fI596 0 42 (by decide)]
      have k611 : (I596 0 39).toInt = (I573 0 39).toInt := by rw [fI596 0 39 (by decide)]
      have k612 : (I596 0 15).toInt = (I573 0 15).toInt := by rw [fI596 0 15 (by decide)]
      have h613 := hp
      refine lv_goto (tgt := 311) hx hb dX12_atom_37 (by decide) ?_
      exact z_vret hx hb hr hK hS (Nat.le_of_ble_eq_true rfl) (Nat.le_of_ble_eq_true rfl) hlocks dX12_atom_311 (shM, ad, I596, J598, PM ad) hW ⟨I596, J598, rfl, ⟨(by show 0 ≤ (I596 0 31).toInt ∧ (I596 0 31).toInt ≤ 500; exact k599), (by show 0 ≤ (I596 0 33).toInt ∧ (I596 0 33).toInt ≤ 500; exact k600), (by show 0 ≤ (I596 0 34).toInt ∧ (I596 0 34).toInt ≤ 500; exact k601), (by show 0 ≤ (I596 0 35).toInt ∧ (I596 0 35).toInt ≤ 500; exact k602)⟩, ⟨(by show 0 ≤ (I596 0 36).toInt ∧ (I596 0 36).toInt ≤ 4; exact k603), (by show 0 ≤ (I596 0 42).toInt ∧ (I596 0 42).toInt ≤ 1; exact k604)⟩, ⟨(by show 0 ≤ (I596 0 47).toInt ∧ (I596 0 47).toInt ≤ 119; exact hI596md.1), (by show 0 ≤ (I596 0 39).toInt ∧ (I596 0 39).toInt ≤ 100; exact hI596md.2)⟩, (by show 0 ≤ (I596 0 40).toInt ∧ (I596 0 40).toInt ≤ 6199; exact hI596mg), (by show 0 ≤ (I596 0 15).toInt ∧ (I596 0 15).toInt ≤ 6100; exact k605), (z_Nd_fr hI573Nd fI596 (by decide)), (by show 0 ≤ (I596 0 35).toInt ∧ (I596 0 35).toInt ≤ (I596 0 34).toInt ∧ (I596 0 34).toInt ≤ (I596 0 33).toInt ∧ (I596 0 33).toInt ≤ 500 ∧ ((I596 0 36).toInt = 0 ∨ (I596 0 35).toInt + 1 ≤ (I596 0 34).toInt); first | omega | decide), f597, ((Classical.em ((I596 0 42).toInt = 0)).elim (fun hw9 => Or.inr ⟨a1.toNatClampNeg, by have w1 := z_fw_20 (a := va.toInt) (o := vo.toInt) (by omega); have w2 := z_fo_2n (a := va.toInt) (by omega); exact z_POP (d := a1.toNatClampNeg) hPS (fun i hi => ⟨by rw [fI596 26 i (z_wr_c (by decide)), fI573 26 i (z_wr_c (by decide)), fI559 26 i (z_wr_c (by decide))], by rw [fI596 27 i (z_wr_c (by decide)), fI573 27 i (z_wr_c (by decide)), fI559 27 i (z_wr_c (by decide))], by rw [fI596 28 i (z_wr_c (by decide)), fI573 28 i (z_wr_c (by decide)), fI559 28 i (z_wr_c (by decide))], by rw [fI596 29 i (z_wr_c (by decide)), fI573 29 i (z_wr_c (by decide)), fI559 29 i (z_wr_c (by decide))]⟩) (by omega) (by omega) (by omega) (by omega) (by omega) (by omega)⟩) Or.inl)⟩
def L_X12_chain_1 : z_L := [(0, 35), (0, 36), (0, 37), (0, 38), (0, 34), (0, 42), (0, 32), (0, 39), (21, 999), (22, 999), (23, 999), (0, 15), (26, 999), (27, 999), (28, 999), (29, 999), (0, 47), (0, 40)]
theorem zj_X12_chain_X12 : ∀ w ∈ wsX120, w ∈ wsX12_chain := fun w h => (List.mem_cons_of_mem _ (List.mem_append_right _ h))
set_option maxHeartbeats 8000000 in
set_option maxRecDepth 100000 in
theorem sx_X12_chain_1 (l : Launch) (G : z_G) (ad : Nat → Nat) (I : z_I) (J : z_J) (hmp : z_imp I) (hmt : z_imt I) (hmd : z_imd I) (hmg : z_img I) (hmn : z_imn I) (hNd : z_Nd I) (hrp : z_irp I) (B : Int) (a1 : Int32) (q1 : 0 ≤ a1.toInt ∧ a1.toInt ≤ 33) (hwd : (I 26 a1.toNatClampNeg).toInt = 3) (hPS : z_PS I (a1.toNatClampNeg + 1) B) : z_Mv l yX12_chain wsX12_chain { frames := 3, cells := 0, slots := 0, locals := 55 } [.ref (ad 0), .int a1, .int 1] G (shM, ad, I, J, PM ad) (fun u1 => ∃ (I1 : z_I) (J1 : z_J), u1 = (shM, ad, I1, J1, PM ad) ∧ z_imp I1 ∧ z_imt I1 ∧ z_imd I1 ∧ z_img I1 ∧ z_imn I1 ∧ z_Nd I1 ∧ z_irp I1 ∧ z_fr L_X12_chain_1 I1 I ∧ (¬ (I1 0 42).toInt = 0 ∨ ∃ n, z_PS I1 n (B - 1))) 0 0 := by
  intro sz
  refine z_headQ (cc := cX12_chain) (maxL := 3) (ret := none) (by decide) rfl (Nat.le_of_ble_eq_true rfl) ?_
  intro p e s m below meth c0 ls hIn hK hsz hW hl
  obtain ⟨hx, hb, hr, hml, hown, hts, hlocks, hname⟩ := hIn
  subst hsz
  have hown : s.vm.findClass RX12 = some m.cls := hown
  have hA : ∀ q : Nat, s.heap.size ≤ q → z_A (shM, ad, I, J, PM ad) s.heap.size q := fun q h => Or.inr h
  generalize hAe : z_A (shM, ad, I, J, PM ad) s.heap.size = A at *
  have hS : va_S A s.heap s.heap [] := va_S.rf
  have hl : lv_has ls 3 [(0, .ref (ad 0)), (1, .int a1), (2, .int 1)] := hl
  obtain ⟨va, eva⟩ : ∃ y, y = I 27 a1.toNatClampNeg := ⟨_, rfl⟩
  obtain ⟨vo, evo⟩ : ∃ y, y = I 28 a1.toNatClampNeg := ⟨_, rfl⟩
  obtain ⟨vs, evs⟩ : ∃ y, y = I 29 a1.toNatClampNeg := ⟨_, rfl⟩
  have hT := z_top hPS
  unfold z_fv at hT
  rw [hwd, ← eva, ← evo, ← evs] at hT
  obtain ⟨t1, t2, t3, t4, t5, t6, t7, t8, t9, t10, t11, t12, t13, t14, t15, t16, t17, t18, t19, t20, t21⟩ := hT
  have hk9 := z_clt (x := a1) rfl q1.1
  obtain ⟨vw, evw⟩ : ∃ y, y = I 26 a1.toNatClampNeg := ⟨_, rfl⟩
  have hvw : vw.toInt = 3 := by rw [evw]; exact hwd
  have krp : 0 ≤ (I 0 35).toInt ∧ (I 0 35).toInt ≤ (I 0 34).toInt ∧ (I 0 34).toInt ≤ (I 0 33).toInt ∧ (I 0 33).toInt ≤ 500 ∧ ((I 0 36).toInt = 0 ∨ (I 0 35).toInt + 1 ≤ (I 0 34).toInt) := hrp
  refine lv_aload_n hx hb dX12_chain_0 rfl (lv_at hl 0 rfl) ?_
  refine z_get (T := TX12) (N := 96) (ci := 12) (i := 0) (v := .ref (ad 27)) hx hb hts zj_X12_chain_X12 hown hK hW rfl rfl 44 (by decide) (hts (.fieldLink RX12 94 "PetrolBoardModel" "at" "[I") (List.mem_of_getElem? (i := 1) rfl)) (fun _ h => h) rfl dX12_chain_1 ?_
  refine lv_iload_n hx hb dX12_chain_4 rfl (lv_at hl 1 rfl) ?_
  refine z_iald (i := 27) hx hb hK hW rfl (z_ix rfl (by omega) (by omega)) dX12_chain_5 ?_
  refine z_topi (v := va) eva.symm ?_
  refine lv_if_ne (tgt := 30) hx hb dX12_chain_6 (by decide) (fun c1 => ?_) (fun c1 => ?_)
  · have g2 := z_f_ne rfl z_l0 c1
    refine lv_aload_n hx hb dX12_chain_30 rfl (lv_at hl 0 rfl) ?_
    refine z_get (T := TX12) (N := 96) (ci := 12) (i := 0) (v := .ref (ad 28)) hx hb hts zj_X12_chain_X12 hown hK hW rfl rfl 45 (by decide) (hts (.fieldLink RX12 97 "PetrolBoardModel" "one" "[I") (List.mem_of_getElem? (i := 2) rfl)) (fun _ h => h) rfl dX12_chain_31 ?_
    refine lv_iload_n hx hb dX12_chain_34 rfl (lv_at hl 1 rfl) ?_
    refine lv_aload_n hx hb dX12_chain_35 rfl (lv_at hl 0 rfl) ?_
    refine z_get (T := TX12) (N := 96) (ci := 12) (i := 0) (v := .ref (ad 28)) hx hb hts zj_X12_chain_X12 hown hK hW rfl rfl 45 (by decide) (hts (.fieldLink RX12 97 "PetrolBoardModel" "one" "[I") (List.mem_of_getElem? (i := 2) rfl)) (fun _ h => h) rfl dX12_chain_36 ?_
    refine lv_iload_n hx hb dX12_chain_39 rfl (lv_at hl 1 rfl) ?_
    refine z_iald (i := 28) hx hb hK hW rfl (z_ix rfl (by omega) (by omega)) dX12_chain_40 ?_
    refine z_topi (v := vo) evo.symm ?_
    refine lv_if_ge (tgt := 51) hx hb dX12_chain_41 (by decide) (fun c3 => ?_) (fun c3 => ?_)
    · have g4 := z_f_ge rfl z_l0 c3
      refine lv_aload_n hx hb dX12_chain_51 rfl (lv_at hl 0 rfl) ?_
      refine lv_iload_n hx hb dX12_chain_52 rfl (lv_at hl 2 rfl) ?_
      refine lv_if_eq (tgt := 61) hx hb dX12_chain_53 (by decide) (fun c5 => absurd c5 (by decide)) (fun c5 => ?_)
      refine lv_bipush (v := 13) hx hb dX12_chain_56 (by decide) ?_
      refine lv_goto (tgt := 63) hx hb dX12_chain_58 (by decide) ?_
      refine lv_aload_n hx hb dX12_chain_63 rfl (lv_at hl 0 rfl) ?_
      refine z_get (T := TX12) (N := 96) (ci := 12) (i := 0) (v := .ref (ad 28)) hx hb hts zj_X12_chain_X12 hown hK hW rfl rfl 45 (by decide) (hts (.fieldLink RX12 97 "PetrolBoardModel" "one" "[I") (List.mem_of_getElem? (i := 2) rfl)) (fun _ h => h) rfl dX12_chain_64 ?_
      refine lv_iload_n hx hb dX12_chain_67 rfl (lv_at hl 1 rfl) ?_
      refine z_iald (i := 28) hx hb hK hW rfl (z_ix rfl (by omega) (by omega)) dX12_chain_68 ?_
      refine z_topi (v := vo) evo.symm ?_
      refine lv_aload_n hx hb dX12_chain_69 rfl (lv_at hl 0 rfl) ?_
      have r6 : 0 ≤ (I 0 40).toInt ∧ (I 0 40).toInt ≤ 6199 := hmg
      refine z_get (T := TX12) (N := 96) (ci := 12) (i := 0) (v := .int (I 0 40)) hx hb hts zj_X12_chain_X12 hown hK hW rfl rfl 40 (by decide) (hts (.fieldLink RX12 343 "PetrolBoardModel" "got" "I") (List.mem_of_getElem? (i := 3) rfl)) (fun _ h => h) rfl dX12_chain_70 ?_
      refine z_ci hW hS hA (va_runV (As := [.int 13, .int vo, .int (I 0 40)]) (rest := [.int a1, .ref (ad 28)]) ⟨hx, hb, hml, hown, hts⟩ (sx_X12_node l G ad I J (by show 0 ≤ (I 0 15).toInt ∧ (I 0 15).toInt ≤ 6100; exact hmn) hNd 13 vo (I 0 40) (by show (I 0 15).toInt ≤ 6099; omega) (by have := z_l13; first | omega | decide) (by have := z_l13; first | omega | decide) (by have := z_l13; first | omega | decide) _) (cwV 3 hts gX12_chain_X12_node rfl rfl rfl (by decide +kernel) ⟨Nat.le_of_ble_eq_true rfl, Nat.le_of_ble_eq_true rfl⟩) (z_preV (i := 0) hK hW rfl rfl) rfl rfl hl.1 rfl (lv_room (Nat.le_of_ble_eq_true rfl)) dX12_chain_73 ⟨Nat.le_of_ble_eq_true rfl, Nat.le_of_ble_eq_true rfl⟩) (fun r u1 H locs hp hW hS => ?_)
      obtain ⟨I7, J9, e9, hI7mn, hI7Nd, fI7, hp⟩ := hp
      rw [e9] at hW
      have f8 := z_fr_sub (L := L_X12_chain_1) z_fr_0 fI7 (by decide)
      have k10 : 0 ≤ (I7 0 31).toInt ∧ (I7 0 31).toInt ≤ 500 := by rw [fI7 0 31 (by decide)]; exact (by show 0 ≤ (I 0 31).toInt ∧ (I 0 31).toInt ≤ 500; exact hmp.1)
      have k11 : 0 ≤ (I7 0 33).toInt ∧ (I7 0 33).toInt ≤ 500 := by rw [fI7 0 33 (by decide)]; exact (by show 0 ≤ (I 0 33).toInt ∧ (I 0 33).toInt ≤ 500; exact hmp.2.1)
      have k12 : 0 ≤ (I7 0 34).toInt ∧ (I7 0 34).toInt ≤ 500 := by rw [fI7 0 34 (by decide)]; exact (by show 0 ≤ (I 0 34).toInt ∧ (I 0 34).toInt ≤ 500; exact hmp.2.2.1)
      have k13 : 0 ≤ (I7 0 35).toInt ∧ (I7 0 35).toInt ≤ 500 := by rw [fI7 0 35 (by decide)]; exact (by show 0 ≤ (I 0 35).toInt ∧ (I 0 35).toInt ≤ 500; exact hmp.2.2.2)
      have k14 : 0 ≤ (I7 0 36).toInt ∧ (I7 0 36).toInt ≤ 4 := by rw [fI7 0 36 (by decide)]; exact (by show 0 ≤ (I 0 36).toInt ∧ (I 0 36).toInt ≤ 4; exact hmt.1)
      have k15 : 0 ≤ (I7 0 42).toInt ∧ (I7 0 42).toInt ≤ 1 := by rw [fI7 0 42 (by decide)]; exact (by show 0 ≤ (I 0 42).toInt ∧ (I 0 42).toInt ≤ 1; exact hmt.2)
      have k16 : 0 ≤ (I7 0 47).toInt ∧ (I7 0 47).toInt ≤ 119 := by rw [fI7 0 47 (by decide)]; exact (by show 0 ≤ (I 0 47).toInt ∧ (I 0 47).toInt ≤ 119; exact hmd.1)
      have k17 : 0 ≤ (I7 0 39).toInt ∧ (I7 0 39).toInt ≤ 100 := by rw [fI7 0 39 (by decide)]; exact (by show 0 ≤ (I 0 39).toInt ∧ (I 0 39).toInt ≤ 100; exact hmd.2)
      have k18 : 0 ≤ (I7 0 40).toInt ∧ (I7 0 40).toInt ≤ 6199 := by rw [fI7 0 40 (by decide)]; exact (by show 0 ≤ (I 0 40).toInt ∧ (I 0 40).toInt ≤ 6199; exact hmg)
      have k19 : 0 ≤ (I7 0 35).toInt ∧ (I7 0 35).toInt ≤ (I7 0 34).toInt ∧ (I7 0 34).toInt ≤ (I7 0 33).toInt ∧ (I7 0 33).toInt ≤ 500 ∧ ((I7 0 36).toInt = 0 ∨ (I7 0 35).toInt + 1 ≤ (I7 0 34).toInt) := (by have q0 : (I7 0 35) = (I 0 35) := by rw [fI7 0 35 (by decide)]; have q1 : (I7 0 34) = (I 0 34) := by rw [fI7 0 34 (by decide)]; have q2 : (I7 0 33) = (I 0 33) := by rw [fI7 0 33 (by decide)]; have q3 : (I7 0 36) = (I 0 36) := by rw [fI7 0 36 (by decide)]; show 0 ≤ (I7 0 35).toInt ∧ (I7 0 35).toInt ≤ (I7 0 34).toInt ∧ (I7 0 34).toInt ≤ (I7 0 33).toInt ∧ (I7 0 33).toInt ≤ 500 ∧ ((I7 0 36).toInt = 0 ∨ (I7 0 35).toInt + 1 ≤ (I7 0 34).toInt); rw [q0, q1, q2, q3]; first | omega | decide)
      have k20 : (I7 0 35).toInt = (I 0 35).toInt := by rw [fI7 0 35 (by decide)]
      have k21 : (I7 0 34).toInt = (I 0 34).toInt := by rw [fI7 0 34 (by decide)]
      have k22 : (I7 0 36).toInt = (I 0 36).toInt := by rw [fI7 0 36 (by decide)]
      have k23 : (I7 0 42).toInt = (I 0 42).toInt := by rw [fI7 0 42 (by decide)]
      have k24 : (I7 0 47).toInt = (I 0 47).toInt := by rw [fI7 0 47 (by decide)]
      have k25 : (I7 0 39).toInt = (I 0 39).toInt := by rw [fI7 0 39 (by decide)]
      have k26 : (I7 0 40).toInt = (I 0 40).toInt := by rw [fI7 0 40 (by decide)]
      refine lv_topi (fun x27 ex27 => ?_)
      rw [← ex27] at hp
      obtain ⟨h28, h29⟩ := hp
      refine z_iast (i := 28) hx hb hK hW hS rfl (z_ix rfl (by omega) (by omega)) dX12_chain_76 (fun H locs hz1 hW hS => ?_)
      obtain ⟨I30, eI30⟩ : ∃ K : z_I, K = z_up I7 28 a1.toNatClampNeg x27 := ⟨_, rfl⟩
      rw [← eI30] at hW
      have f31 := z_fr_a f8 (show z_wa L_X12_chain_1 28 = true by decide) eI30
      have a32 := z_Nd_n hI7Nd (by decide) eI30
      refine lv_aload_n hx hb dX12_chain_77 rfl (lv_at hl 0 rfl) ?_
      refine lv_iload_n hx hb dX12_chain_78 rfl (lv_at hl 2 rfl) ?_
      refine lv_if_eq (tgt := 88) hx hb dX12_chain_79 (by decide) (fun c33 => absurd c33 (by decide)) (fun c33 => ?_)
      refine lv_ldc2 (v := 423) hx hb hown (hts (.constantLong RX12 390 (423)) (List.mem_of_getElem? (i := 4) rfl)) dX12_chain_82 ?_
      refine lv_goto (tgt := 91) hx hb dX12_chain_85 (by decide) ?_
      refine z_ci hW hS hA (va_runV (As := [.long 423]) (rest := []) ⟨hx, hb, hml, hown, hts⟩ (sx_X12_isWord l G ad I30 J9 ⟨(by show 0 ≤ (I30 0 36).toInt ∧ (I30 0 36).toInt ≤ 4; rw [eI30, z_up_n (by decide)]; exact k14), (by show 0 ≤ (I30 0 42).toInt ∧ (I30 0 42).toInt ≤ 1; rw [eI30, z_up_n (by decide)]; exact k15)⟩ 423 _) (cwV 1 hts gX12_chain_X12_isWord rfl rfl rfl (by decide +kernel) ⟨Nat.le_of_ble_eq_true rfl, Nat.le_of_ble_eq_true rfl⟩) (z_preV (i := 0) hK hW rfl rfl) rfl rfl hl.1 rfl (lv_room (Nat.le_of_ble_eq_true rfl)) dX12_chain_91 ⟨Nat.le_of_ble_eq_true rfl, Nat.le_of_ble_eq_true rfl⟩) (fun r u1 H locs hp hW hS => ?_)
      obtain ⟨e9, hp⟩ := hp
      rw [e9] at hW
      rcases hp with ⟨rfl, h34⟩ | rfl
      · rw [show (I30 0 36) = (I7 0 36) from by rw [eI30, z_up_n (by decide)]] at h34
        have h35 : (I7 0 35).toInt + 1 ≤ (I7 0 34).toInt := by omega
        refine lv_if_eq (tgt := 117) hx hb dX12_chain_94 (by decide) (fun c36 => absurd c36 (by decide)) (fun c36 => ?_)
        refine lv_aload_n hx hb dX12_chain_97 rfl (lv_at hl 0 rfl) ?_
        refine z_cv hW hS hA (va_runV (As := []) (rest := []) ⟨hx, hb, hml, hown, hts⟩ (sx_X12_next l G ad I30 J9 ⟨(by show 0 ≤ (I30 0 31).toInt ∧ (I30 0 31).toInt ≤ 500; rw [eI30, z_up_n (by decide)]; exact k10), (by show 0 ≤ (I30 0 33).toInt ∧ (I30 0 33).toInt ≤ 500; rw [eI30, z_up_n (by decide)]; exact k11), (by show 0 ≤ (I30 0 34).toInt ∧ (I30 0 34).toInt ≤ 500; rw [eI30, z_up_n (by decide)]; exact k12), (by show 0 ≤ (I30 0 35).toInt ∧ (I30 0 35).toInt ≤ 500; rw [eI30, z_up_n (by decide)]; exact k13)⟩ ⟨(by show 0 ≤ (I30 0 36).toInt ∧ (I30 0 36).toInt ≤ 4; rw [eI30, z_up_n (by decide)]; exact k14), (by show 0 ≤ (I30 0 42).toInt ∧ (I30 0 42).toInt ≤ 1; rw [eI30, z_up_n (by decide)]; exact k15)⟩ (by have q0 : (I30 0 34) = (I7 0 34) := by rw [eI30, z_up_n (by decide)]; have q1 : (I30 0 33) = (I7 0 33) := by rw [eI30, z_up_n (by decide)]; show 0 ≤ (I30 0 34).toInt ∧ (I30 0 34).toInt ≤ (I30 0 33).toInt ∧ (I30 0 33).toInt ≤ 500; rw [q0, q1]; first | omega | decide)  _) (cwV 0 hts gX12_chain_X12_next rfl rfl rfl (by decide +kernel) ⟨Nat.le_of_ble_eq_true rfl, Nat.le_of_ble_eq_true rfl⟩) (z_preV (i := 0) hK hW rfl rfl) rfl rfl hl.1 rfl (lv_room (Nat.le_of_ble_eq_true rfl)) dX12_chain_98 ⟨Nat.le_of_ble_eq_true rfl, Nat.le_of_ble_eq_true rfl⟩) (fun u1 H locs hp hW hS => ?_)
        obtain ⟨I37, J39, e9, hI37mp, hI37mt, hI37rp, fI37, hp⟩ := hp
        rw [e9] at hW
        have f38 := z_fr_sub (L := L_X12_chain_1) f31 fI37 (by decide)
        have k40 : 0 ≤ (I37 0 47).toInt ∧ (I37 0 47).toInt ≤ 119 := by rw [fI37 0 47 (by decide)]; exact (by show 0 ≤ (I30 0 47).toInt ∧ (I30 0 47).toInt ≤ 119; rw [eI30, z_up_n (by decide)]; exact k16)
        have k41 : 0 ≤ (I37 0 39).toInt ∧ (I37 0 39).toInt ≤ 100 := by rw [fI37 0 39 (by decide)]; exact (by show 0 ≤ (I30 0 39).toInt ∧ (I30 0 39).toInt ≤ 100; rw [eI30, z_up_n (by decide)]; exact k17)
        have k42 : 0 ≤ (I37 0 40).toInt ∧ (I37 0 40).toInt ≤ 6199 := by rw [fI37 0 40 (by decide)]; exact (by show 0 ≤ (I30 0 40).toInt ∧ (I30 0 40).toInt ≤ 6199; rw [eI30, z_up_n (by decide)]; exact k18)
        have k43 : 0 ≤ (I37 0 15).toInt ∧ (I37 0 15).toInt ≤ 6100 := by rw [fI37 0 15 (by decide)]; exact (by show 0 ≤ (I30 0 15).toInt ∧ (I30 0 15).toInt ≤ 6100; rw [eI30, z_up_n (by decide)]; exact hI7mn)
        have k44 : 0 ≤ (I37 0 35).toInt ∧ (I37 0 35).toInt ≤ (I37 0 34).toInt ∧ (I37 0 34).toInt ≤ (I37 0 33).toInt ∧ (I37 0 33).toInt ≤ 500 ∧ ((I37 0 36).toInt = 0 ∨ (I37 0 35).toInt + 1 ≤ (I37 0 34).toInt) := hI37rp
        have k45 : (I37 0 42).toInt = (I7 0 42).toInt := by rw [fI37 0 42 (by decide), eI30, z_up_n (by decide)]
        have k46 : (I37 0 47).toInt = (I7 0 47).toInt := by rw [fI37 0 47 (by decide), eI30, z_up_n (by decide)]
        have k47 : (I37 0 39).toInt = (I7 0 39).toInt := by rw [fI37 0 39 (by decide), eI30, z_up_n (by decide)]
        have k48 : (I37 0 15).toInt = (I7 0 15).toInt := by rw [fI37 0 15 (by decide), eI30, z_up_n (by decide)]
        have k49 : (I37 0 40).toInt = (I7 0 40).toInt := by rw [fI37 0 40 (by decide), eI30, z_up_n (by decide)]
        have h50 := hp
        rw [show (I30 0 34) = (I7 0 34) from by rw [eI30, z_up_n (by decide)]] at h50
        refine lv_aload_n hx hb dX12_chain_101 rfl (lv_at hl 0 rfl) ?_
        refine lv_iload_n hx hb dX12_chain_102 rfl (lv_at hl 2 rfl) ?_
        refine lv_if_eq (tgt := 110) hx hb dX12_chain_103 (by decide) (fun c51 => absurd c51 (by decide)) (fun c51 => ?_)
        refine lv_iconst (v := 4) hx hb dX12_chain_106 (by decide) ?_
        refine lv_goto (tgt := 111) hx hb dX12_chain_107 (by decide) ?_
        refine z_cv hW hS hA (va_runV (As := [.int 4]) (rest := []) ⟨hx, hb, hml, hown, hts⟩ (sx_X12_begin l G ad I37 J39 ⟨(by show 0 ≤ (I37 0 47).toInt ∧ (I37 0 47).toInt ≤ 119; exact k40), (by show 0 ≤ (I37 0 39).toInt ∧ (I37 0 39).toInt ≤ 100; exact k41)⟩ 4 (by show (I37 0 47).toInt ≤ 118; omega) _) (cwV 1 hts gX12_chain_X12_begin rfl rfl rfl (by decide +kernel) ⟨Nat.le_of_ble_eq_true rfl, Nat.le_of_ble_eq_true rfl⟩) (z_preV (i := 0) hK hW rfl rfl) rfl rfl hl.1 rfl (lv_room (Nat.le_of_ble_eq_true rfl)) dX12_chain_111 ⟨Nat.le_of_ble_eq_true rfl, Nat.le_of_ble_eq_true rfl⟩) (fun u1 H locs hp hW hS => ?_)
        obtain ⟨I52, J54, e9, hI52md, fI52, hp⟩ := hp
        rw [e9] at hW
        have f53 := z_fr_sub (L := L_X12_chain_1) f38 fI52 (by decide)
        have k55 : 0 ≤ (I52 0 31).toInt ∧ (I52 0 31).toInt ≤ 500 := by rw [fI52 0 31 (by decide)]; exact (by show 0 ≤ (I37 0 31).toInt ∧ (I37 0 31).toInt ≤ 500; exact hI37mp.1)
        have k56 : 0 ≤ (I52 0 33).toInt ∧ (I52 0 33).toInt ≤ 500 := by rw [fI52 0 33 (by decide)]; exact (by show 0 ≤ (I37 0 33).toInt ∧ (I37 0 33).toInt ≤ 500; exact hI37mp.2.1)
        have k57 : 0 ≤ (I52 0 34).toInt ∧ (I52 0 34).toInt ≤ 500 := by rw [fI52 0 34 (by decide)]; exact (by show 0 ≤ (I37 0 34).toInt ∧ (I37 0 34).toInt ≤ 500; exact hI37mp.2.2.1)
        have k58 : 0 ≤ (I52 0 35).toInt ∧ (I52 0 35).toInt ≤ 500 := by rw [fI52 0 35 (by decide)]; exact (by show 0 ≤ (I37 0 35).toInt ∧ (I37 0 35).toInt ≤ 500; exact hI37mp.2.2.2)
        have k59 : 0 ≤ (I52 0 36).toInt ∧ (I52 0 36).toInt ≤ 4 := by rw [fI52 0 36 (by decide)]; exact (by show 0 ≤ (I37 0 36).toInt ∧ (I37 0 36).toInt ≤ 4; exact hI37mt.1)
        have k60 : 0 ≤ (I52 0 42).toInt ∧ (I52 0 42).toInt ≤ 1 := by rw [fI52 0 42 (by decide)]; exact (by show 0 ≤ (I37 0 42).toInt ∧ (I37 0 42).toInt ≤ 1; exact hI37mt.2)
        have k61 : 0 ≤ (I52 0 40).toInt ∧ (I52 0 40).toInt ≤ 6199 := by rw [fI52 0 40 (by decide)]; exact (by show 0 ≤ (I37 0 40).toInt ∧ (I37 0 40).toInt ≤ 6199; exact k42)
        have k62 : 0 ≤ (I52 0 15).toInt ∧ (I52 0 15).toInt ≤ 6100 := by rw [fI52 0 15 (by decide)]; exact (by show 0 ≤ (I37 0 15).toInt ∧ (I37 0 15).toInt ≤ 6100; exact k43)
        have k63 : 0 ≤ (I52 0 35).toInt ∧ (I52 0 35).toInt ≤ (I52 0 34).toInt ∧ (I52 0 34).toInt ≤ (I52 0 33).toInt ∧ (I52 0 33).toInt ≤ 500 ∧ ((I52 0 36).toInt = 0 ∨ (I52 0 35).toInt + 1 ≤ (I52 0 34).toInt) := (by have q0 : (I52 0 35) = (I37 0 35) := by rw [fI52 0 35 (by decide)]; have q1 : (I52 0 34) = (I37 0 34) := by rw [fI52 0 34 (by decide)]; have q2 : (I52 0 33) = (I37 0 33) := by rw [fI52 0 33 (by decide)]; have q3 : (I52 0 36) = (I37 0 36) := by rw [fI52 0 36 (by decide)]; show 0 ≤ (I52 0 35).toInt ∧ (I52 0 35).toInt ≤ (I52 0 34).toInt ∧ (I52 0 34).toInt ≤ (I52 0 33).toInt ∧ (I52 0 33).toInt ≤ 500 ∧ ((I52 0 36).toInt = 0 ∨ (I52 0 35).toInt + 1 ≤ (I52 0 34).toInt); rw [q0, q1, q2, q3]; first | omega | decide)
        have k64 : (I52 0 35).toInt = (I37 0 35).toInt := by rw [fI52 0 35 (by decide)]
        have k65 : (I52 0 34).toInt = (I37 0 34).toInt := by rw [fI52 0 34 (by decide)]
        have k66 : (I52 0 36).toInt = (I37 0 36).toInt := by rw [fI52 0 36 (by decide)]
        have k67 : (I52 0 42).toInt = (I37 0 42).toInt := by rw [fI52 0 42 (by decide)]
        have k68 : (I52 0 39).toInt = (I37 0 39).toInt := by rw [fI52 0 39 (by decide)]
        have k69 : (I52 0 15).toInt = (I37 0 15).toInt := by rw [fI52 0 15 (by decide)]
        have k70 : (I52 0 40).toInt = (I37 0 40).toInt := by rw [fI52 0 40 (by decide)]
        have h71 := hp
        refine lv_goto (tgt := 127) hx hb dX12_chain_114 (by decide) ?_
        exact z_vret hx hb hr hK hS (Nat.le_of_ble_eq_true rfl) (Nat.le_of_ble_eq_true rfl) hlocks dX12_chain_127 (shM, ad, I52, J54, PM ad) hW ⟨I52, J54, rfl, ⟨(by show 0 ≤ (I52 0 31).toInt ∧ (I52 0 31).toInt ≤ 500; exact k55), (by show 0 ≤ (I52 0 33).toInt ∧ (I52 0 33).toInt ≤ 500; exact k56), (by show 0 ≤ (I52 0 34).toInt ∧ (I52 0 34).toInt ≤ 500; exact k57), (by show 0 ≤ (I52 0 35).toInt ∧ (I52 0 35).toInt ≤ 500; exact k58)⟩, ⟨(by show 0 ≤ (I52 0 36).toInt ∧ (I52 0 36).toInt ≤ 4; exact k59), (by show 0 ≤ (I52 0 42).toInt ∧ (I52 0 42).toInt ≤ 1; exact k60)⟩, ⟨(by show 0 ≤ (I52 0 47).toInt ∧ (I52 0 47).toInt ≤ 119; exact hI52md.1), (by show 0 ≤ (I52 0 39).toInt ∧ (I52 0 39).toInt ≤ 100; exact hI52md.2)⟩, (by show 0 ≤ (I52 0 40).toInt ∧ (I52 0 40).toInt ≤ 6199; exact k61), (by show 0 ≤ (I52 0 15).toInt ∧ (I52 0 15).toInt ≤ 6100; exact k62), (z_Nd_fr (z_Nd_fr a32 fI37 (by decide)) fI52 (by decide)), (by show 0 ≤ (I52 0 35).toInt ∧ (I52 0 35).toInt ≤ (I52 0 34).toInt ∧ (I52 0 34).toInt ≤ (I52 0 33).toInt ∧ (I52 0 33).toInt ≤ 500 ∧ ((I52 0 36).toInt = 0 ∨ (I52 0 35).toInt + 1 ≤ (I52 0 34).toInt); first | omega | decide), f53, ((Classical.em ((I52 0 42).toInt = 0)).elim (fun hw9 => Or.inr ⟨a1.toNatClampNeg + 2, by have w1 := z_fw_3np (a := va.toInt) (o := vo.toInt) (by omega) (by omega); have w2 := z_fo_3n (a := va.toInt); have w3 := z_fw_3np (a := va.toInt) (o := x27.toInt) (by omega) (by omega); have w4 := z_fo_3n (a := va.toInt); have w5 := z_fw_40 (a := 0) (o := -1) (by omega); have w6 := z_rk_3; have w7 := z_rk_4; exact z_PUSH (d := a1.toNatClampNeg) (w := 3) (a := va.toInt) (o := x27.toInt) (s := vs.toInt) (wi := 4) hPS (fun i hi => ⟨by rw [fI37 26 i (z_wr_c (by decide)), eI30, z_up_n (by decide), fI7 26 i (z_wr_c (by decide))], by rw [fI37 27 i (z_wr_c (by decide)), eI30, z_up_n (by decide), fI7 27 i (z_wr_c (by decide))], by rw [fI37 28 i (z_wr_c (by decide)), eI30, z_up_k (by omega), fI7 28 i (z_wr_c (by decide))], by rw [fI37 29 i (z_wr_c (by decide)), eI30, z_up_n (by decide), fI7 29 i (z_wr_c (by decide))]⟩) (by rw [show I37 26 a1.toNatClampNeg = vw from (by rw [fI37 26 a1.toNatClampNeg (z_wr_c (by decide)), eI30, z_up_n (by decide), fI7 26 a1.toNatClampNeg (z_wr_c (by decide))]; exact evw.symm)]; exact hvw) (by rw [show I37 27 a1.toNatClampNeg = va from (by rw [fI37 27 a1.toNatClampNeg (z_wr_c (by decide)), eI30, z_up_n (by decide), fI7 27 a1.toNatClampNeg (z_wr_c (by decide))]; exact eva.symm)]; exact rfl) (by rw [show I37 28 a1.toNatClampNeg = x27 from (by rw [fI37 28 a1.toNatClampNeg (z_wr_c (by decide)), eI30, z_up_s])]; exact rfl) (by rw [show I37 29 a1.toNatClampNeg = vs from (by rw [fI37 29 a1.toNatClampNeg (z_wr_c (by decide)), eI30, z_up_n (by decide), fI7 29 a1.toNatClampNeg (z_wr_c (by decide))]; exact evs.symm)]; exact rfl) (by unfold z_fv; omega) hwd (by omega) h71 z_l4 (by omega) (by omega) (by omega) (by omega) (by omega) (by omega) (by omega) (by omega)⟩) Or.inl)⟩
      · refine lv_if_eq (tgt := 117) hx hb dX12_chain_94 (by decide) (fun c72 => ?_) (fun c72 => absurd (by decide) c72)
        refine lv_aload_n hx hb dX12_chain_117 rfl (lv_at hl 0 rfl) ?_
        refine lv_aload_n hx hb dX12_chain_118 rfl (lv_at hl 0 rfl) ?_
        refine z_get (T := TX12) (N := 96) (ci := 12) (i := 0) (v := .ref (ad 28)) hx hb hts zj_X12_chain_X12 hown hK hW rfl rfl 45 (by decide) (hts (.fieldLink RX12 97 "PetrolBoardModel" "one" "[I") (List.mem_of_getElem? (i := 2) rfl)) (fun _ h => h) rfl dX12_chain_119 ?_
        refine lv_iload_n hx hb dX12_chain_122 rfl (lv_at hl 1 rfl) ?_
        refine z_iald (i := 28) hx hb hK hW rfl (z_ix rfl (by omega) (by omega)) dX12_chain_123 ?_
        refine z_topi (v := x27) (by rw [eI30, z_up_s]) ?_
        refine z_cv hW hS hA (va_runV (As := [.int x27]) (rest := []) ⟨hx, hb, hml, hown, hts⟩ (sx_X12_ends l G ad I30 J9 ⟨(by show 0 ≤ (I30 0 47).toInt ∧ (I30 0 47).toInt ≤ 119; rw [eI30, z_up_n (by decide)]; exact k16), (by show 0 ≤ (I30 0 39).toInt ∧ (I30 0 39).toInt ≤ 100; rw [eI30, z_up_n (by decide)]; exact k17)⟩ (by show 0 ≤ (I30 0 40).toInt ∧ (I30 0 40).toInt ≤ 6199; rw [eI30, z_up_n (by decide)]; exact k18) x27 (by first | omega | decide) (by have q0 : (I30 0 47) = (I7 0 47) := by rw [eI30, z_up_n (by decide)]; show 1 ≤ (I30 0 47).toInt; rw [q0]; omega) _) (cwV 1 hts gX12_chain_X12_ends rfl rfl rfl (by decide +kernel) ⟨Nat.le_of_ble_eq_true rfl, Nat.le_of_ble_eq_true rfl⟩) (z_preV (i := 0) hK hW rfl rfl) rfl rfl hl.1 rfl (lv_room (Nat.le_of_ble_eq_true rfl)) dX12_chain_124 ⟨Nat.le_of_ble_eq_true rfl, Nat.le_of_ble_eq_true rfl⟩) (fun u1 H locs hp hW hS => ?_)
        obtain ⟨I73, J75, e9, hI73md, hI73mg, fI73, hp⟩ := hp
        rw [e9] at hW
        have f74 := z_fr_sub (L := L_X12_chain_1) f31 fI73 (by decide)
        have k76 : 0 ≤ (I73 0 31).toInt ∧ (I73 0 31).toInt ≤ 500 := by rw [fI73 0 31 (by decide)]; exact (by show 0 ≤ (I30 0 31).toInt ∧ (I30 0 31).toInt ≤ 500; rw [eI30, z_up_n (by decide)]; exact k10)
        have k77 : 0 ≤ (I73 0 33).toInt ∧ (I73 0 33).toInt ≤ 500 := by rw [fI73 0 33 (by decide)]; exact (by show 0 ≤ (I30 0 33).toInt ∧ (I30 0 33).toInt ≤ 500; rw [eI30, z_up_n (by decide)]; exact k11)
        have k78 : 0 ≤ (I73 0 34).toInt ∧ (I73 0 34).toInt ≤ 500 := by rw [fI73 0 34 (by decide)]; exact (by show 0 ≤ (I30 0 34).toInt ∧ (I30 0 34).toInt ≤ 500; rw [eI30, z_up_n (by decide)]; exact k12)
        have k79 : 0 ≤ (I73 0 35).toInt ∧ (I73 0 35).toInt ≤ 500 := by rw [fI73 0 35 (by decide)]; exact (by show 0 ≤ (I30 0 35).toInt ∧ (I30 0 35).toInt ≤ 500; rw [eI30, z_up_n (by decide)]; exact k13)
        have k80 : 0 ≤ (I73 0 36).toInt ∧ (I73 0 36).toInt ≤ 4 := by rw [fI73 0 36 (by decide)]; exact (by show 0 ≤ (I30 0 36).toInt ∧ (I30 0 36).toInt ≤ 4; rw [eI30, z_up_n (by decide)]; exact k14)
        have k81 : 0 ≤ (I73 0 42).toInt ∧ (I73 0 42).toInt ≤ 1 := by rw [fI73 0 42 (by decide)]; exact (by show 0 ≤ (I30 0 42).toInt ∧ (I30 0 42).toInt ≤ 1; rw [eI30, z_up_n (by decide)]; exact k15)
        have k82 : 0 ≤ (I73 0 15).toInt ∧ (I73 0 15).toInt ≤ 6100 := by rw [fI73 0 15 (by decide)]; exact (by show 0 ≤ (I30 0 15).toInt ∧ (I30 0 15).toInt ≤ 6100; rw [eI30, z_up_n (by decide)]; exact hI7mn)
        have k83 : 0 ≤ (I73 0 35).toInt ∧ (I73 0 35).toInt ≤ (I73 0 34).toInt ∧ (I73 0 34).toInt ≤ (I73 0 33).toInt ∧ (I73 0 33).toInt ≤ 500 ∧ ((I73 0 36).toInt = 0 ∨ (I73 0 35).toInt + 1 ≤ (I73 0 34).toInt) := (by have q0 : (I73 0 35) = (I7 0 35) := by rw [fI73 0 35 (by decide), eI30, z_up_n (by decide)]; have q1 : (I73 0 34) = (I7 0 34) := by rw [fI73 0 34 (by decide), eI30, z_up_n (by decide)]; have q2 : (I73 0 33) = (I7 0 33) := by rw [fI73 0 33 (by decide), eI30, z_up_n (by decide)]; have q3 : (I73 0 36) = (I7 0 36) := by rw [fI73 0 36 (by decide), eI30, z_up_n (by decide)]; show 0 ≤ (I73 0 35).toInt ∧ (I73 0 35).toInt ≤ (I73 0 34).toInt ∧ (I73 0 34).toInt ≤ (I73 0 33).toInt ∧ (I73 0 33).toInt ≤ 500 ∧ ((I73 0 36).toInt = 0 ∨ (I73 0 35).toInt + 1 ≤ (I73 0 34).toInt); rw [q0, q1, q2, q3]; first | omega | decide)
        have k84 : (I73 0 35).toInt = (I7 0 35).toInt := by rw [fI73 0 35 (by decide), eI30, z_up_n (by decide)]
        have k85 : (I73 0 34).toInt = (I7 0 34).toInt := by rw [fI73 0 34 (by decide), eI30, z_up_n (by decide)]
        have k86 : (I73 0 36).toInt = (I7 0 36).toInt := by rw [fI73 0 36 (by decide), eI30, z_up_n (by decide)]
        have k87 : (I73 0 42).toInt = (I7 0 42).toInt := by rw [fI73 0 42 (by decide), eI30, z_up_n (by decide)]
        have k88 : (I73 0 39).toInt = (I7 0 39).toInt := by rw [fI73 0 39 (by decide), eI30, z_up_n (by decide)]
        have k89 : (I73 0 15).toInt = (I7 0 15).toInt := by rw [fI73 0 15 (by decide), eI30, z_up_n (by decide)]
        have h90 := hp
        rw [show (I30 0 47) = (I7 0 47) from by rw [eI30, z_up_n (by decide)]] at h90
        exact z_vret hx hb hr hK hS (Nat.le_of_ble_eq_true rfl) (Nat.le_of_ble_eq_true rfl) hlocks dX12_chain_127 (shM, ad, I73, J75, PM ad) hW ⟨I73, J75, rfl, ⟨(by show 0 ≤ (I73 0 31).toInt ∧ (I73 0 31).toInt ≤ 500; exact k76), (by show 0 ≤ (I73 0 33).toInt ∧ (I73 0 33).toInt ≤ 500; exact k77), (by show 0 ≤ (I73 0 34).toInt ∧ (I73 0 34).toInt ≤ 500; exact k78), (by show 0 ≤ (I73 0 35).toInt ∧ (I73 0 35).toInt ≤ 500; exact k79)⟩, ⟨(by show 0 ≤ (I73 0 36).toInt ∧ (I73 0 36).toInt ≤ 4; exact k80), (by show 0 ≤ (I73 0 42).toInt ∧ (I73 0 42).toInt ≤ 1; exact k81)⟩, ⟨(by show 0 ≤ (I73 0 47).toInt ∧ (I73 0 47).toInt ≤ 119; exact hI73md.1), (by show 0 ≤ (I73 0 39).toInt ∧ (I73 0 39).toInt ≤ 100; exact hI73md.2)⟩, (by show 0 ≤ (I73 0 40).toInt ∧ (I73 0 40).toInt ≤ 6199; exact hI73mg), (by show 0 ≤ (I73 0 15).toInt ∧ (I73 0 15).toInt ≤ 6100; exact k82), (z_Nd_fr a32 fI73 (by decide)), (by show 0 ≤ (I73 0 35).toInt ∧ (I73 0 35).toInt ≤ (I73 0 34).toInt ∧ (I73 0 34).toInt ≤ (I73 0 33).toInt ∧ (I73 0 33).toInt ≤ 500 ∧ ((I73 0 36).toInt = 0 ∨ (I73 0 35).toInt + 1 ≤ (I73 0 34).toInt); first | omega | decide), f74, ((Classical.em ((I73 0 42).toInt = 0)).elim (fun hw9 => Or.inr ⟨a1.toNatClampNeg, by have w1 := z_fw_3np (a := va.toInt) (o := vo.toInt) (by omega) (by omega); have w2 := z_fo_3n (a := va.toInt); exact z_POP (d := a1.toNatClampNeg) hPS (fun i hi => ⟨by rw [fI73 26 i (z_wr_c (by decide)), eI30, z_up_n (by decide), fI7 26 i (z_wr_c (by decide))], by rw [fI73 27 i (z_wr_c (by decide)), eI30, z_up_n (by decide), fI7 27 i (z_wr_c (by decide))], by rw [fI73 28 i (z_wr_c (by decide)), eI30, z_up_k (by omega), fI7 28 i (z_wr_c (by decide))], by rw [fI73 29 i (z_wr_c (by decide)), eI30, z_up_n (by decide), fI7 29 i (z_wr_c (by decide))]⟩) (by omega) (by omega) (by omega) (by omega) (by omega) (by omega)⟩) Or.inl)⟩
    · have g91 := z_f_nge rfl z_l0 c3
      refine lv_aload_n hx hb dX12_chain_44 rfl (lv_at hl 0 rfl) ?_
      have r92 : 0 ≤ (I 0 40).toInt ∧ (I 0 40).toInt ≤ 6199 := hmg
      refine z_get (T := TX12) (N := 96) (ci := 12) (i := 0) (v := .int (I 0 40)) hx hb hts zj_X12_chain_X12 hown hK hW rfl rfl 40 (by decide) (hts (.fieldLink RX12 343 "PetrolBoardModel" "got" "I") (List.mem_of_getElem? (i := 3) rfl)) (fun _ h => h) rfl dX12_chain_45 ?_
      refine lv_goto (tgt := 76) hx hb dX12_chain_48 (by decide) ?_
      refine z_iast (i := 28) hx hb hK hW hS rfl (z_ix rfl (by omega) (by omega)) dX12_chain_76 (fun H locs hz1 hW hS => ?_)
      obtain ⟨I93, eI93⟩ : ∃ K : z_I, K = z_up I 28 a1.toNatClampNeg (I 0 40) := ⟨_, rfl⟩
      rw [← eI93] at hW
      have f94 := z_fr_a z_fr_0 (show z_wa L_X12_chain_1 28 = true by decide) eI93
      have a95 := z_Nd_n hNd (by decide) eI93
      refine lv_aload_n hx hb dX12_chain_77 rfl (lv_at hl 0 rfl) ?_
      refine lv_iload_n hx hb dX12_chain_78 rfl (lv_at hl 2 rfl) ?_
      refine lv_if_eq (tgt := 88) hx hb dX12_chain_79 (by decide) (fun c96 => absurd c96 (by decide)) (fun c96 => ?_)
      refine lv_ldc2 (v := 423) hx hb hown (hts (.constantLong RX12 390 (423)) (List.mem_of_getElem? (i := 4) rfl)) dX12_chain_82 ?_
      refine lv_goto (tgt := 91) hx hb dX12_chain_85 (by decide) ?_
      refine z_ci hW hS hA (va_runV (As := [.long 423]) (rest := []) ⟨hx, hb, hml, hown, hts⟩ (sx_X12_isWord l G ad I93 J ⟨(by show 0 ≤ (I93 0 36).toInt ∧ (I93 0 36).toInt ≤ 4; rw [eI93, z_up_n (by decide)]; exact hmt.1), (by show 0 ≤ (I93 0 42).toInt ∧ (I93 0 42).toInt ≤ 1; rw [eI93, z_up_n (by decide)]; exact hmt.2)⟩ 423 _) (cwV 1 hts gX12_chain_X12_isWord rfl rfl rfl (by decide +kernel) ⟨Nat.le_of_ble_eq_true rfl, Nat.le_of_ble_eq_true rfl⟩) (z_preV (i := 0) hK hW rfl rfl) rfl rfl hl.1 rfl (lv_room (Nat.le_of_ble_eq_true rfl)) dX12_chain_91 ⟨Nat.le_of_ble_eq_true rfl, Nat.le_of_ble_eq_true rfl⟩) (fun r u1 H locs hp hW hS => ?_)
      obtain ⟨e9, hp⟩ := hp
      rw [e9] at hW
      rcases hp with ⟨rfl, h97⟩ | rfl
      · rw [show (I93 0 36) = (I 0 36) from by rw [eI93, z_up_n (by decide)]] at h97
        have h98 : (I 0 35).toInt + 1 ≤ (I 0 34).toInt := by omega
        refine lv_if_eq (tgt := 117) hx hb dX12_chain_94 (by decide) (fun c99 => absurd c99 (by decide)) (fun c99 => ?_)
        refine lv_aload_n hx hb dX12_chain_97 rfl (lv_at hl 0 rfl) ?_
        refine z_cv hW hS hA (va_runV (As := []) (rest := []) ⟨hx, hb, hml, hown, hts⟩ (sx_X12_next l G ad I93 J ⟨(by show 0 ≤ (I93 0 31).toInt ∧ (I93 0 31).toInt ≤ 500; rw [eI93, z_up_n (by decide)]; exact hmp.1), (by show 0 ≤ (I93 0 33).toInt ∧ (I93 0 33).toInt ≤ 500; rw [eI93, z_up_n (by decide)]; exact hmp.2.1), (by show 0 ≤ (I93 0 34).toInt ∧ (I93 0 34).toInt ≤ 500; rw [eI93, z_up_n (by decide)]; exact hmp.2.2.1), (by show 0 ≤ (I93 0 35).toInt ∧ (I93 0 35).toInt ≤ 500; rw [eI93, z_up_n (by decide)]; exact hmp.2.2.2)⟩ ⟨(by show 0 ≤ (I93 0 36).toInt ∧ (I93 0 36).toInt ≤ 4; rw [eI93, z_up_n (by decide)]; exact hmt.1), (by show 0 ≤ (I93 0 42).toInt ∧ (I93 0 42).toInt ≤ 1; rw [eI93, z_up_n (by decide)]; exact hmt.2)⟩ (by have q0 : (I93 0 34) = (I 0 34) := by rw [eI93, z_up_n (by decide)]; have q1 : (I93 0 33) = (I 0 33) := by rw [eI93, z_up_n (by decide)]; show 0 ≤ (I93 0 34).toInt ∧ (I93 0 34).toInt ≤ (I93 0 33).toInt ∧ (I93 0 33).toInt ≤ 500; rw [q0, q1]; first | omega | decide)  _) (cwV 0 hts gX12_chain_X12_next rfl rfl rfl (by decide +kernel) ⟨Nat.le_of_ble_eq_true rfl, Nat.le_of_ble_eq_true rfl⟩) (z_preV (i := 0) hK hW rfl rfl) rfl rfl hl.1 rfl (lv_room (Nat.le_of_ble_eq_true rfl)) dX12_chain_98 ⟨Nat.le_of_ble_eq_true rfl, Nat.le_of_ble_eq_true rfl⟩) (fun u1 H locs hp hW hS => ?_)
        obtain ⟨I100, J102, e9, hI100mp, hI100mt, hI100rp, fI100, hp⟩ := hp
        rw [e9] at hW
        have f101 := z_fr_sub (L := L_X12_chain_1) f94 fI100 (by decide)
        have k103 : 0 ≤ (I100 0 47).toInt ∧ (I100 0 47).toInt ≤ 119 := by rw [fI100 0 47 (by decide)]; exact (by show 0 ≤ (I93 0 47).toInt ∧ (I93 0 47).toInt ≤ 119; rw [eI93, z_up_n (by decide)]; exact hmd.1)
        have k104 : 0 ≤ (I100 0 39).toInt ∧ (I100 0 39).toInt ≤ 100 := by rw [fI100 0 39 (by decide)]; exact (by show 0 ≤ (I93 0 39).toInt ∧ (I93 0 39).toInt ≤ 100; rw [eI93, z_up_n (by decide)]; exact hmd.2)
        have k105 : 0 ≤ (I100 0 40).toInt ∧ (I100 0 40).toInt ≤ 6199 := by rw [fI100 0 40 (by decide)]; exact (by show 0 ≤ (I93 0 40).toInt ∧ (I93 0 40).toInt ≤ 6199; rw [eI93, z_up_n (by decide)]; exact hmg)
        have k106 : 0 ≤ (I100 0 15).toInt ∧ (I100 0 15).toInt ≤ 6100 := by rw [fI100 0 15 (by decide)]; exact (by show 0 ≤ (I93 0 15).toInt ∧ (I93 0 15).toInt ≤ 6100; rw [eI93, z_up_n (by decide)]; exact hmn)
        have k107 : 0 ≤ (I100 0 35).toInt ∧ (I100 0 35).toInt ≤ (I100 0 34).toInt ∧ (I100 0 34).toInt ≤ (I100 0 33).toInt ∧ (I100 0 33).toInt ≤ 500 ∧ ((I100 0 36).toInt = 0 ∨ (I100 0 35).toInt + 1 ≤ (I100 0 34).toInt) := hI100rp
        have k108 : (I100 0 42).toInt = (I 0 42).toInt := by rw [fI100 0 42 (by decide), eI93, z_up_n (by decide)]
        have k109 : (I100 0 47).toInt = (I 0 47).toInt := by rw [fI100 0 47 (by decide), eI93, z_up_n (by decide)]
        have k110 : (I100 0 39).toInt = (I 0 39).toInt := by rw [fI100 0 39 (by decide), eI93, z_up_n (by decide)]
        have k111 : (I100 0 15).toInt = (I 0 15).toInt := by rw [fI100 0 15 (by decide), eI93, z_up_n (by decide)]
        have k112 : (I100 0 40).toInt = (I 0 40).toInt := by rw [fI100 0 40 (by decide), eI93, z_up_n (by decide)]
        have h113 := hp
        rw [show (I93 0 34) = (I 0 34) from by rw [eI93, z_up_n (by decide)]] at h113
        refine lv_aload_n hx hb dX12_chain_101 rfl (lv_at hl 0 rfl) ?_
        refine lv_iload_n hx hb dX12_chain_102 rfl (lv_at hl 2 rfl) ?_
        refine lv_if_eq (tgt := 110) hx hb dX12_chain_103 (by decide) (fun c114 => absurd c114 (by decide)) (fun c114 => ?_)
        refine lv_iconst (v := 4) hx hb dX12_chain_106 (by decide) ?_
        refine lv_goto (tgt := 111) hx hb dX12_chain_107 (by decide) ?_
        refine z_cv hW hS hA (va_runV (As := [.int 4]) (rest := []) ⟨hx, hb, hml, hown, hts⟩ (sx_X12_begin l G ad I100 J102 ⟨(by show 0 ≤ (I100 0 47).toInt ∧ (I100 0 47).toInt ≤ 119; exact k103), (by show 0 ≤ (I100 0 39).toInt ∧ (I100 0 39).toInt ≤ 100; exact k104)⟩ 4 (by show (I100 0 47).toInt ≤ 118; omega) _) (cwV 1 hts gX12_chain_X12_begin rfl rfl rfl (by decide +kernel) ⟨Nat.le_of_ble_eq_true rfl, Nat.le_of_ble_eq_true rfl⟩) (z_preV (i := 0) hK hW rfl rfl) rfl rfl hl.1 rfl (lv_room (Nat.le_of_ble_eq_true rfl)) dX12_chain_111 ⟨Nat.le_of_ble_eq_true rfl, Nat.le_of_ble_eq_true rfl⟩) (fun u1 H locs hp hW hS => ?_)
        obtain ⟨I115, J117, e9, hI115md, fI115, hp⟩ := hp
        rw [e9] at hW
        have f116 := z_fr_sub (L := L_X12_chain_1) f101 fI115 (by decide)
        have k118 : 0 ≤ (I115 0 31).toInt ∧ (I115 0 31).toInt ≤ 500 := by rw [fI115 0 31 (by decide)]; exact (by show 0 ≤ (I100 0 31).toInt ∧ (I100 0 31).toInt ≤ 500; exact hI100mp.1)
        have k119 : 0 ≤ (I115 0 33).toInt ∧ (I115 0 33).toInt ≤ 500 := by rw [fI115 0 33 (by decide)]; exact (by show 0 ≤ (I100 0 33).toInt ∧ (I100 0 33).toInt ≤ 500; exact hI100mp.2.1)
        have k120 : 0 ≤ (I115 0 34).toInt ∧ (I115 0 34).toInt ≤ 500 := by rw [fI115 0 34 (by decide)]; exact (by show 0 ≤ (I100 0 34).toInt ∧ (I100 0 34).toInt ≤ 500; exact hI100mp.2.2.1)
        have k121 : 0 ≤ (I115 0 35).toInt ∧ (I115 0 35).toInt ≤ 500 := by rw [fI115 0 35 (by decide)]; exact (by show 0 ≤ (I100 0 35).toInt ∧ (I100 0 35).toInt ≤ 500; exact hI100mp.2.2.2)
        have k122 : 0 ≤ (I115 0 36).toInt ∧ (I115 0 36).toInt ≤ 4 := by rw [fI115 0 36 (by decide)]; exact (by show 0 ≤ (I100 0 36).toInt ∧ (I100 0 36).toInt ≤ 4; exact hI100mt.1)
        have k123 : 0 ≤ (I115 0 42).toInt ∧ (I115 0 42).toInt ≤ 1 := by rw [fI115 0 42 (by decide)]; exact (by show 0 ≤ (I100 0 42).toInt ∧ (I100 0 42).toInt ≤ 1; exact hI100mt.2)
        have k124 : 0 ≤ (I115 0 40).toInt ∧ (I115 0 40).toInt ≤ 6199 := by rw [fI115 0 40 (by decide)]; exact (by show 0 ≤ (I100 0 40).toInt ∧ (I100 0 40).toInt ≤ 6199; exact k105)
        have k125 : 0 ≤ (I115 0 15).toInt ∧ (I115 0 15).toInt ≤ 6100 := by rw [fI115 0 15 (by decide)]; exact (by show 0 ≤ (I100 0 15).toInt ∧ (I100 0 15).toInt ≤ 6100; exact k106)
        have k126 : 0 ≤ (I115 0 35).toInt ∧ (I115 0 35).toInt ≤ (I115 0 34).toInt ∧ (I115 0 34).toInt ≤ (I115 0 33).toInt ∧ (I115 0 33).toInt ≤ 500 ∧ ((I115 0 36).toInt = 0 ∨ (I115 0 35).toInt + 1 ≤ (I115 0 34).toInt) := (by have q0 : (I115 0 35) = (I100 0 35) := by rw [fI115 0 35 (by decide)]; have q1 : (I115 0 34) = (I100 0 34) := by rw [fI115 0 34 (by decide)]; have q2 : (I115 0 33) = (I100 0 33) := by rw [fI115 0 33 (by decide)]; have q3 : (I115 0 36) = (I100 0 36) := by rw [fI115 0 36 (by decide)]; show 0 ≤ (I115 0 35).toInt ∧ (I115 0 35).toInt ≤ (I115 0 34).toInt ∧ (I115 0 34).toInt ≤ (I115 0 33).toInt ∧ (I115 0 33).toInt ≤ 500 ∧ ((I115 0 36).toInt = 0 ∨ (I115 0 35).toInt + 1 ≤ (I115 0 34).toInt); rw [q0, q1, q2, q3]; first | omega | decide)
        have k127 : (I115 0 35).toInt = (I100 0 35).toInt := by rw [fI115 0 35 (by decide)]
        have k128 : (I115 0 34).toInt = (I100 0 34).toInt := by rw [fI115 0 34 (by decide)]
        have k129 : (I115 0 36).toInt = (I100 0 36).toInt := by rw [fI115 0 36 (by decide)]
        have k130 : (I115 0 42).toInt = (I100 0 42).toInt := by rw [fI115 0 42 (by decide)]
        have k131 : (I115 0 39).toInt = (I100 0 39).toInt := by rw [fI115 0 39 (by decide)]
        have k132 : (I115 0 15).toInt = (I100 0 15).toInt := by rw [fI115 0 15 (by decide)]
        have k133 : (I115 0 40).toInt = (I100 0 40).toInt := by rw [fI115 0 40 (by decide)]
        have h134 := hp
        refine lv_goto (tgt := 127) hx hb dX12_chain_114 (by decide) ?_
        exact z_vret hx hb hr hK hS (Nat.le_of_ble_eq_true rfl) (Nat.le_of_ble_eq_true rfl) hlocks dX12_chain_127 (shM, ad, I115, J117, PM ad) hW ⟨I115, J117, rfl, ⟨(by show 0 ≤ (I115 0 31).toInt ∧ (I115 0 31).toInt ≤ 500; exact k118), (by show 0 ≤ (I115 0 33).toInt ∧ (I115 0 33).toInt ≤ 500; exact k119), (by show 0 ≤ (I115 0 34).toInt ∧ (I115 0 34).toInt ≤ 500; exact k120), (by show 0 ≤ (I115 0 35).toInt ∧ (I115 0 35).toInt ≤ 500; exact k121)⟩, ⟨(by show 0 ≤ (I115 0 36).toInt ∧ (I115 0 36).toInt ≤ 4; exact k122), (by show 0 ≤ (I115 0 42).toInt ∧ (I115 0 42).toInt ≤ 1; exact k123)⟩, ⟨(by show 0 ≤ (I115 0 47).toInt ∧ (I115 0 47).toInt ≤ 119; exact hI115md.1), (by show 0 ≤ (I115 0 39).toInt ∧ (I115 0 39).toInt ≤ 100; exact hI115md.2)⟩, (by show 0 ≤ (I115 0 40).toInt ∧ (I115 0 40).toInt ≤ 6199; exact k124), (by show 0 ≤ (I115 0 15).toInt ∧ (I115 0 15).toInt ≤ 6100; exact k125), (z_Nd_fr (z_Nd_fr a95 fI100 (by decide)) fI115 (by decide)), (by show 0 ≤ (I115 0 35).toInt ∧ (I115 0 35).toInt ≤ (I115 0 34).toInt ∧ (I115 0 34).toInt ≤ (I115 0 33).toInt ∧ (I115 0 33).toInt ≤ 500 ∧ ((I115 0 36).toInt = 0 ∨ (I115 0 35).toInt + 1 ≤ (I115 0 34).toInt); first | omega | decide), f116, ((Classical.em ((I115 0 42).toInt = 0)).elim (fun hw9 => Or.inr ⟨a1.toNatClampNeg + 2, by have w1 := z_fw_3nm (a := va.toInt) (o := vo.toInt) (by omega) (by omega); have w2 := z_fo_3n (a := va.toInt); have w3 := z_fw_3np (a := va.toInt) (o := (I 0 40).toInt) (by omega) (by omega); have w4 := z_fo_3n (a := va.toInt); have w5 := z_fw_40 (a := 0) (o := -1) (by omega); have w6 := z_rk_3; have w7 := z_rk_4; exact z_PUSH (d := a1.toNatClampNeg) (w := 3) (a := va.toInt) (o := (I 0 40).toInt) (s := vs.toInt) (wi := 4) hPS (fun i hi => ⟨by rw [fI100 26 i (z_wr_c (by decide)), eI93, z_up_n (by decide)], by rw [fI100 27 i (z_wr_c (by decide)), eI93, z_up_n (by decide)], by rw [fI100 28 i (z_wr_c (by decide)), eI93, z_up_k (by omega)], by rw [fI100 29 i (z_wr_c (by decide)), eI93, z_up_n (by decide)]⟩) (by rw [show I100 26 a1.toNatClampNeg = vw from (by rw [fI100 26 a1.toNatClampNeg (z_wr_c (by decide)), eI93, z_up_n (by decide)]; exact evw.symm)]; exact hvw) (by rw [show I100 27 a1.toNatClampNeg = va from (by rw [fI100 27 a1.toNatClampNeg (z_wr_c (by decide)), eI93, z_up_n (by decide)]; exact eva.symm)]; exact rfl) (by rw [show I100 28 a1.toNatClampNeg = (I 0 40) from (by rw [fI100 28 a1.toNatClampNeg (z_wr_c (by decide)), eI93, z_up_s])]; exact rfl) (by rw [show I100 29 a1.toNatClampNeg = vs from (by rw [fI100 29 a1.toNatClampNeg (z_wr_c (by decide)), eI93, z_up_n (by decide)]; exact evs.symm)]; exact rfl) (by unfold z_fv; omega) hwd (by omega) h134 z_l4 (by omega) (by omega) (by omega) (by omega) (by omega) (by omega) (by omega) (by omega)⟩) Or.inl)⟩
      · refine lv_if_eq (tgt := 117) hx hb dX12_chain_94 (by decide) (fun c135 => ?_) (fun c135 => absurd (by decide) c135)
        refine lv_aload_n hx hb dX12_chain_117 rfl (lv_at hl 0 rfl) ?_
        refine lv_aload_n hx hb dX12_chain_118 rfl (lv_at hl 0 rfl) ?_
        refine z_get (T := TX12) (N := 96) (ci := 12) (i := 0) (v := .ref (ad 28)) hx hb hts zj_X12_chain_X12 hown hK hW rfl rfl 45 (by decide) (hts (.fieldLink RX12 97 "PetrolBoardModel" "one" "[I") (List.mem_of_getElem? (i := 2) rfl)) (fun _ h => h) rfl dX12_chain_119 ?_
        refine lv_iload_n hx hb dX12_chain_122 rfl (lv_at hl 1 rfl) ?_
        refine z_iald (i := 28) hx hb hK hW rfl (z_ix rfl (by omega) (by omega)) dX12_chain_123 ?_
        refine z_topi (v := (I 0 40)) (by rw [eI93, z_up_s]) ?_
        refine z_cv hW hS hA (va_runV (As := [.int (I 0 40)]) (rest := []) ⟨hx, hb, hml, hown, hts⟩ (sx_X12_ends l G ad I93 J ⟨(by show 0 ≤ (I93 0 47).toInt ∧ (I93 0 47).toInt ≤ 119; rw [eI93, z_up_n (by decide)]; exact hmd.1), (by show 0 ≤ (I93 0 39).toInt ∧ (I93 0 39).toInt ≤ 100; rw [eI93, z_up_n (by decide)]; exact hmd.2)⟩ (by show 0 ≤ (I93 0 40).toInt ∧ (I93 0 40).toInt ≤ 6199; rw [eI93, z_up_n (by decide)]; exact hmg) (I 0 40) (by first | omega | decide) (by have q0 : (I93 0 47) = (I 0 47) := by rw [eI93, z_up_n (by decide)]; show 1 ≤ (I93 0 47).toInt; rw [q0]; omega) _) (cwV 1 hts gX12_chain_X12_ends rfl rfl rfl (by decide +kernel) ⟨Nat.le_of_ble_eq_true rfl, Nat.le_of_ble_eq_true rfl⟩) (z_preV (i := 0) hK hW rfl rfl) rfl rfl hl.1 rfl (lv_room (Nat.le_of_ble_eq_true rfl)) dX12_chain_124 ⟨Nat.le_of_ble_eq_true rfl, Nat.le_of_ble_eq_true rfl⟩) (fun u1 H locs hp hW hS => ?_)
        obtain ⟨I136, J138, e9, hI136md, hI136mg, fI136, hp⟩ := hp
        rw [e9] at hW
        have f137 := z_fr_sub (L := L_X12_chain_1) f94 fI136 (by decide)
        have k139 : 0 ≤ (I136 0 31).toInt ∧ (I136 0 31).toInt ≤ 500 := by rw [fI136 0 31 (by decide)]; exact (by show 0 ≤ (I93 0 31).toInt ∧ (I93 0 31).toInt ≤ 500; rw [eI93, z_up_n (by decide)]; exact hmp.1)
        have k140 : 0 ≤ (I136 0 33).toInt ∧ (I136 0 33).toInt ≤ 500 := by rw [fI136 0 33 (by decide)]; exact (by show 0 ≤ (I93 0 33).toInt ∧ (I93 0 33).toInt ≤ 500; rw [eI93, z_up_n (by decide)]; exact hmp.2.1)
        have k141 : 0 ≤ (I136 0 34).toInt ∧ (I136 0 34).toInt ≤ 500 := by rw [fI136 0 34 (by decide)]; exact (by show 0 ≤ (I93 0 34).toInt ∧ (I93 0 34).toInt ≤ 500; rw [eI93, z_up_n (by decide)]; exact hmp.2.2.1)
        have k142 : 0 ≤ (I136 0 35).toInt ∧ (I136 0 35).toInt ≤ 500 := by rw [fI136 0 35 (by decide)]; exact (by show 0 ≤ (I93 0 35).toInt ∧ (I93 0 35).toInt ≤ 500; rw [eI93, z_up_n (by decide)]; exact hmp.2.2.2)
        have k143 : 0 ≤ (I136 0 36).toInt ∧ (I136 0 36).toInt ≤ 4 := by rw [fI136 0 36 (by decide)]; exact (by show 0 ≤ (I93 0 36).toInt ∧ (I93 0 36).toInt ≤ 4; rw [eI93, z_up_n (by decide)]; exact hmt.1)
        have k144 : 0 ≤ (I136 0 42).toInt ∧ (I136 0 42).toInt ≤ 1 := by rw [fI136 0 42 (by decide)]; exact (by show 0 ≤ (I93 0 42).toInt ∧ (I93 0 42).toInt ≤ 1; rw [eI93, z_up_n (by decide)]; exact hmt.2)
        have k145 : 0 ≤ (I136 0 15).toInt ∧ (I136 0 15).toInt ≤ 6100 := by rw [fI136 0 15 (by decide)]; exact (by show 0 ≤ (I93 0 15).toInt ∧ (I93 0 15).toInt ≤ 6100; rw [eI93, z_up_n (by decide)]; exact hmn)
        have k146 : 0 ≤ (I136 0 35).toInt ∧ (I136 0 35).toInt ≤ (I136 0 34).toInt ∧ (I136 0 34).toInt ≤ (I136 0 33).toInt ∧ (I136 0 33).toInt ≤ 500 ∧ ((I136 0 36).toInt = 0 ∨ (I136 0 35).toInt + 1 ≤ (I136 0 34).toInt) := (by have q0 : (I136 0 35) = (I 0 35) := by rw [fI136 0 35 (by decide), eI93, z_up_n (by decide)]; have q1 : (I136 0 34) = (I 0 34) := by rw [fI136 0 34 (by decide), eI93, z_up_n (by decide)]; have q2 : (I136 0 33) = (I 0 33) := by rw [fI136 0 33 (by decide), eI93, z_up_n (by decide)]; have q3 : (I136 0 36) = (I 0 36) := by rw [fI136 0 36 (by decide), eI93, z_up_n (by decide)]; show 0 ≤ (I136 0 35).toInt ∧ (I136 0 35).toInt ≤ (I136 0 34).toInt ∧ (I136 0 34).toInt ≤ (I136 0 33).toInt ∧ (I136 0 33).toInt ≤ 500 ∧ ((I136 0 36).toInt = 0 ∨ (I136 0 35).toInt + 1 ≤ (I136 0 34).toInt); rw [q0, q1, q2, q3]; first | omega | decide)
        have k147 : (I136 0 35).toInt = (I 0 35).toInt := by rw [fI136 0 35 (by decide), eI93, z_up_n (by decide)]
        have k148 : (I136 0 34).toInt = (I 0 34).toInt := by rw [fI136 0 34 (by decide), eI93, z_up_n (by decide)]
        have k149 : (I136 0 36).toInt = (I 0 36).toInt := by rw [fI136 0 36 (by decide), eI93, z_up_n (by decide)]
        have k150 : (I136 0 42).toInt = (I 0 42).toInt := by rw [fI136 0 42 (by decide), eI93, z_up_n (by decide)]
        have k151 : (I136 0 39).toInt = (I 0 39).toInt := by rw [fI136 0 39 (by decide), eI93, z_up_n (by decide)]
        have k152 : (I136 0 15).toInt = (I 0 15).toInt := by rw [fI136 0 15 (by decide), eI93, z_up_n (by decide)]
        have h153 := hp
        rw [show (I93 0 47) = (I 0 47) from by rw [eI93, z_up_n (by decide)]] at h153
        exact z_vret hx hb hr hK hS (Nat.le_of_ble_eq_true rfl) (Nat.le_of_ble_eq_true rfl) hlocks dX12_chain_127 (shM, ad, I136, J138, PM ad) hW ⟨I136, J138, rfl, ⟨(by show 0 ≤ (I136 0 31).toInt ∧ (I136 0 31).toInt ≤ 500; exact k139), (by show 0 ≤ (I136 0 33).toInt ∧ (I136 0 33).toInt ≤ 500; exact k140), (by show 0 ≤ (I136 0 34).toInt ∧ (I136 0 34).toInt ≤ 500; exact k141), (by show 0 ≤ (I136 0 35).toInt ∧ (I136 0 35).toInt ≤ 500; exact k142)⟩, ⟨(by show 0 ≤ (I136 0 36).toInt ∧ (I136 0 36).toInt ≤ 4; exact k143), (by show 0 ≤ (I136 0 42).toInt ∧ (I136 0 42).toInt ≤ 1; exact k144)⟩, ⟨(by show 0 ≤ (I136 0 47).toInt ∧ (I136 0 47).toInt ≤ 119; exact hI136md.1), (by show 0 ≤ (I136 0 39).toInt ∧ (I136 0 39).toInt ≤ 100; exact hI136md.2)⟩, (by show 0 ≤ (I136 0 40).toInt ∧ (I136 0 40).toInt ≤ 6199; exact hI136mg), (by show 0 ≤ (I136 0 15).toInt ∧ (I136 0 15).toInt ≤ 6100; exact k145), (z_Nd_fr a95 fI136 (by decide)), (by show 0 ≤ (I136 0 35).toInt ∧ (I136 0 35).toInt ≤ (I136 0 34).toInt ∧ (I136 0 34).toInt ≤ (I136 0 33).toInt ∧ (I136 0 33).toInt ≤ 500 ∧ ((I136 0 36).toInt = 0 ∨ (I136 0 35).toInt + 1 ≤ (I136 0 34).toInt); first | omega | decide), f137, ((Classical.em ((I136 0 42).toInt = 0)).elim (fun hw9 => Or.inr ⟨a1.toNatClampNeg, by have w1 := z_fw_3nm (a := va.toInt) (o := vo.toInt) (by omega) (by omega); have w2 := z_fo_3n (a := va.toInt); exact z_POP (d := a1.toNatClampNeg) hPS (fun i hi => ⟨by rw [fI136 26 i (z_wr_c (by decide)), eI93, z_up_n (by decide)], by rw [fI136 27 i (z_wr_c (by decide)), eI93, z_up_n (by decide)], by rw [fI136 28 i (z_wr_c (by decide)), eI93, z_up_k (by omega)], by rw [fI136 29 i (z_wr_c (by decide)), eI93, z_up_n (by decide)]⟩) (by omega) (by omega) (by omega) (by omega) (by omega) (by omega)⟩) Or.inl)⟩
  · have g154 := z_f_eq rfl z_l0 c1
    refine lv_aload_n hx hb dX12_chain_9 rfl (lv_at hl 0 rfl) ?_
    refine z_get (T := TX12) (N := 96) (ci := 12) (i := 0) (v := .ref (ad 27)) hx hb hts zj_X12_chain_X12 hown hK hW rfl rfl 44 (by decide) (hts (.fieldLink RX12 94 "PetrolBoardModel" "at" "[I") (List.mem_of_getElem? (i := 1) rfl)) (fun _ h => h) rfl dX12_chain_10 ?_
    refine lv_iload_n hx hb dX12_chain_13 rfl (lv_at hl 1 rfl) ?_
    refine lv_iconst (v := 1) hx hb dX12_chain_14 (by decide) ?_
    refine z_iast (i := 27) hx hb hK hW hS rfl (z_ix rfl (by omega) (by omega)) dX12_chain_15 (fun H locs hz1 hW hS => ?_)
    obtain ⟨I155, eI155⟩ : ∃ K : z_I, K = z_up I 27 a1.toNatClampNeg 1 := ⟨_, rfl⟩
    rw [← eI155] at hW
    have f156 := z_fr_a z_fr_0 (show z_wa L_X12_chain_1 27 = true by decide) eI155
    have a157 := z_Nd_n hNd (by decide) eI155
    refine lv_aload_n hx hb dX12_chain_16 rfl (lv_at hl 0 rfl) ?_
    refine lv_iload_n hx hb dX12_chain_17 rfl (lv_at hl 2 rfl) ?_
    refine lv_if_eq (tgt := 25) hx hb dX12_chain_18 (by decide) (fun c158 => absurd c158 (by decide)) (fun c158 => ?_)
    refine lv_iconst (v := 4) hx hb dX12_chain_21 (by decide) ?_
    refine lv_goto (tgt := 26) hx hb dX12_chain_22 (by decide) ?_
    refine z_cv hW hS hA (va_runV (As := [.int 4]) (rest := []) ⟨hx, hb, hml, hown, hts⟩ (sx_X12_begin l G ad I155 J ⟨(by show 0 ≤ (I155 0 47).toInt ∧ (I155 0 47).toInt ≤ 119; rw [eI155, z_up_n (by decide)]; exact hmd.1), (by show 0 ≤ (I155 0 39).toInt ∧ (I155 0 39).toInt ≤ 100; rw [eI155, z_up_n (by decide)]; exact hmd.2)⟩ 4 (by have q0 : (I155 0 47) = (I 0 47) := by rw [eI155, z_up_n (by decide)]; show (I155 0 47).toInt ≤ 118; rw [q0]; omega) _) (cwV 1 hts gX12_chain_X12_begin rfl rfl rfl (by decide +kernel) ⟨Nat.le_of_ble_eq_true rfl, Nat.le_of_ble_eq_true rfl⟩) (z_preV (i := 0) hK hW rfl rfl) rfl rfl hl.1 rfl (lv_room (Nat.le_of_ble_eq_true rfl)) dX12_chain_26 ⟨Nat.le_of_ble_eq_true rfl, Nat.le_of_ble_eq_true rfl⟩) (fun u1 H locs hp hW hS => ?_)
    obtain ⟨I159, J161, e9, hI159md, fI159, hp⟩ := hp
    rw [e9] at hW
    have f160 := z_fr_sub (L := L_X12_chain_1) f156 fI159 (by decide)
    have k162 : 0 ≤ (I159 0 31).toInt ∧ (I159 0 31).toInt ≤ 500 := by rw [fI159 0 31 (by decide)]; exact (by show 0 ≤ (I155 0 31).toInt ∧ (I155 0 31).toInt ≤ 500; rw [eI155, z_up_n (by decide)]; exact hmp.1)
    have k163 : 0 ≤ (I159 0 33).toInt ∧ (I159 0 33).toInt ≤ 500 := by rw [fI159 0 33 (by decide)]; exact (by show 0 ≤ (I155 0 33).toInt ∧ (I155 0 33).toInt ≤ 500; rw [eI155, z_up_n (by decide)]; exact hmp.2.1)
    have k164 : 0 ≤ (I159 0 34).toInt ∧ (I159 0 34).toInt ≤ 500 := by rw [fI159 0 34 (by decide)]; exact (by show 0 ≤ (I155 0 34).toInt ∧ (I155 0 34).toInt ≤ 500; rw [eI155, z_up_n (by decide)]; exact hmp.2.2.1)
    have k165 : 0 ≤ (I159 0 35).toInt ∧ (I159 0 35).toInt ≤ 500 := by rw [fI159 0 35 (by decide)]; exact (by show 0 ≤ (I155 0 35).toInt ∧ (I155 0 35).toInt ≤ 500; rw [eI155, z_up_n (by decide)]; exact hmp.2.2.2)
    have k166 : 0 ≤ (I159 0 36).toInt ∧ (I159 0 36).toInt ≤ 4 := by rw [fI159 0 36 (by decide)]; exact (by show 0 ≤ (I155 0 36).toInt ∧ (I155 0 36).toInt ≤ 4; rw [eI155, z_up_n (by decide)]; exact hmt.1)
    have k167 : 0 ≤ (I159 0 42).toInt ∧ (I159 0 42).toInt ≤ 1 := by rw [fI159 0 42 (by decide)]; exact (by show 0 ≤ (I155 0 42).toInt ∧ (I155 0 42).toInt ≤ 1; rw [eI155, z_up_n (by decide)]; exact hmt.2)
    have k168 : 0 ≤ (I159 0 40).toInt ∧ (I159 0 40).toInt ≤ 6199 := by rw [fI159 0 40 (by decide)]; exact (by show 0 ≤ (I155 0 40).toInt ∧ (I155 0 40).toInt ≤ 6199; rw [eI155, z_up_n (by decide)]; exact hmg)
    have k169 : 0 ≤ (I159 0 15).toInt ∧ (I159 0 15).toInt ≤ 6100 := by rw [fI159 0 15 (by decide)]; exact (by show 0 ≤ (I155 0 15).toInt ∧ (I155 0 15).toInt ≤ 6100; rw [eI155, z_up_n (by decide)]; exact hmn)
    have k170 : 0 ≤ (I159 0 35).toInt ∧ (I159 0 35).toInt ≤ (I159 0 34).toInt ∧ (I159 0 34).toInt ≤ (I159 0 33).toInt ∧ (I159 0 33).toInt ≤ 500 ∧ ((I159 0 36).toInt = 0 ∨ (I159 0 35).toInt + 1 ≤ (I159 0 34).toInt) := (by have q0 : (I159 0 35) = (I 0 35) := by rw [fI159 0 35 (by decide), eI155, z_up_n (by decide)]; have q1 : (I159 0 34) = (I 0 34) := by rw [fI159 0 34 (by decide), eI155, z_up_n (by decide)]; have q2 : (I159 0 33) = (I 0 33) := by rw [fI159 0 33 (by decide), eI155, z_up_n (by decide)]; have q3 : (I159 0 36) = (I 0 36) := by rw [fI159 0 36 (by decide), eI155, z_up_n (by decide)]; show 0 ≤ (I159 0 35).toInt ∧ (I159 0 35).toInt ≤ (I159 0 34).toInt ∧ (I159 0 34).toInt ≤ (I159 0 33).toInt ∧ (I159 0 33).toInt ≤ 500 ∧ ((I159 0 36).toInt = 0 ∨ (I159 0 35).toInt + 1 ≤ (I159 0 34).toInt); rw [q0, q1, q2, q3]; first | omega | decide)
    have k171 : (I159 0 35).toInt = (I 0 35).toInt := by rw [fI159 0 35 (by decide), eI155, z_up_n (by decide)]
    have k172 : (I159 0 34).toInt = (I 0 34).toInt := by rw [fI159 0 34 (by decide), eI155, z_up_n (by decide)]
    have k173 : (I159 0 36).toInt = (I 0 36).toInt := by rw [fI159 0 36 (by decide), eI155, z_up_n (by decide)]
    have k174 : (I159 0 42).toInt = (I 0 42).toInt := by rw [fI159 0 42 (by decide), eI155, z_up_n (by decide)]
    have k175 : (I159 0 39).toInt = (I 0 39).toInt := by rw [fI159 0 39 (by decide), eI155, z_up_n (by decide)]
    have k176 : (I159 0 15).toInt = (I 0 15).toInt := by rw [fI159 0 15 (by decide), eI155, z_up_n (by decide)]
    have k177 : (I159 0 40).toInt = (I 0 40).toInt := by rw [fI159 0 40 (by decide), eI155, z_up_n (by decide)]
    have h178 := hp
    exact z_vret hx hb hr hK hS (Nat.le_of_ble_eq_true rfl) (Nat.le_of_ble_eq_true rfl) hlocks dX12_chain_29 (shM, ad, I159, J161, PM ad) hW ⟨I159, J161, rfl, ⟨(by show 0 ≤ (I159 0 31).toInt ∧ (I159 0 31).toInt ≤ 500; exact k162), (by show 0 ≤ (I159 0 33).toInt ∧ (I159 0 33).toInt ≤ 500; exact k163), (by show 0 ≤ (I159 0 34).toInt ∧ (I159 0 34).toInt ≤ 500; exact k164), (by show 0 ≤ (I159 0 35).toInt ∧ (I159 0 35).toInt ≤ 500; exact k165)⟩, ⟨(by show 0 ≤ (I159 0 36).toInt ∧ (I159 0 36).toInt ≤ 4; exact k166), (by show 0 ≤ (I159 0 42).toInt ∧ (I159 0 42).toInt ≤ 1; exact k167)⟩, ⟨(by show 0 ≤ (I159 0 47).toInt ∧ (I159 0 47).toInt ≤ 119; exact hI159md.1), (by show 0 ≤ (I159 0 39).toInt ∧ (I159 0 39).toInt ≤ 100; exact hI159md.2)⟩, (by show 0 ≤ (I159 0 40).toInt ∧ (I159 0 40).toInt ≤ 6199; exact k168), (by show 0 ≤ (I159 0 15).toInt ∧ (I159 0 15).toInt ≤ 6100; exact k169), (z_Nd_fr a157 fI159 (by decide)), (by show 0 ≤ (I159 0 35).toInt ∧ (I159 0 35).toInt ≤ (I159 0 34).toInt ∧ (I159 0 34).toInt ≤ (I159 0 33).toInt ∧ (I159 0 33).toInt ≤ 500 ∧ ((I159 0 36).toInt = 0 ∨ (I159 0 35).toInt + 1 ≤ (I159 0 34).toInt); first | omega | decide), f160, ((Classical.em ((I159 0 42).toInt = 0)).elim (fun hw9 => Or.inr ⟨a1.toNatClampNeg + 2, by have w1 := z_fw_30 (a := va.toInt) (o := vo.toInt) (by omega); have w2 := z_fo_3n (a := va.toInt); have w3 := z_fw_3nm (a := 1) (o := vo.toInt) (by omega) (by omega); have w4 := z_fo_3n (a := 1); have w5 := z_fw_40 (a := 0) (o := -1) (by omega); have w6 := z_rk_3; have w7 := z_rk_4; exact z_PUSH (d := a1.toNatClampNeg) (w := 3) (a := 1) (o := vo.toInt) (s := vs.toInt) (wi := 4) hPS (fun i hi => ⟨by rw [eI155, z_up_n (by decide)], by rw [eI155, z_up_k (by omega)], by rw [eI155, z_up_n (by decide)], by rw [eI155, z_up_n (by decide)]⟩) (by rw [show I155 26 a1.toNatClampNeg = vw from (by rw [eI155, z_up_n (by decide)]; exact evw.symm)]; exact hvw) (by rw [show I155 27 a1.toNatClampNeg = 1 from (by rw [eI155, z_up_s])]; exact z_l1) (by rw [show I155 28 a1.toNatClampNeg = vo from (by rw [eI155, z_up_n (by decide)]; exact evo.symm)]; exact rfl) (by rw [show I155 29 a1.toNatClampNeg = vs from (by rw [eI155, z_up_n (by decide)]; exact evs.symm)]; exact rfl) (by unfold z_fv; omega) hwd (by rw [eI155, z_up_n (by decide)]; omega) h178 z_l4 (by omega) (by omega) (by omega) (by omega) (by omega) (by omega) (by omega) (by omega)⟩) Or.inl)⟩
def L_X12_chain_0 : z_L := [(0, 35), (0, 36), (0, 37), (0, 38), (0, 34), (0, 42), (0, 32), (0, 39), (21, 999), (22, 999), (23, 999), (0, 15), (26, 999), (27, 999), (28, 999), (29, 999), (0, 47), (0, 40)]
set_option maxHeartbeats 8000000 in
set_option maxRecDepth 100000 in
theorem sx_X12_chain_0 (l : Launch) (G : z_G) (ad : Nat → Nat) (I : z_I) (J : z_J) (hmp : z_imp I) (hmt : z_imt I) (hmd : z_imd I) (hmg : z_img I) (hmn : z_imn I) (hNd : z_Nd I) (hrp : z_irp I) (B : Int) (a1 : Int32) (q1 : 0 ≤ a1.toInt ∧ a1.toInt ≤ 33) (hwd : (I 26 a1.toNatClampNeg).toInt = 4) (hPS : z_PS I (a1.toNatClampNeg + 1) B) : z_Mv l yX12_chain wsX12_chain { frames := 3, cells := 0, slots := 0, locals := 55 } [.ref (ad 0), .int a1, .int 0] G (shM, ad, I, J, PM ad) (fun u1 => ∃ (I1 : z_I) (J1 : z_J), u1 = (shM, ad, I1, J1, PM ad) ∧ z_imp I1 ∧ z_imt I1 ∧ z_imd I1 ∧ z_img I1 ∧ z_imn I1 ∧ z_Nd I1 ∧ z_irp I1 ∧ z_fr L_X12_chain_0 I1 I ∧ (¬ (I1 0 42).toInt = 0 ∨ ∃ n, z_PS I1 n (B - 1))) 0 0 := by
  intro sz
  refine z_headQ (cc := cX12_chain) (maxL := 3) (ret := none) (by decide) rfl (Nat.le_of_ble_eq_true rfl) ?_
  intro p e s m below meth c0 ls hIn hK hsz hW hl
  obtain ⟨hx, hb, hr, hml, hown, hts, hlocks, hname⟩ := hIn
  subst hsz
  have hown : s.vm.findClass RX12 = some m.cls := hown
  have hA : ∀ q : Nat, s.heap.size ≤ q → z_A (shM, ad, I, J, PM ad) s.heap.size q := fun q h => Or.inr h
  generalize hAe : z_A (shM, ad, I, J, PM ad) s.heap.size = A at *
  have hS : va_S A s.heap s.heap [] := va_S.rf
  have hl : lv_has ls 3 [(0, .ref (ad 0)), (1, .int a1), (2, .int 0)] := hl
  obtain ⟨va, eva⟩ : ∃ y, y = I 27 a1.toNatClampNeg := ⟨_, rfl⟩
  obtain ⟨vo, evo⟩ : ∃ y, y = I 28 a1.toNatClampNeg := ⟨_, rfl⟩
  obtain ⟨vs, evs⟩ : ∃ y, y = I 29 a1.toNatClampNeg := ⟨_, rfl⟩
  have hT := z_top hPS
  unfold z_fv at hT
  rw [hwd, ← eva, ← evo, ← evs] at hT
  obtain ⟨t1, t2, t3, t4, t5, t6, t7, t8, t9, t10, t11, t12, t13, t14, t15, t16, t17, t18, t19, t20, t21⟩ := hT
  have hk9 := z_clt (x := a1) rfl q1.1
  obtain ⟨vw, evw⟩ : ∃ y, y = I 26 a1.toNatClampNeg := ⟨_, rfl⟩
  have hvw : vw.toInt = 4 := by rw [evw]; exact hwd
  have krp : 0 ≤ (I 0 35).toInt ∧ (I 0 35).toInt ≤ (I 0 34).toInt ∧ (I 0 34).toInt ≤ (I 0 33).toInt ∧ (I 0 33).toInt ≤ 500 ∧ ((I 0 36).toInt = 0 ∨ (I 0 35).toInt + 1 ≤ (I 0 34).toInt) := hrp
  refine lv_aload_n hx hb dX12_chain_0 rfl (lv_at hl 0 rfl) ?_
  refine z_get (T := TX12) (N := 96) (ci := 12) (i := 0) (v := .ref (ad 27)) hx hb hts zj_X12_chain_X12 hown hK hW rfl rfl 44 (by decide) (hts (.fieldLink RX12 94 "PetrolBoardModel" "at" "[I") (List.mem_of_getElem? (i := 1) rfl)) (fun _ h => h) rfl dX12_chain_1 ?_
  refine lv_iload_n hx hb dX12_chain_4 rfl (lv_at hl 1 rfl) ?_
  refine z_iald (i := 27) hx hb hK hW rfl (z_ix rfl (by omega) (by omega)) dX12_chain_5 ?_
  refine z_topi (v := va) eva.symm ?_
  refine lv_if_ne (tgt := 30) hx hb dX12_chain_6 (by decide) (fun c1 => ?_) (fun c1 => ?_)
  · have g2 := z_f_ne rfl z_l0 c1
    refine lv_aload_n hx hb dX12_chain_30 rfl (lv_at hl 0 rfl) ?_
    refine z_get (T := TX12) (N := 96) (ci := 12) (i := 0) (v := .ref (ad 28)) hx hb hts zj_X12_chain_X12 hown hK hW rfl rfl 45 (by decide) (hts (.fieldLink RX12 97 "PetrolBoardModel" "one" "[I") (List.mem_of_getElem? (i := 2) rfl)) (fun _ h => h) rfl dX12_chain_31 ?_
    refine lv_iload_n hx hb dX12_chain_34 rfl (lv_at hl 1 rfl) ?_
    refine lv_aload_n hx hb dX12_chain_35 rfl (lv_at hl 0 rfl) ?_
    refine z_get (T := TX12) (N := 96) (ci := 12) (i := 0) (v := .ref (ad 28)) hx hb hts zj_X12_chain_X12 hown hK hW rfl rfl 45 (by decide) (hts (.fieldLink RX12 97 "PetrolBoardModel" "one" "[I") (List.mem_of_getElem? (i := 2) rfl)) (fun _ h => h) rfl dX12_chain_36 ?_
    refine lv_iload_n hx hb dX12_chain_39 rfl (lv_at hl 1 rfl) ?_
    refine z_iald (i := 28) hx hb hK hW rfl (z_ix rfl (by omega) (by omega)) dX12_chain_40 ?_
    refine z_topi (v := vo) evo.symm ?_
    refine lv_if_ge (tgt := 51) hx hb dX12_chain_41 (by decide) (fun c3 => ?_) (fun c3 => ?_)
    · have g4 := z_f_ge rfl z_l0 c3
      refine lv_aload_n hx hb dX12_chain_51 rfl (lv_at hl 0 rfl) ?_
      refine lv_iload_n hx hb dX12_chain_52 rfl (lv_at hl 2 rfl) ?_
      refine lv_if_eq (tgt := 61) hx hb dX12_chain_53 (by decide) (fun c5 => ?_) (fun c5 => absurd (by decide) c5)
      refine lv_bipush (v := 12) hx hb dX12_chain_61 (by decide) ?_
      refine lv_aload_n hx hb dX12_chain_63 rfl (lv_at hl 0 rfl) ?_
      refine z_get (T := TX12) (N := 96) (ci := 12) (i := 0) (v := .ref (ad 28)) hx hb hts zj_X12_chain_X12 hown hK hW rfl rfl 45 (by decide) (hts (.fieldLink RX12 97 "PetrolBoardModel" "one" "[I") (List.mem_of_getElem? (i := 2) rfl)) (fun _ h => h) rfl dX12_chain_64 ?_
      refine lv_iload_n hx hb dX12_chain_67 rfl (lv_at hl 1 rfl) ?_
      refine z_iald (i := 28) hx hb hK hW rfl (z_ix rfl (by omega) (by omega)) dX12_chain_68 ?_
      refine z_topi (v := vo) evo.symm ?_
      refine lv_aload_n hx hb dX12_chain_69 rfl (lv_at hl 0 rfl) ?_
      have r6 : 0 ≤ (I 0 40).toInt ∧ (I 0 40).toInt ≤ 6199 := hmg
      refine z_get (T := TX12) (N := 96) (ci := 12) (i := 0) (v := .int (I 0 40)) hx hb hts zj_X12_chain_X12 hown hK hW rfl rfl 40 (by decide) (hts (.fieldLink RX12 343 "PetrolBoardModel" "got" "I") (List.mem_of_getElem? (i := 3) rfl)) (fun _ h => h) rfl dX12_chain_70 ?_
      refine z_ci hW hS hA (va_runV (As := [.int 12, .int vo, .int (I 0 40)]) (rest := [.int a1, .ref (ad 28)]) ⟨hx, hb, hml, hown, hts⟩ (sx_X12_node l G ad I J (by show 0 ≤ (I 0 15).toInt ∧ (I 0 15).toInt ≤ 6100; exact hmn) hNd 12 vo (I 0 40) (by show (I 0 15).toInt ≤ 6099; omega) (by have := z_l12; first | omega | decide) (by have := z_l12; first | omega | decide) (by have := z_l12; first | omega | decide) _) (cwV 3 hts gX12_chain_X12_node rfl rfl rfl (by decide +kernel) ⟨Nat.le_of_ble_eq_true rfl, Nat.le_of_ble_eq_true rfl⟩) (z_preV (i := 0) hK hW rfl rfl) rfl rfl hl.1 rfl (lv_room (Nat.le_of_ble_eq_true rfl)) dX12_chain_73 ⟨Nat.le_of_ble_eq_true rfl, Nat.le_of_ble_eq_true rfl⟩) (fun r u1 H locs hp hW hS => ?_)
      obtain ⟨I7, J9, e9, hI7mn, hI7Nd, fI7, hp⟩ := hp
      rw [e9] at hW
      have f8 := z_fr_sub (L := L_X12_chain_0) z_fr_0 fI7 (by decide)
      have k10 : 0 ≤ (I7 0 31).toInt ∧ (I7 0 31).toInt ≤ 500 := by rw [fI7 0 31 (by decide)]; exact (by show 0 ≤ (I 0 31).toInt ∧ (I 0 31).toInt ≤ 500; exact hmp.1)
      have k11 : 0 ≤ (I7 0 33).toInt ∧ (I7 0 33).toInt ≤ 500 := by rw [fI7 0 33 (by decide)]; exact (by show 0 ≤ (I 0 33).toInt ∧ (I 0 33).toInt ≤ 500; exact hmp.2.1)
      have k12 : 0 ≤ (I7 0 34).toInt ∧ (I7 0 34).toInt ≤ 500 := by rw [fI7 0 34 (by decide)]; exact (by show 0 ≤ (I 0 34).toInt ∧ (I 0 34).toInt ≤ 500; exact hmp.2.2.1)
      have k13 : 0 ≤ (I7 0 35).toInt ∧ (I7 0 35).toInt ≤ 500 := by rw [fI7 0 35 (by decide)]; exact (by show 0 ≤ (I 0 35).toInt ∧ (I 0 35).toInt ≤ 500; exact hmp.2.2.2)
      have k14 : 0 ≤ (I7 0 36).toInt ∧ (I7 0 36).toInt ≤ 4 := by rw [fI7 0 36 (by decide)]; exact (by show 0 ≤ (I 0 36).toInt ∧ (I 0 36).toInt ≤ 4; exact hmt.1)
      have k15 : 0 ≤ (I7 0 42).toInt ∧ (I7 0 42).toInt ≤ 1 := by rw [fI7 0 42 (by decide)]; exact (by show 0 ≤ (I 0 42).toInt ∧ (I 0 42).toInt ≤ 1; exact hmt.2)
      have k16 : 0 ≤ (I7 0 47).toInt ∧ (I7 0 47).toInt ≤ 119 := by rw [fI7 0 47 (by decide)]; exact (by show 0 ≤ (I 0 47).toInt ∧ (I 0 47).toInt ≤ 119; exact hmd.1)
      have k17 : 0 ≤ (I7 0 39).toInt ∧ (I7 0 39).toInt ≤ 100 := by rw [fI7 0 39 (by decide)]; exact (by show 0 ≤ (I 0 39).toInt ∧ (I 0 39).toInt ≤ 100; exact hmd.2)
      have k18 : 0 ≤ (I7 0 40).toInt ∧ (I7 0 40).toInt ≤ 6199 := by rw [fI7 0 40 (by decide)]; exact (by show 0 ≤ (I 0 40).toInt ∧ (I 0 40).toInt ≤ 6199; exact hmg)
      have k19 : 0 ≤ (I7 0 35).toInt ∧ (I7 0 35).toInt ≤ (I7 0 34).toInt ∧ (I7 0 34).toInt ≤ (I7 0 33).toInt ∧ (I7 0 33).toInt ≤ 500 ∧ ((I7 0 36).toInt = 0 ∨ (I7 0 35).toInt + 1 ≤ (I7 0 34).toInt) := (by have q0 : (I7 0 35) = (I 0 35) := by rw [fI7 0 35 (by decide)]; have q1 : (I7 0 34) = (I 0 34) := by rw [fI7 0 34 (by decide)]; have q2 : (I7 0 33) = (I 0 33) := by rw [fI7 0 33 (by decide)]; have q3 : (I7 0 36) = (I 0 36) := by rw [fI7 0 36 (by decide)]; show 0 ≤ (I7 0 35).toInt ∧ (I7 0 35).toInt ≤ (I7 0 34).toInt ∧ (I7 0 34).toInt ≤ (I7 0 33).toInt ∧ (I7 0 33).toInt ≤ 500 ∧ ((I7 0 36).toInt = 0 ∨ (I7 0 35).toInt + 1 ≤ (I7 0 34).toInt); rw [q0, q1, q2, q3]; first | omega | decide)
      have k20 : (I7 0 35).toInt = (I 0 35).toInt := by rw [fI7 0 35 (by decide)]
      have k21 : (I7 0 34).toInt = (I 0 34).toInt := by rw [fI7 0 34 (by decide)]
      have k22 : (I7 0 36).toInt = (I 0 36).toInt := by rw [fI7 0 36 (by decide)]
      have k23 : (I7 0 42).toInt = (I 0 42).toInt := by rw [fI7 0 42 (by decide)]
      have k24 : (I7 0 47).toInt = (I 0 47).toInt := by rw [fI7 0 47 (by decide)]
      have k25 : (I7 0 39).toInt = (I 0 39).toInt := by rw [fI7 0 39 (by decide)]
      have k26 : (I7 0 40).toInt = (I 0 40).toInt := by rw [fI7 0 40 (by decide)]
      refine lv_topi (fun x27 ex27 => ?_)
      rw [← ex27] at hp
      obtain ⟨h28, h29⟩ := hp
      refine z_iast (i := 28) hx hb hK hW hS rfl (z_ix rfl (by omega) (by omega)) dX12_chain_76 (fun H locs hz1 hW hS => ?_)
      obtain ⟨I30, eI30⟩ : ∃ K : z_I, K = z_up I7 28 a1.toNatClampNeg x27 := ⟨_, rfl⟩
      rw [← eI30] at hW
      have f31 := z_fr_a f8 (show z_wa L_X12_chain_0 28 = true by decide) eI30
      have a32 := z_Nd_n hI7Nd (by decide) eI30
      refine lv_aload_n hx hb dX12_chain_77 rfl (lv_at hl 0 rfl) ?_
      refine lv_iload_n hx hb dX12_chain_78 rfl (lv_at hl 2 rfl) ?_
      refine lv_if_eq (tgt := 88) hx hb dX12_chain_79 (by decide) (fun c33 => ?_) (fun c33 => absurd (by decide) c33)
      refine lv_ldc2 (v := 1111) hx hb hown (hts (.constantLong RX12 392 (1111)) (List.mem_of_getElem? (i := 5) rfl)) dX12_chain_88 ?_
      refine z_ci hW hS hA (va_runV (As := [.long 1111]) (rest := []) ⟨hx, hb, hml, hown, hts⟩ (sx_X12_isWord l G ad I30 J9 ⟨(by show 0 ≤ (I30 0 36).toInt ∧ (I30 0 36).toInt ≤ 4; rw [eI30, z_up_n (by decide)]; exact k14), (by show 0 ≤ (I30 0 42).toInt ∧ (I30 0 42).toInt ≤ 1; rw [eI30, z_up_n (by decide)]; exact k15)⟩ 1111 _) (cwV 1 hts gX12_chain_X12_isWord rfl rfl rfl (by decide +kernel) ⟨Nat.le_of_ble_eq_true rfl, Nat.le_of_ble_eq_true rfl⟩) (z_preV (i := 0) hK hW rfl rfl) rfl rfl hl.1 rfl (lv_room (Nat.le_of_ble_eq_true rfl)) dX12_chain_91 ⟨Nat.le_of_ble_eq_true rfl, Nat.le_of_ble_eq_true rfl⟩) (fun r u1 H locs hp hW hS => ?_)
      obtain ⟨e9, hp⟩ := hp
      rw [e9] at hW
      rcases hp with ⟨rfl, h34⟩ | rfl
      · rw [show (I30 0 36) = (I7 0 36) from by rw [eI30, z_up_n (by decide)]] at h34
        have h35 : (I7 0 35).toInt + 1 ≤ (I7 0 34).toInt := by omega
        refine lv_if_eq (tgt := 117) hx hb dX12_chain_94 (by decide) (fun c36 => absurd c36 (by decide)) (fun c36 => ?_)
        refine lv_aload_n hx hb dX12_chain_97 rfl (lv_at hl 0 rfl) ?_
        refine z_cv hW hS hA (va_runV (As := []) (rest := []) ⟨hx, hb, hml, hown, hts⟩ (sx_X12_next l G ad I30 J9 ⟨(by show 0 ≤ (I30 0 31).toInt ∧ (I30 0 31).toInt ≤ 500; rw [eI30, z_up_n (by decide)]; exact k10), (by show 0 ≤ (I30 0 33).toInt ∧ (I30 0 33).toInt ≤ 500; rw [eI30, z_up_n (by decide)]; exact k11), (by show 0 ≤ (I30 0 34).toInt ∧ (I30 0 34).toInt ≤ 500; rw [eI30, z_up_n (by decide)]; exact k12), (by show 0 ≤ (I30 0 35).toInt ∧ (I30 0 35).toInt ≤ 500; rw [eI30, z_up_n (by decide)]; exact k13)⟩ ⟨(by show 0 ≤ (I30 0 36).toInt ∧ (I30 0 36).toInt ≤ 4; rw [eI30, z_up_n (by decide)]; exact k14), (by show 0 ≤ (I30 0 42).toInt ∧ (I30 0 42).toInt ≤ 1; rw [eI30, z_up_n (by decide)]; exact k15)⟩ (by have q0 : (I30 0 34) = (I7 0 34) := by rw [eI30, z_up_n (by decide)]; have q1 : (I30 0 33) = (I7 0 33) := by rw [eI30, z_up_n (by decide)]; show 0 ≤ (I30 0 34).toInt ∧ (I30 0 34).toInt ≤ (I30 0 33).toInt ∧ (I30 0 33).toInt ≤ 500; rw [q0, q1]; first | omega | decide)  _) (cwV 0 hts gX12_chain_X12_next rfl rfl rfl (by decide +kernel) ⟨Nat.le_of_ble_eq_true rfl, Nat.le_of_ble_eq_true rfl⟩) (z_preV (i := 0) hK hW rfl rfl) rfl rfl hl.1 rfl (lv_room (Nat.le_of_ble_eq_true rfl)) dX12_chain_98 ⟨Nat.le_of_ble_eq_true rfl, Nat.le_of_ble_eq_true rfl⟩) (fun u1 H locs hp hW hS => ?_)
        obtain ⟨I37, J39, e9, hI37mp, hI37mt, hI37rp, fI37, hp⟩ := hp
        rw [e9] at hW
        have f38 := z_fr_sub (L := L_X12_chain_0) f31 fI37 (by decide)
        have k40 : 0 ≤ (I37 0 47).toInt ∧ (I37 0 47).toInt ≤ 119 := by rw [fI37 0 47 (by decide)]; exact (by show 0 ≤ (I30 0 47).toInt ∧ (I30 0 47).toInt ≤ 119; rw [eI30, z_up_n (by decide)]; exact k16)
        have k41 : 0 ≤ (I37 0 39).toInt ∧ (I37 0 39).toInt ≤ 100 := by rw [fI37 0 39 (by decide)]; exact (by show 0 ≤ (I30 0 39).toInt ∧ (I30 0 39).toInt ≤ 100; rw [eI30, z_up_n (by decide)]; exact k17)
        have k42 : 0 ≤ (I37 0 40).toInt ∧ (I37 0 40).toInt ≤ 6199 := by rw [fI37 0 40 (by decide)]; exact (by show 0 ≤ (I30 0 40).toInt ∧ (I30 0 40).toInt ≤ 6199; rw [eI30, z_up_n (by decide)]; exact k18)
        have k43 : 0 ≤ (I37 0 15).toInt ∧ (I37 0 15).toInt ≤ 6100 := by rw [fI37 0 15 (by decide)]; exact (by show 0 ≤ (I30 0 15).toInt ∧ (I30 0 15).toInt ≤ 6100; rw [eI30, z_up_n (by decide)]; exact hI7mn)
        have k44 : 0 ≤ (I37 0 35).toInt ∧ (I37 0 35).toInt ≤ (I37 0 34).toInt ∧ (I37 0 34).toInt ≤ (I37 0 33).toInt ∧ (I37 0 33).toInt ≤ 500 ∧ ((I37 0 36).toInt = 0 ∨ (I37 0 35).toInt + 1 ≤ (I37 0 34).toInt) := hI37rp
        have k45 : (I37 0 42).toInt = (I7 0 42).toInt := by rw [fI37 0 42 (by decide), eI30, z_up_n (by decide)]
        have k46 : (I37 0 47).toInt = (I7 0 47).toInt := by rw [fI37 0 47 (by decide), eI30, z_up_n (by decide)]
        have k47 : (I37 0 39).toInt = (I7 0 39).toInt := by rw [fI37 0 39 (by decide), eI30, z_up_n (by decide)]
        have k48 : (I37 0 15).toInt = (I7 0 15).toInt := by rw [fI37 0 15 (by decide), eI30, z_up_n (by decide)]
        have k49 : (I37 0 40).toInt = (I7 0 40).toInt := by rw [fI37 0 40 (by decide), eI30, z_up_n (by decide)]
        have h50 := hp
        rw [show (I30 0 34) = (I7 0 34) from by rw [eI30, z_up_n (by decide)]] at h50
        refine lv_aload_n hx hb dX12_chain_101 rfl (lv_at hl 0 rfl) ?_
        refine lv_iload_n hx hb dX12_chain_102 rfl (lv_at hl 2 rfl) ?_
        refine lv_if_eq (tgt := 110) hx hb dX12_chain_103 (by decide) (fun c51 => ?_) (fun c51 => absurd (by decide) c51)
        refine lv_iconst (v := 5) hx hb dX12_chain_110 (by decide) ?_
        refine z_cv hW hS hA (va_runV (As := [.int 5]) (rest := []) ⟨hx, hb, hml, hown, hts⟩ (sx_X12_begin l G ad I37 J39 ⟨(by show 0 ≤ (I37 0 47).toInt ∧ (I37 0 47).toInt ≤ 119; exact k40), (by show 0 ≤ (I37 0 39).toInt ∧ (I37 0 39).toInt ≤ 100; exact k41)⟩ 5 (by show (I37 0 47).toInt ≤ 118; omega) _) (cwV 1 hts gX12_chain_X12_begin rfl rfl rfl (by decide +kernel) ⟨Nat.le_of_ble_eq_true rfl, Nat.le_of_ble_eq_true rfl⟩) (z_preV (i := 0) hK hW rfl rfl) rfl rfl hl.1 rfl (lv_room (Nat.le_of_ble_eq_true rfl)) dX12_chain_111 ⟨Nat.le_of_ble_eq_true rfl, Nat.le_of_ble_eq_true rfl⟩) (fun u1 H locs hp hW hS => ?_)
        obtain ⟨I52, J54, e9, hI52md, fI52, hp⟩ := hp
        rw [e9] at hW
        have f53 := z_fr_sub (L := L_X12_chain_0) f38 fI52 (by decide)
        have k55 : 0 ≤ (I52 0 31).toInt ∧ (I52 0 31).toInt ≤ 500 := by rw [fI52 0 31 (by decide)]; exact (by show 0 ≤ (I37 0 31).toInt ∧ (I37 0 31).toInt ≤ 500; exact hI37mp.1)
        have k56 : 0 ≤ (I52 0 33).toInt ∧ (I52 0 33).toInt ≤ 500 := by rw [fI52 0 33 (by decide)]; exact (by show 0 ≤ (I37 0 33).toInt ∧ (I37 0 33).toInt ≤ 500; exact hI37mp.2.1)
        have k57 : 0 ≤ (I52 0 34).toInt ∧ (I52 0 34).toInt ≤ 500 := by rw [fI52 0 34 (by decide)]; exact (by show 0 ≤ (I37 0 34).toInt ∧ (I37 0 34).toInt ≤ 500; exact hI37mp.2.2.1)
        have k58 : 0 ≤ (I52 0 35).toInt ∧ (I52 0 35).toInt ≤ 500 := by rw [fI52 0 35 (by decide)]; exact (by show 0 ≤ (I37 0 35).toInt ∧ (I37 0 35).toInt ≤ 500; exact hI37mp.2.2.2)
        have k59 : 0 ≤ (I52 0 36).toInt ∧ (I52 0 36).toInt ≤ 4 := by rw [fI52 0 36 (by decide)]; exact (by show 0 ≤ (I37 0 36).toInt ∧ (I37 0 36).toInt ≤ 4; exact hI37mt.1)
        have k60 : 0 ≤ (I52 0 42).toInt ∧ (I52 0 42).toInt ≤ 1 := by rw [fI52 0 42 (by decide)]; exact (by show 0 ≤ (I37 0 42).toInt ∧ (I37 0 42).toInt ≤ 1; exact hI37mt.2)
        have k61 : 0 ≤ (I52 0 40).toInt ∧ (I52 0 40).toInt ≤ 6199 := by rw [fI52 0 40 (by decide)]; exact (by show 0 ≤ (I37 0 40).toInt ∧ (I37 0 40).toInt ≤ 6199; exact k42)
        have k62 : 0 ≤ (I52 0 15).toInt ∧ (I52 0 15).toInt ≤ 6100 := by rw [fI52 0 15 (by decide)]; exact (by show 0 ≤ (I37 0 15).toInt ∧ (I37 0 15).toInt ≤ 6100; exact k43)
        have k63 : 0 ≤ (I52 0 35).toInt ∧ (I52 0 35).toInt ≤ (I52 0 34).toInt ∧ (I52 0 34).toInt ≤ (I52 0 33).toInt ∧ (I52 0 33).toInt ≤ 500 ∧ ((I52 0 36).toInt = 0 ∨ (I52 0 35).toInt + 1 ≤ (I52 0 34).toInt) := (by have q0 : (I52 0 35) = (I37 0 35) := by rw [fI52 0 35 (by decide)]; have q1 : (I52 0 34) = (I37 0 34) := by rw [fI52 0 34 (by decide)]; have q2 : (I52 0 33) = (I37 0 33) := by rw [fI52 0 33 (by decide)]; have q3 : (I52 0 36) = (I37 0 36) := by rw [fI52 0 36 (by decide)]; show 0 ≤ (I52 0 35).toInt ∧ (I52 0 35).toInt ≤ (I52 0 34).toInt ∧ (I52 0 34).toInt ≤ (I52 0 33).toInt ∧ (I52 0 33).toInt ≤ 500 ∧ ((I52 0 36).toInt = 0 ∨ (I52 0 35).toInt + 1 ≤ (I52 0 34).toInt); rw [q0, q1, q2, q3]; first | omega | decide)
        have k64 : (I52 0 35).toInt = (I37 0 35).toInt := by rw [fI52 0 35 (by decide)]
        have k65 : (I52 0 34).toInt = (I37 0 34).toInt := by rw [fI52 0 34 (by decide)]
        have k66 : (I52 0 36).toInt = (I37 0 36).toInt := by rw [fI52 0 36 (by decide)]
        have k67 : (I52 0 42).toInt = (I37 0 42).toInt := by rw [fI52 0 42 (by decide)]
        have k68 : (I52 0 39).toInt = (I37 0 39).toInt := by rw [fI52 0 39 (by decide)]
        have k69 : (I52 0 15).toInt = (I37 0 15).toInt := by rw [fI52 0 15 (by decide)]
        have k70 : (I52 0 40).toInt = (I37 0 40).toInt := by rw [fI52 0 40 (by decide)]
        have h71 := hp
        refine lv_goto (tgt := 127) hx hb dX12_chain_114 (by decide) ?_
        exact z_vret hx hb hr hK hS (Nat.le_of_ble_eq_true rfl) (Nat.le_of_ble_eq_true rfl) hlocks dX12_chain_127 (shM, ad, I52, J54, PM ad) hW ⟨I52, J54, rfl, ⟨(by show 0 ≤ (I52 0 31).toInt ∧ (I52 0 31).toInt ≤ 500; exact k55), (by show 0 ≤ (I52 0 33).toInt ∧ (I52 0 33).toInt ≤ 500; exact k56), (by show 0 ≤ (I52 0 34).toInt ∧ (I52 0 34).toInt ≤ 500; exact k57), (by show 0 ≤ (I52 0 35).toInt ∧ (I52 0 35).toInt ≤ 500; exact k58)⟩, ⟨(by show 0 ≤ (I52 0 36).toInt ∧ (I52 0 36).toInt ≤ 4; exact k59), (by show 0 ≤ (I52 0 42).toInt ∧ (I52 0 42).toInt ≤ 1; exact k60)⟩, ⟨(by show 0 ≤ (I52 0 47).toInt ∧ (I52 0 47).toInt ≤ 119; exact hI52md.1), (by show 0 ≤ (I52 0 39).toInt ∧ (I52 0 39).toInt ≤ 100; exact hI52md.2)⟩, (by show 0 ≤ (I52 0 40).toInt ∧ (I52 0 40).toInt ≤ 6199; exact k61), (by show 0 ≤ (I52 0 15).toInt ∧ (I52 0 15).toInt ≤ 6100; exact k62), (z_Nd_fr (z_Nd_fr a32 fI37 (by decide)) fI52 (by decide)), (by show 0 ≤ (I52 0 35).toInt ∧ (I52 0 35).toInt ≤ (I52 0 34).toInt ∧ (I52 0 34).toInt ≤ (I52 0 33).toInt ∧ (I52 0 33).toInt ≤ 500 ∧ ((I52 0 36).toInt = 0 ∨ (I52 0 35).toInt + 1 ≤ (I52 0 34).toInt); first | omega | decide), f53, ((Classical.em ((I52 0 42).toInt = 0)).elim (fun hw9 => Or.inr ⟨a1.toNatClampNeg + 2, by have w1 := z_fw_4np (a := va.toInt) (o := vo.toInt) (by omega) (by omega); have w2 := z_fo_4n (a := va.toInt); have w3 := z_fw_4np (a := va.toInt) (o := x27.toInt) (by omega) (by omega); have w4 := z_fo_4n (a := va.toInt); have w5 := z_fw_50 (a := 0) (o := -1) (by omega); have w6 := z_rk_4; have w7 := z_rk_5; exact z_PUSH (d := a1.toNatClampNeg) (w := 4) (a := va.toInt) (o := x27.toInt) (s := vs.toInt) (wi := 5) hPS (fun i hi => ⟨by rw [fI37 26 i (z_wr_c (by decide)), eI30, z_up_n (by decide), fI7 26 i (z_wr_c (by decide))], by rw [fI37 27 i (z_wr_c (by decide)), eI30, z_up_n (by decide), fI7 27 i (z_wr_c (by decide))], by rw [fI37 28 i (z_wr_c (by decide)), eI30, z_up_k (by omega), fI7 28 i (z_wr_c (by decide))], by rw [fI37 29 i (z_wr_c (by decide)), eI30, z_up_n (by decide), fI7 29 i (z_wr_c (by decide))]⟩) (by rw [show I37 26 a1.toNatClampNeg = vw from (by rw [fI37 26 a1.toNatClampNeg (z_wr_c (by decide)), eI30, z_up_n (by decide), fI7 26 a1.toNatClampNeg (z_wr_c (by decide))]; exact evw.symm)]; exact hvw) (by rw [show I37 27 a1.toNatClampNeg = va from (by rw [fI37 27 a1.toNatClampNeg (z_wr_c (by decide)), eI30, z_up_n (by decide), fI7 27 a1.toNatClampNeg (z_wr_c (by decide))]; exact eva.symm)]; exact rfl) (by rw [show I37 28 a1.toNatClampNeg = x27 from (by rw [fI37 28 a1.toNatClampNeg (z_wr_c (by decide)), eI30, z_up_s])]; exact rfl) (by rw [show I37 29 a1.toNatClampNeg = vs from (by rw [fI37 29 a1.toNatClampNeg (z_wr_c (by decide)), eI30, z_up_n (by decide), fI7 29 a1.toNatClampNeg (z_wr_c (by decide))]; exact evs.symm)]; exact rfl) (by unfold z_fv; omega) hwd (by omega) h71 z_l5 (by omega) (by omega) (by omega) (by omega) (by omega) (by omega) (by omega) (by omega)⟩) Or.inl)⟩
      · refine lv_if_eq (tgt := 117) hx hb dX12_chain_94 (by decide) (fun c72 => ?_) (fun c72 => absurd (by decide) c72)
        refine lv_aload_n hx hb dX12_chain_117 rfl (lv_at hl 0 rfl) ?_
        refine lv_aload_n hx hb dX12_chain_118 rfl (lv_at hl 0 rfl) ?_
        refine z_get (T := TX12) (N := 96) (ci := 12) (i := 0) (v := .ref (ad 28)) hx hb hts zj_X12_chain_X12 hown hK hW rfl rfl 45 (by decide) (hts (.fieldLink RX12 97 "PetrolBoardModel" "one" "[I") (List.mem_of_getElem? (i := 2) rfl)) (fun _ h => h) rfl dX12_chain_119 ?_
        refine lv_iload_n hx hb dX12_chain_122 rfl (lv_at hl 1 rfl) ?_
        refine z_iald (i := 28) hx hb hK hW rfl (z_ix rfl (by omega) (by omega)) dX12_chain_123 ?_
        refine z_topi (v := x27) (by rw [eI30, z_up_s]) ?_
        refine z_cv hW hS hA (va_runV (As := [.int x27]) (rest := []) ⟨hx, hb, hml, hown, hts⟩ (sx_X12_ends l G ad I30 J9 ⟨(by show 0 ≤ (I30 0 47).toInt ∧ (I30 0 47).toInt ≤ 119; rw [eI30, z_up_n (by decide)]; exact k16), (by show 0 ≤ (I30 0 39).toInt ∧ (I30 0 39).toInt ≤ 100; rw [eI30, z_up_n (by decide)]; exact k17)⟩ (by show 0 ≤ (I30 0 40).toInt ∧ (I30 0 40).toInt ≤ 6199; rw [eI30, z_up_n (by decide)]; exact k18) x27 (by first | omega | decide) (by have q0 : (I30 0 47) = (I7 0 47) := by rw [eI30, z_up_n (by decide)]; show 1 ≤ (I30 0 47).toInt; rw [q0]; omega) _) (cwV 1 hts gX12_chain_X12_ends rfl rfl rfl (by decide +kernel) ⟨Nat.le_of_ble_eq_true rfl, Nat.le_of_ble_eq_true rfl⟩) (z_preV (i := 0) hK hW rfl rfl) rfl rfl hl.1 rfl (lv_room (Nat.le_of_ble_eq_true rfl)) dX12_chain_124 ⟨Nat.le_of_ble_eq_true rfl, Nat.le_of_ble_eq_true rfl⟩) (fun u1 H locs hp hW hS => ?_)
        obtain ⟨I73, J75, e9, hI73md, hI73mg, fI73, hp⟩ := hp
        rw [e9] at hW
        have f74 := z_fr_sub (L := L_X12_chain_0) f31 fI73 (by decide)
        have k76 : 0 ≤ (I73 0 31).toInt ∧ (I73 0 31).toInt ≤ 500 := by rw [fI73 0 31 (by decide)]; exact (by show 0 ≤ (I30 0 31).toInt ∧ (I30 0 31).toInt ≤ 500; rw [eI30, z_up_n (by decide)]; exact k10)
        have k77 : 0 ≤ (I73 0 33).toInt ∧ (I73 0 33).toInt ≤ 500 := by rw [fI73 0 33 (by decide)]; exact (by show 0 ≤ (I30 0 33).toInt ∧ (I30 0 33).toInt ≤ 500; rw [eI30, z_up_n (by decide)]; exact k11)
        have k78 : 0 ≤ (I73 0 34).toInt ∧ (I73 0 34).toInt ≤ 500 := by rw [fI73 0 34 (by decide)]; exact (by show 0 ≤ (I30 0 34).toInt ∧ (I30 0 34).toInt ≤ 500; rw [eI30, z_up_n (by decide)]; exact k12)
        have k79 : 0 ≤ (I73 0 35).toInt ∧ (I73 0 35).toInt ≤ 500 := by rw [fI73 0 35 (by decide)]; exact (by show 0 ≤ (I30 0 35).toInt ∧ (I30 0 35).toInt ≤ 500; rw [eI30, z_up_n (by decide)]; exact k13)
        have k80 : 0 ≤ (I73 0 36).toInt ∧ (I73 0 36).toInt ≤ 4 := by rw [fI73 0 36 (by decide)]; exact (by show 0 ≤ (I30 0 36).toInt ∧ (I30 0 36).toInt ≤ 4; rw [eI30, z_up_n (by decide)]; exact k14)
        have k81 : 0 ≤ (I73 0 42).toInt ∧ (I73 0 42).toInt ≤ 1 := by rw [fI73 0 42 (by decide)]; exact (by show 0 ≤ (I30 0 42).toInt ∧ (I30 0 42).toInt ≤ 1; rw [eI30, z_up_n (by decide)]; exact k15)
        have k82 : 0 ≤ (I73 0 15).toInt ∧ (I73 0 15).toInt ≤ 6100 := by rw [fI73 0 15 (by decide)]; exact (by show 0 ≤ (I30 0 15).toInt ∧ (I30 0 15).toInt ≤ 6100; rw [eI30, z_up_n (by decide)]; exact hI7mn)
        have k83 : 0 ≤ (I73 0 35).toInt ∧ (I73 0 35).toInt ≤ (I73 0 34).toInt ∧ (I73 0 34).toInt ≤ (I73 0 33).toInt ∧ (I73 0 33).toInt ≤ 500 ∧ ((I73 0 36).toInt = 0 ∨ (I73 0 35).toInt + 1 ≤ (I73 0 34).toInt) := (by have q0 : (I73 0 35) = (I7 0 35) := by rw [fI73 0 35 (by decide), eI30, z_up_n (by decide)]; have q1 : (I73 0 34) = (I7 0 34) := by rw [fI73 0 34 (by decide), eI30, z_up_n (by decide)]; have q2 : (I73 0 33) = (I7 0 33) := by rw [fI73 0 33 (by decide), eI30, z_up_n (by decide)]; have q3 : (I73 0 36) = (I7 0 36) := by rw [fI73 0 36 (by decide), eI30, z_up_n (by decide)]; show 0 ≤ (I73 0 35).toInt ∧ (I73 0 35).toInt ≤ (I73 0 34).toInt ∧ (I73 0 34).toInt ≤ (I73 0 33).toInt ∧ (I73 0 33).toInt ≤ 500 ∧ ((I73 0 36).toInt = 0 ∨ (I73 0 35).toInt + 1 ≤ (I73 0 34).toInt); rw [q0, q1, q2, q3]; first | omega | decide)
        have k84 : (I73 0 35).toInt = (I7 0 35).toInt := by rw [fI73 0 35 (by decide), eI30, z_up_n (by decide)]
        have k85 : (I73 0 34).toInt = (I7 0 34).toInt := by rw [fI73 0 34 (by decide), eI30, z_up_n (by decide)]
        have k86 : (I73 0 36).toInt = (I7 0 36).toInt := by rw [fI73 0 36 (by decide), eI30, z_up_n (by decide)]
        have k87 : (I73 0 42).toInt = (I7 0 42).toInt := by rw [fI73 0 42 (by decide), eI30, z_up_n (by decide)]
        have k88 : (I73 0 39).toInt = (I7 0 39).toInt := by rw [fI73 0 39 (by decide), eI30, z_up_n (by decide)]
        have k89 : (I73 0 15).toInt = (I7 0 15).toInt := by rw [fI73 0 15 (by decide), eI30, z_up_n (by decide)]
        have h90 := hp
        rw [show (I30 0 47) = (I7 0 47) from by rw [eI30, z_up_n (by decide)]] at h90
        exact z_vret hx hb hr hK hS (Nat.le_of_ble_eq_true rfl) (Nat.le_of_ble_eq_true rfl) hlocks dX12_chain_127 (shM, ad, I73, J75, PM ad) hW ⟨I73, J75, rfl, ⟨(by show 0 ≤ (I73 0 31).toInt ∧ (I73 0 31).toInt ≤ 500; exact k76), (by show 0 ≤ (I73 0 33).toInt ∧ (I73 0 33).toInt ≤ 500; exact k77), (by show 0 ≤ (I73 0 34).toInt ∧ (I73 0 34).toInt ≤ 500; exact k78), (by show 0 ≤ (I73 0 35).toInt ∧ (I73 0 35).toInt ≤ 500; exact k79)⟩, ⟨(by show 0 ≤ (I73 0 36).toInt ∧ (I73 0 36).toInt ≤ 4; exact k80), (by show 0 ≤ (I73 0 42).toInt ∧ (I73 0 42).toInt ≤ 1; exact k81)⟩, ⟨(by show 0 ≤ (I73 0 47).toInt ∧ (I73 0 47).toInt ≤ 119; exact hI73md.1), (by show 0 ≤ (I73 0 39).toInt ∧ (I73 0 39).toInt ≤ 100; exact hI73md.2)⟩, (by show 0 ≤ (I73 0 40).toInt ∧ (I73 0 40).toInt ≤ 6199; exact hI73mg), (by show 0 ≤ (I73 0 15).toInt ∧ (I73 0 15).toInt ≤ 6100; exact k82), (z_Nd_fr a32 fI73 (by decide)), (by show 0 ≤ (I73 0 35).toInt ∧ (I73 0 35).toInt ≤ (I73 0 34).toInt ∧ (I73 0 34).toInt ≤ (I73 0 33).toInt ∧ (I73 0 33).toInt ≤ 500 ∧ ((I73 0 36).toInt = 0 ∨ (I73 0 35).toInt + 1 ≤ (I73 0 34).toInt); first | omega | decide), f74, ((Classical.em ((I73 0 42).toInt = 0)).elim (fun hw9 => Or.inr ⟨a1.toNatClampNeg, by have w1 := z_fw_4np (a := va.toInt) (o := vo.toInt) (by omega) (by omega); have w2 := z_fo_4n (a := va.toInt); exact z_POP (d := a1.toNatClampNeg) hPS (fun i hi => ⟨by rw [fI73 26 i (z_wr_c (by decide)), eI30, z_up_n (by decide), fI7 26 i (z_wr_c (by decide))], by rw [fI73 27 i (z_wr_c (by decide)), eI30, z_up_n (by decide), fI7 27 i (z_wr_c (by decide))], by rw [fI73 28 i (z_wr_c (by decide)), eI30, z_up_k (by omega), fI7 28 i (z_wr_c (by decide))], by rw [fI73 29 i (z_wr_c (by decide)), eI30, z_up_n (by decide), fI7 29 i (z_wr_c (by decide))]⟩) (by omega) (by omega) (by omega) (by omega) (by omega) (by omega)⟩) Or.inl)⟩
    · have g91 := z_f_nge rfl z_l0 c3
      refine lv_aload_n hx hb dX12_chain_44 rfl (lv_at hl 0 rfl) ?_
      have r92 : 0 ≤ (I 0 40).toInt ∧ (I 0 40).toInt ≤ 6199 := hmg
      refine z_get (T := TX12) (N := 96) (ci := 12) (i := 0) (v := .int (I 0 40)) hx hb hts zj_X12_chain_X12 hown hK hW rfl rfl 40 (by decide) (hts (.fieldLink RX12 343 "PetrolBoardModel" "got" "I") (List.mem_of_getElem? (i := 3) rfl)) (fun _ h => h) rfl dX12_chain_45 ?_
      refine lv_goto (tgt := 76) hx hb dX12_chain_48 (by decide) ?_
      refine z_iast (i := 28) hx hb hK hW hS rfl (z_ix rfl (by omega) (by omega)) dX12_chain_76 (fun H locs hz1 hW hS => ?_)
      obtain ⟨I93, eI93⟩ : ∃ K : z_I, K = z_up I 28 a1.toNatClampNeg (I 0 40) := ⟨_, rfl⟩
      rw [← eI93] at hW
      have f94 := z_fr_a z_fr_0 (show z_wa L_X12_chain_0 28 = true by decide) eI93
      have a95 := z_Nd_n hNd (by decide) eI93
      refine lv_aload_n hx hb dX12_chain_77 rfl (lv_at hl 0 rfl) ?_
      refine lv_iload_n hx hb dX12_chain_78 rfl (lv_at hl 2 rfl) ?_
      refine lv_if_eq (tgt := 88) hx hb dX12_chain_79 (by decide) (fun c96 => ?_) (fun c96 => absurd (by decide) c96)
      refine lv_ldc2 (v := 1111) hx hb hown (hts (.constantLong RX12 392 (1111)) (List.mem_of_getElem? (i := 5) rfl)) dX12_chain_88 ?_
      refine z_ci hW hS hA (va_runV (As := [.long 1111]) (rest := []) ⟨hx, hb, hml, hown, hts⟩ (sx_X12_isWord l G ad I93 J ⟨(by show 0 ≤ (I93 0 36).toInt ∧ (I93 0 36).toInt ≤ 4; rw [eI93, z_up_n (by decide)]; exact hmt.1), (by show 0 ≤ (I93 0 42).toInt ∧ (I93 0 42).toInt ≤ 1; rw [eI93, z_up_n (by decide)]; exact hmt.2)⟩ 1111 _) (cwV 1 hts gX12_chain_X12_isWord rfl rfl rfl (by decide +kernel) ⟨Nat.le_of_ble_eq_true rfl, Nat.le_of_ble_eq_true rfl⟩) (z_preV (i := 0) hK hW rfl rfl) rfl rfl hl.1 rfl (lv_room (Nat.le_of_ble_eq_true rfl)) dX12_chain_91 ⟨Nat.le_of_ble_eq_true rfl, Nat.le_of_ble_eq_true rfl⟩) (fun r u1 H locs hp hW hS => ?_)
      obtain ⟨e9, hp⟩ := hp
      rw [e9] at hW
      rcases hp with ⟨rfl, h97⟩ | rfl
      · rw [show (I93 0 36) = (I 0 36) from by rw [eI93, z_up_n (by decide)]] at h97
        have h98 : (I 0 35).toInt + 1 ≤ (I 0 34).toInt := by omega
        refine lv_if_eq (tgt := 117) hx hb dX12_chain_94 (by decide) (fun c99 => absurd c99 (by decide)) (fun c99 => ?_)
        refine lv_aload_n hx hb dX12_chain_97 rfl (lv_at hl 0 rfl) ?_
        refine z_cv hW hS hA (va_runV (As := []) (rest := []) ⟨hx, hb, hml, hown, hts⟩ (sx_X12_next l G ad I93 J ⟨(by show 0 ≤ (I93 0 31).toInt ∧ (I93 0 31).toInt ≤ 500; rw [eI93, z_up_n (by decide)]; exact hmp.1), (by show 0 ≤ (I93 0 33).toInt ∧ (I93 0 33).toInt ≤ 500; rw [eI93, z_up_n (by decide)]; exact hmp.2.1), (by show 0 ≤ (I93 0 34).toInt ∧ (I93 0 34).toInt ≤ 500; rw [eI93, z_up_n (by decide)]; exact hmp.2.2.1), (by show 0 ≤ (I93 0 35).toInt ∧ (I93 0 35).toInt ≤ 500; rw [eI93, z_up_n (by decide)]; exact hmp.2.2.2)⟩ ⟨(by show 0 ≤ (I93 0 36).toInt ∧ (I93 0 36).toInt ≤ 4; rw [eI93, z_up_n (by decide)]; exact hmt.1), (by show 0 ≤ (I93 0 42).toInt ∧ (I93 0 42).toInt ≤ 1; rw [eI93, z_up_n (by decide)]; exact hmt.2)⟩ (by have q0 : (I93 0 34) = (I 0 34) := by rw [eI93, z_up_n (by decide)]; have q1 : (I93 0 33) = (I 0 33) := by rw [eI93, z_up_n (by decide)]; show 0 ≤ (I93 0 34).toInt ∧ (I93 0 34).toInt ≤ (I93 0 33).toInt ∧ (I93 0 33).toInt ≤ 500; rw [q0, q1]; first | omega | decide)  _) (cwV 0 hts gX12_chain_X12_next rfl rfl rfl (by decide +kernel) ⟨Nat.le_of_ble_eq_true rfl, Nat.le_of_ble_eq_true rfl⟩) (z_preV (i := 0) hK hW rfl rfl) rfl rfl hl.1 rfl (lv_room (Nat.le_of_ble_eq_true rfl)) dX12_chain_98 ⟨Nat.le_of_ble_eq_true rfl, Nat.le_of_ble_eq_true rfl⟩) (fun u1 H locs hp hW hS => ?_)
        obtain ⟨I100, J102, e9, hI100mp, hI100mt, hI100rp, fI100, hp⟩ := hp
        rw [e9] at hW
        have f101 := z_fr_sub (L := L_X12_chain_0) f94 fI100 (by decide)
        have k103 : 0 ≤ (I100 0 47).toInt ∧ (I100 0 47).toInt ≤ 119 := by rw [fI100 0 47 (by decide)]; exact (by show 0 ≤ (I93 0 47).toInt ∧ (I93 0 47).toInt ≤ 119; rw [eI93, z_up_n (by decide)]; exact hmd.1)
        have k104 : 0 ≤ (I100 0 39).toInt ∧ (I100 0 39).toInt ≤ 100 := by rw [fI100 0 39 (by decide)]; exact (by show 0 ≤ (I93 0 39).toInt ∧ (I93 0 39).toInt ≤ 100; rw [eI93, z_up_n (by decide)]; exact hmd.2)
        have k105 : 0 ≤ (I100 0 40).toInt ∧ (I100 0 40).toInt ≤ 6199 := by rw [fI100 0 40 (by decide)]; exact (by show 0 ≤ (I93 0 40).toInt ∧ (I93 0 40).toInt ≤ 6199; rw [eI93, z_up_n (by decide)]; exact hmg)
        have k106 : 0 ≤ (I100 0 15).toInt ∧ (I100 0 15).toInt ≤ 6100 := by rw [fI100 0 15 (by decide)]; exact (by show 0 ≤ (I93 0 15).toInt ∧ (I93 0 15).toInt ≤ 6100; rw [eI93, z_up_n (by decide)]; exact hmn)
        have k107 : 0 ≤ (I100 0 35).toInt ∧ (I100 0 35).toInt ≤ (I100 0 34).toInt ∧ (I100 0 34).toInt ≤ (I100 0 33).toInt ∧ (I100 0 33).toInt ≤ 500 ∧ ((I100 0 36).toInt = 0 ∨ (I100 0 35).toInt + 1 ≤ (I100 0 34).toInt) := hI100rp
        have k108 : (I100 0 42).toInt = (I 0 42).toInt := by rw [fI100 0 42 (by decide), eI93, z_up_n (by decide)]
        have k109 : (I100 0 47).toInt = (I 0 47).toInt := by rw [fI100 0 47 (by decide), eI93, z_up_n (by decide)]
        have k110 : (I100 0 39).toInt = (I 0 39).toInt := by rw [fI100 0 39 (by decide), eI93, z_up_n (by decide)]
        have k111 : (I100 0 15).toInt = (I 0 15).toInt := by rw [fI100 0 15 (by decide), eI93, z_up_n (by decide)]
        have k112 : (I100 0 40).toInt = (I 0 40).toInt := by rw [fI100 0 40 (by decide), eI93, z_up_n (by decide)]
        have h113 := hp
        rw [show (I93 0 34) = (I 0 34) from by rw [eI93, z_up_n (by decide)]] at h113
        refine lv_aload_n hx hb dX12_chain_101 rfl (lv_at hl 0 rfl) ?_
        refine lv_iload_n hx hb dX12_chain_102 rfl (lv_at hl 2 rfl) ?_
        refine lv_if_eq (tgt := 110) hx hb dX12_chain_103 (by decide) (fun c114 => ?_) (fun c114 => absurd (by decide) c114)
        refine lv_iconst (v := 5) hx hb dX12_chain_110 (by decide) ?_
        refine z_cv hW hS hA (va_runV (As := [.int 5]) (rest := []) ⟨hx, hb, hml, hown, hts⟩ (sx_X12_begin l G ad I100 J102 ⟨(by show 0 ≤ (I100 0 47).toInt ∧ (I100 0 47).toInt ≤ 119; exact k103), (by show 0 ≤ (I100 0 39).toInt ∧ (I100 0 39).toInt ≤ 100; exact k104)⟩ 5 (by show (I100 0 47).toInt ≤ 118; omega) _) (cwV 1 hts gX12_chain_X12_begin rfl rfl rfl (by decide +kernel) ⟨Nat.le_of_ble_eq_true rfl, Nat.le_of_ble_eq_true rfl⟩) (z_preV (i := 0) hK hW rfl rfl) rfl rfl hl.1 rfl (lv_room (Nat.le_of_ble_eq_true rfl)) dX12_chain_111 ⟨Nat.le_of_ble_eq_true rfl, Nat.le_of_ble_eq_true rfl⟩) (fun u1 H locs hp hW hS => ?_)
        obtain ⟨I115, J117, e9, hI115md, fI115, hp⟩ := hp
        rw [e9] at hW
        have f116 := z_fr_sub (L := L_X12_chain_0) f101 fI115 (by decide)
        have k118 : 0 ≤ (I115 0 31).toInt ∧ (I115 0 31).toInt ≤ 500 := by rw [fI115 0 31 (by decide)]; exact (by show 0 ≤ (I100 0 31).toInt ∧ (I100 0 31).toInt ≤ 500; exact hI100mp.1)
        have k119 : 0 ≤ (I115 0 33).toInt ∧ (I115 0 33).toInt ≤ 500 := by rw [fI115 0 33 (by decide)]; exact (by show 0 ≤ (I100 0 33).toInt ∧ (I100 0 33).toInt ≤ 500; exact hI100mp.2.1)
        have k120 : 0 ≤ (I115 0 34).toInt ∧ (I115 0 34).toInt ≤ 500 := by rw [fI115 0 34 (by decide)]; exact (by show 0 ≤ (I100 0 34).toInt ∧ (I100 0 34).toInt ≤ 500; exact hI100mp.2.2.1)
        have k121 : 0 ≤ (I115 0 35).toInt ∧ (I115 0 35).toInt ≤ 500 := by rw [fI115 0 35 (by decide)]; exact (by show 0 ≤ (I100 0 35).toInt ∧ (I100 0 35).toInt ≤ 500; exact hI100mp.2.2.2)
        have k122 : 0 ≤ (I115 0 36).toInt ∧ (I115 0 36).toInt ≤ 4 := by rw [fI115 0 36 (by decide)]; exact (by show 0 ≤ (I100 0 36).toInt ∧ (I100 0 36).toInt ≤ 4; exact hI100mt.1)
        have k123 : 0 ≤ (I115 0 42).toInt ∧ (I115 0 42).toInt ≤ 1 := by rw [fI115 0 42 (by decide)]; exact (by show 0 ≤ (I100 0 42).toInt ∧ (I100 0 42).toInt ≤ 1; exact hI100mt.2)
        have k124 : 0 ≤ (I115 0 40).toInt ∧ (I115 0 40).toInt ≤ 6199 := by rw [fI115 0 40 (by decide)]; exact (by show 0 ≤ (I100 0 40).toInt ∧ (I100 0 40).toInt ≤ 6199; exact k105)
        have k125 : 0 ≤ (I115 0 15).toInt ∧ (I115 0 15).toInt ≤ 6100 := by rw [fI115 0 15 (by decide)]; exact (by show 0 ≤ (I100 0 15).toInt ∧ (I100 0 15).toInt ≤ 6100; exact k106)
        have k126 : 0 ≤ (I115 0 35).toInt ∧ (I115 0 35).toInt ≤ (I115 0 34).toInt ∧ (I115 0 34).toInt ≤ (I115 0 33).toInt ∧ (I115 0 33).toInt ≤ 500 ∧ ((I115 0 36).toInt = 0 ∨ (I115 0 35).toInt + 1 ≤ (I115 0 34).toInt) := (by have q0 : (I115 0 35) = (I100 0 35) := by rw [fI115 0 35 (by decide)]; have q1 : (I115 0 34) = (I100 0 34) := by rw [fI115 0 34 (by decide)]; have q2 : (I115 0 33) = (I100 0 33) := by rw [fI115 0 33 (by decide)]; have q3 : (I115 0 36) = (I100 0 36) := by rw [fI115 0 36 (by decide)]; show 0 ≤ (I115 0 35).toInt ∧ (I115 0 35).toInt ≤ (I115 0 34).toInt ∧ (I115 0 34).toInt ≤ (I115 0 33).toInt ∧ (I115 0 33).toInt ≤ 500 ∧ ((I115 0 36).toInt = 0 ∨ (I115 0 35).toInt + 1 ≤ (I115 0 34).toInt); rw [q0, q1, q2, q3]; first | omega | decide)
        have k127 : (I115 0 35).toInt = (I100 0 35).toInt := by rw [fI115 0 35 (by decide)]
        have k128 : (I115 0 34).toInt = (I100 0 34).toInt := by rw [fI115 0 34 (by decide)]
        have k129 : (I115 0 36).toInt = (I100 0 36).toInt := by rw [fI115 0 36 (by decide)]
        have k130 : (I115 0 42).toInt = (I100 0 42).toInt := by rw [fI115 0 42 (by decide)]
        have k131 : (I115 0 39).toInt = (I100 0 39).toInt := by rw [fI115 0 39 (by decide)]
        have k132 : (I115 0 15).toInt = (I100 0 15).toInt := by rw [fI115 0 15 (by decide)]
        have k133 : (I115 0 40).toInt = (I100 0 40).toInt := by rw [fI115 0 40 (by decide)]
        have h134 := hp
        refine lv_goto (tgt := 127) hx hb dX12_chain_114 (by decide) ?_
        exact z_vret hx hb hr hK hS (Nat.le_of_ble_eq_true rfl) (Nat.le_of_ble_eq_true rfl) hlocks dX12_chain_127 (shM, ad, I115, J117, PM ad) hW ⟨I115, J117, rfl, ⟨(by show 0 ≤ (I115 0 31).toInt ∧ (I115 0 31).toInt ≤ 500; exact k118), (by show 0 ≤ (I115 0 33).toInt ∧ (I115 0 33).toInt ≤ 500; exact k119), (by show 0 ≤ (I115 0 34).toInt ∧ (I115 0 34).toInt ≤ 500; exact k120), (by show 0 ≤ (I115 0 35).toInt ∧ (I115 0 35).toInt ≤ 500; exact k121)⟩, ⟨(by show 0 ≤ (I115 0 36).toInt ∧ (I115 0 36).toInt ≤ 4; exact k122), (by show 0 ≤ (I115 0 42).toInt ∧ (I115 0 42).toInt ≤ 1; exact k123)⟩, ⟨(by show 0 ≤ (I115 0 47).toInt ∧ (I115 0 47).toInt ≤ 119; exact hI115md.1), (by show 0 ≤ (I115 0 39).toInt ∧ (I115 0 39).toInt ≤ 100; exact hI115md.2)⟩, (by show 0 ≤ (I115 0 40).toInt ∧ (I115 0 40).toInt ≤ 6199; exact k124), (by show 0 ≤ (I115 0 15).toInt ∧ (I115 0 15).toInt ≤ 6100; exact k125), (z_Nd_fr (z_Nd_fr a95 fI100 (by decide)) fI115 (by decide)), (by show 0 ≤ (I115 0 35).toInt ∧ (I115 0 35).toInt ≤ (I115 0 34).toInt ∧ (I115 0 34).toInt ≤ (I115 0 33).toInt ∧ (I115 0 33).toInt ≤ 500 ∧ ((I115 0 36).toInt = 0 ∨ (I115 0 35).toInt + 1 ≤ (I115 0 34).toInt); first | omega | decide), f116, ((Classical.em ((I115 0 42).toInt = 0)).elim (fun hw9 => Or.inr ⟨a1.toNatClampNeg + 2, by have w1 := z_fw_4nm (a := va.toInt) (o := vo.toInt) (by omega) (by omega); have w2 := z_fo_4n (a := va.toInt); have w3 := z_fw_4np (a := va.toInt) (o := (I 0 40).toInt) (by omega) (by omega); have w4 := z_fo_4n (a := va.toInt); have w5 := z_fw_50 (a := 0) (o := -1) (by omega); have w6 := z_rk_4; have w7 := z_rk_5; exact z_PUSH (d := a1.toNatClampNeg) (w := 4) (a := va.toInt) (o := (I 0 40).toInt) (s := vs.toInt) (wi := 5) hPS (fun i hi => ⟨by rw [fI100 26 i (z_wr_c (by decide)), eI93, z_up_n (by decide)], by rw [fI100 27 i (z_wr_c (by decide)), eI93, z_up_n (by decide)], by rw [fI100 28 i (z_wr_c (by decide)), eI93, z_up_k (by omega)], by rw [fI100 29 i (z_wr_c (by decide)), eI93, z_up_n (by decide)]⟩) (by rw [show I100 26 a1.toNatClampNeg = vw from (by rw [fI100 26 a1.toNatClampNeg (z_wr_c (by decide)), eI93, z_up_n (by decide)]; exact evw.symm)]; exact hvw) (by rw [show I100 27 a1.toNatClampNeg = va from (by rw [fI100 27 a1.toNatClampNeg (z_wr_c (by decide)), eI93, z_up_n (by decide)]; exact eva.symm)]; exact rfl) (by rw [show I100 28 a1.toNatClampNeg = (I 0 40) from (by rw [fI100 28 a1.toNatClampNeg (z_wr_c (by decide)), eI93, z_up_s])]; exact rfl) (by rw [show I100 29 a1.toNatClampNeg = vs from (by rw [fI100 29 a1.toNatClampNeg (z_wr_c (by decide)), eI93, z_up_n (by decide)]; exact evs.symm)]; exact rfl) (by unfold z_fv; omega) hwd (by omega) h134 z_l5 (by omega) (by omega) (by omega) (by omega) (by omega) (by omega) (by omega) (by omega)⟩) Or.inl)⟩
      · refine lv_if_eq (tgt := 117) hx hb dX12_chain_94 (by decide) (fun c135 => ?_) (fun c135 => absurd (by decide) c135)
        refine lv_aload_n hx hb dX12_chain_117 rfl (lv_at hl 0 rfl) ?_
        refine lv_aload_n hx hb dX12_chain_118 rfl (lv_at hl 0 rfl) ?_
        refine z_get (T := TX12) (N := 96) (ci := 12) (i := 0) (v := .ref (ad 28)) hx hb hts zj_X12_chain_X12 hown hK hW rfl rfl 45 (by decide) (hts (.fieldLink RX12 97 "PetrolBoardModel" "one" "[I") (List.mem_of_getElem? (i := 2) rfl)) (fun _ h => h) rfl dX12_chain_119 ?_
        refine lv_iload_n hx hb dX12_chain_122 rfl (lv_at hl 1 rfl) ?_
        refine z_iald (i := 28) hx hb hK hW rfl (z_ix rfl (by omega) (by omega)) dX12_chain_123 ?_
        refine z_topi (v := (I 0 40)) (by rw [eI93, z_up_s]) ?_
        refine z_cv hW hS hA (va_runV (As := [.int (I 0 40)]) (rest := []) ⟨hx, hb, hml, hown, hts⟩ (sx_X12_ends l G ad I93 J ⟨(by show 0 ≤ (I93 0 47).toInt ∧ (I93 0 47).toInt ≤ 119; rw [eI93, z_up_n (by decide)]; exact hmd.1), (by show 0 ≤ (I93 0 39).toInt ∧ (I93 0 39).toInt ≤ 100; rw [eI93, z_up_n (by decide)]; exact hmd.2)⟩ (by show 0 ≤ (I93 0 40).toInt ∧ (I93 0 40).toInt ≤ 6199; rw [eI93, z_up_n (by decide)]; exact hmg) (I 0 40) (by first | omega | decide) (by have q0 : (I93 0 47) = (I 0 47) := by rw [eI93, z_up_n (by decide)]; show 1 ≤ (I93 0 47).toInt; rw [q0]; omega) _) (cwV 1 hts gX12_chain_X12_ends rfl rfl rfl (by decide +kernel) ⟨Nat.le_of_ble_eq_true rfl, Nat.le_of_ble_eq_true rfl⟩) (z_preV (i := 0) hK hW rfl rfl) rfl rfl hl.1 rfl (lv_room (Nat.le_of_ble_eq_true rfl)) dX12_chain_124 ⟨Nat.le_of_ble_eq_true rfl, Nat.le_of_ble_eq_true rfl⟩) (fun u1 H locs hp hW hS => ?_)
        obtain ⟨I136, J138, e9, hI136md, hI136mg, fI136, hp⟩ := hp
        rw [e9] at hW
        have f137 := z_fr_sub (L := L_X12_chain_0) f94 fI136 (by decide)
        have k139 : 0 ≤ (I136 0 31).toInt ∧ (I136 0 31).toInt ≤ 500 := by rw [fI136 0 31 (by decide)]; exact (by show 0 ≤ (I93 0 31).toInt ∧ (I93 0 31).toInt ≤ 500; rw [eI93, z_up_n (by decide)]; exact hmp.1)
        have k140 : 0 ≤ (I136 0 33).toInt ∧ (I136 0 33).toInt ≤ 500 := by rw [fI136 0 33 (by decide)]; exact (by show 0 ≤ (I93 0 33).toInt ∧ (I93 0 33).toInt ≤ 500; rw [eI93, z_up_n (by decide)]; exact hmp.2.1)
        have k141 : 0 ≤ (I136 0 34).toInt ∧ (I136 0 34).toInt ≤ 500 := by rw [fI136 0 34 (by decide)]; exact (by show 0 ≤ (I93 0 34).toInt ∧ (I93 0 34).toInt ≤ 500; rw [eI93, z_up_n (by decide)]; exact hmp.2.2.1)
        have k142 : 0 ≤ (I136 0 35).toInt ∧ (I136 0 35).toInt ≤ 500 := by rw [fI136 0 35 (by decide)]; exact (by show 0 ≤ (I93 0 35).toInt ∧ (I93 0 35).toInt ≤ 500; rw [eI93, z_up_n (by decide)]; exact hmp.2.2.2)
        have k143 : 0 ≤ (I136 0 36).toInt ∧ (I136 0 36).toInt ≤ 4 := by rw [fI136 0 36 (by decide)]; exact (by show 0 ≤ (I93 0 36).toInt ∧ (I93 0 36).toInt ≤ 4; rw [eI93, z_up_n (by decide)]; exact hmt.1)
        have k144 : 0 ≤ (I136 0 42).toInt ∧ (I136 0 42).toInt ≤ 1 := by rw [fI136 0 42 (by decide)]; exact (by show 0 ≤ (I93 0 42).toInt ∧ (I93 0 42).toInt ≤ 1; rw [eI93, z_up_n (by decide)]; exact hmt.2)
        have k145 : 0 ≤ (I136 0 15).toInt ∧ (I136 0 15).toInt ≤ 6100 := by rw [fI136 0 15 (by decide)]; exact (by show 0 ≤ (I93 0 15).toInt ∧ (I93 0 15).toInt ≤ 6100; rw [eI93, z_up_n (by decide)]; exact hmn)
        have k146 : 0 ≤ (I136 0 35).toInt ∧ (I136 0 35).toInt ≤ (I136 0 34).toInt ∧ (I136 0 34).toInt ≤ (I136 0 33).toInt ∧ (I136 0 33).toInt ≤ 500 ∧ ((I136 0 36).toInt = 0 ∨ (I136 0 35).toInt + 1 ≤ (I136 0 34).toInt) := (by have q0 : (I136 0 35) = (I 0 35) := by rw [fI136 0 35 (by decide), eI93, z_up_n (by decide)]; have q1 : (I136 0 34) = (I 0 34) := by rw [fI136 0 34 (by decide), eI93, z_up_n (by decide)]; have q2 : (I136 0 33) = (I 0 33) := by rw [fI136 0 33 (by decide), eI93, z_up_n (by decide)]; have q3 : (I136 0 36) = (I 0 36) := by rw [fI136 0 36 (by decide), eI93, z_up_n (by decide)]; show 0 ≤ (I136 0 35).toInt ∧ (I136 0 35).toInt ≤ (I136 0 34).toInt ∧ (I136 0 34).toInt ≤ (I136 0 33).toInt ∧ (I136 0 33).toInt ≤ 500 ∧ ((I136 0 36).toInt = 0 ∨ (I136 0 35).toInt + 1 ≤ (I136 0 34).toInt); rw [q0, q1, q2, q3]; first | omega | decide)
        have k147 : (I136 0 35).toInt = (I 0 35).toInt := by rw [fI136 0 35 (by decide), eI93, z_up_n (by decide)]
        have k148 : (I136 0 34).toInt = (I 0 34).toInt := by rw [fI136 0 34 (by decide), eI93, z_up_n (by decide)]
        have k149 : (I136 0 36).toInt = (I 0 36).toInt := by rw [fI136 0 36 (by decide), eI93, z_up_n (by decide)]
        have k150 : (I136 0 42).toInt = (I 0 42).toInt := by rw [fI136 0 42 (by decide), eI93, z_up_n (by decide)]
        have k151 : (I136 0 39).toInt = (I 0 39).toInt := by rw [fI136 0 39 (by decide), eI93, z_up_n (by decide)]
        have k152 : (I136 0 15).toInt = (I 0 15).toInt := by rw [fI136 0 15 (by decide), eI93, z_up_n (by decide)]
        have h153 := hp
        rw [show (I93 0 47) = (I 0 47) from by rw [eI93, z_up_n (by decide)]] at h153
        exact z_vret hx hb hr hK hS (Nat.le_of_ble_eq_true rfl) (Nat.le_of_ble_eq_true rfl) hlocks dX12_chain_127 (shM, ad, I136, J138, PM ad) hW ⟨I136, J138, rfl, ⟨(by show 0 ≤ (I136 0 31).toInt ∧ (I136 0 31).toInt ≤ 500; exact k139), (by show 0 ≤ (I136 0 33).toInt ∧ (I136 0 33).toInt ≤ 500; exact k140), (by show 0 ≤ (I136 0 34).toInt ∧ (I136 0 34).toInt ≤ 500; exact k141), (by show 0 ≤ (I136 0 35).toInt ∧ (I136 0 35).toInt ≤ 500; exact k142)⟩, ⟨(by show 0 ≤ (I136 0 36).toInt ∧ (I136 0 36).toInt ≤ 4; exact k143), (by show 0 ≤ (I136 0 42).toInt ∧ (I136 0 42).toInt ≤ 1; exact k144)⟩, ⟨(by show 0 ≤ (I136 0 47).toInt ∧ (I136 0 47).toInt ≤ 119; exact hI136md.1), (by show 0 ≤ (I136 0 39).toInt ∧ (I136 0 39).toInt ≤ 100; exact hI136md.2)⟩, (by show 0 ≤ (I136 0 40).toInt ∧ (I136 0 40).toInt ≤ 6199; exact hI136mg), (by show 0 ≤ (I136 0 15).toInt ∧ (I136 0 15).toInt ≤ 6100; exact k145), (z_Nd_fr a95 fI136 (by decide)), (by show 0 ≤ (I136 0 35).toInt ∧ (I136 0 35).toInt ≤ (I136 0 34).toInt ∧ (I136 0 34).toInt ≤ (I136 0 33).toInt ∧ (I136 0 33).toInt ≤ 500 ∧ ((I136 0 36).toInt = 0 ∨ (I136 0 35).toInt + 1 ≤ (I136 0 34).toInt); first | omega | decide), f137, ((Classical.em ((I136 0 42).toInt = 0)).elim (fun hw9 => Or.inr ⟨a1.toNatClampNeg, by have w1 := z_fw_4nm (a := va.toInt) (o := vo.toInt) (by omega) (by omega); have w2 := z_fo_4n (a := va.toInt); exact z_POP (d := a1.toNatClampNeg) hPS (fun i hi => ⟨by rw [fI136 26 i (z_wr_c (by decide)), eI93, z_up_n (by decide)], by rw [fI136 27 i (z_wr_c (by decide)), eI93, z_up_n (by decide)], by rw [fI136 28 i (z_wr_c (by decide)), eI93, z_up_k (by omega)], by rw [fI136 29 i (z_wr_c (by decide)), eI93, z_up_n (by decide)]⟩) (by omega) (by omega) (by omega) (by omega) (by omega) (by omega)⟩) Or.inl)⟩
  · have g154 := z_f_eq rfl z_l0 c1
    refine lv_aload_n hx hb dX12_chain_9 rfl (lv_at hl 0 rfl) ?_
    refine z_get (T := TX12) (N := 96) (ci := 12) (i := 0) (v := .ref (ad 27)) hx hb hts zj_X12_chain_X12 hown hK hW rfl rfl 44 (by decide) (hts (.fieldLink RX12 94 "PetrolBoardModel" "at" "[I") (List.mem_of_getElem? (i := 1) rfl)) (fun _ h => h) rfl dX12_chain_10 ?_
    refine lv_iload_n hx hb dX12_chain_13 rfl (lv_at hl 1 rfl) ?_
    refine lv_iconst (v := 1) hx hb dX12_chain_14 (by decide) ?_
    refine z_iast (i := 27) hx hb hK hW hS rfl (z_ix rfl (by omega) (by omega)) dX12_chain_15 (fun H locs hz1 hW hS => ?_)
    obtain ⟨I155, eI155⟩ : ∃ K : z_I, K = z_up I 27 a1.toNatClampNeg 1 := ⟨_, rfl⟩
    rw [← eI155] at hW
    have f156 := z_fr_a z_fr_0 (show z_wa L_X12_chain_0 27 = true by decide) eI155
    have a157 := z_Nd_n hNd (by decide) eI155
    refine lv_aload_n hx hb dX12_chain_16 rfl (lv_at hl 0 rfl) ?_
    refine lv_iload_n hx hb dX12_chain_17 rfl (lv_at hl 2 rfl) ?_
    refine lv_if_eq (tgt := 25) hx hb dX12_chain_18 (by decide) (fun c158 => ?_) (fun c158 => absurd (by decide) c158)
    refine lv_iconst (v := 5) hx hb dX12_chain_25 (by decide) ?_
    refine z_cv hW hS hA (va_runV (As := [.int 5]) (rest := []) ⟨hx, hb, hml, hown, hts⟩ (sx_X12_begin l G ad I155 J ⟨(by show 0 ≤ (I155 0 47).toInt ∧ (I155 0 47).toInt ≤ 119; rw [eI155, z_up_n (by decide)]; exact hmd.1), (by show 0 ≤ (I155 0 39).toInt ∧ (I155 0 39).toInt ≤ 100; rw [eI155, z_up_n (by decide)]; exact hmd.2)⟩ 5 (by have q0 : (I155 0 47) = (I 0 47) := by rw [eI155, z_up_n (by decide)]; show (I155 0 47).toInt ≤ 118; rw [q0]; omega) _) (cwV 1 hts gX12_chain_X12_begin rfl rfl rfl (by decide +kernel) ⟨Nat.le_of_ble_eq_true rfl, Nat.le_of_ble_eq_true rfl⟩) (z_preV (i := 0) hK hW rfl rfl) rfl rfl hl.1 rfl (lv_room (Nat.le_of_ble_eq_true rfl)) dX12_chain_26 ⟨Nat.le_of_ble_eq_true rfl, Nat.le_of_ble_eq_true rfl⟩) (fun u1 H locs hp hW hS => ?_)
    obtain ⟨I159, J161, e9, hI159md, fI159, hp⟩ := hp
    rw [e9] at hW
    have f160 := z_fr_sub (L := L_X12_chain_0) f156 fI159 (by decide)
    have k162 : 0 ≤ (I159 0 31).toInt ∧ (I159 0 31).toInt ≤ 500 := by rw [fI159 0 31 (by decide)]; exact (by show 0 ≤ (I155 0 31).toInt ∧ (I155 0 31).toInt ≤ 500; rw [eI155, z_up_n (by decide)]; exact hmp.1)
    have k163 : 0 ≤ (I159 0 33).toInt ∧ (I159 0 33).toInt ≤ 500 := by rw [fI159 0 33 (by decide)]; exact (by show 0 ≤ (I155 0 33).toInt ∧ (I155 0 33).toInt ≤ 500; rw [eI155, z_up_n (by decide)]; exact hmp.2.1)
    have k164 : 0 ≤ (I159 0 34).toInt ∧ (I159 0 34).toInt ≤ 500 := by rw [fI159 0 34 (by decide)]; exact (by show 0 ≤ (I155 0 34).toInt ∧ (I155 0 34).toInt ≤ 500; rw [eI155, z_up_n (by decide)]; exact hmp.2.2.1)
    have k165 : 0 ≤ (I159 0 35).toInt ∧ (I159 0 35).toInt ≤ 500 := by rw [fI159 0 35 (by decide)]; exact (by show 0 ≤ (I155 0 35).toInt ∧ (I155 0 35).toInt ≤ 500; rw [eI155, z_up_n (by decide)]; exact hmp.2.2.2)
    have k166 : 0 ≤ (I159 0 36).toInt ∧ (I159 0 36).toInt ≤ 4 := by rw [fI159 0 36 (by decide)]; exact (by show 0 ≤ (I155 0 36).toInt ∧ (I155 0 36).toInt ≤ 4; rw [eI155, z_up_n (by decide)]; exact hmt.1)
    have k167 : 0 ≤ (I159 0 42).toInt ∧ (I159 0 42).toInt ≤ 1 := by rw [fI159 0 42 (by decide)]; exact (by show 0 ≤ (I155 0 42).toInt ∧ (I155 0 42).toInt ≤ 1; rw [eI155, z_up_n (by decide)]; exact hmt.2)
    have k168 : 0 ≤ (I159 0 40).toInt ∧ (I159 0 40).toInt ≤ 6199 := by rw [fI159 0 40 (by decide)]; exact (by show 0 ≤ (I155 0 40).toInt ∧ (I155 0 40).toInt ≤ 6199; rw [eI155, z_up_n (by decide)]; exact hmg)
    have k169 : 0 ≤ (I159 0 15).toInt ∧ (I159 0 15).toInt ≤ 6100 := by rw [fI159 0 15 (by decide)]; exact (by show 0 ≤ (I155 0 15).toInt ∧ (I155 0 15).toInt ≤ 6100; rw [eI155, z_up_n (by decide)]; exact hmn)
    have k170 : 0 ≤ (I159 0 35).toInt ∧ (I159 0 35).toInt ≤ (I159 0 34).toInt ∧ (I159 0 34).toInt ≤ (I159 0 33).toInt ∧ (I159 0 33).toInt ≤ 500 ∧ ((I159 0 36).toInt = 0 ∨ (I159 0 35).toInt + 1 ≤ (I159 0 34).toInt) := (by have q0 : (I159 0 35) = (I 0 35) := by rw [fI159 0 35 (by decide), eI155, z_up_n (by decide)]; have q1 : (I159 0 34) = (I 0 34) := by rw [fI159 0 34 (by decide), eI155, z_up_n (by decide)]; have q2 : (I159 0 33) = (I 0 33) := by rw [fI159 0 33 (by decide), eI155, z_up_n (by decide)]; have q3 : (I159 0 36) = (I 0 36) := by rw [fI159 0 36 (by decide), eI155, z_up_n (by decide)]; show 0 ≤ (I159 0 35).toInt ∧ (I159 0 35).toInt ≤ (I159 0 34).toInt ∧ (I159 0 34).toInt ≤ (I159 0 33).toInt ∧ (I159 0 33).toInt ≤ 500 ∧ ((I159 0 36).toInt = 0 ∨ (I159 0 35).toInt + 1 ≤ (I159 0 34).toInt); rw [q0, q1, q2, q3]; first | omega | decide)
    have k171 : (I159 0 35).toInt = (I 0 35).toInt := by rw [fI159 0 35 (by decide), eI155, z_up_n (by decide)]
    have k172 : (I159 0 34).toInt = (I 0 34).toInt := by rw [fI159 0 34 (by decide), eI155, z_up_n (by decide)]
    have k173 : (I159 0 36).toInt = (I 0 36).toInt := by rw [fI159 0 36 (by decide), eI155, z_up_n (by decide)]
    have k174 : (I159 0 42).toInt = (I 0 42).toInt := by rw [fI159 0 42 (by decide), eI155, z_up_n (by decide)]
    have k175 : (I159 0 39).toInt = (I 0 39).toInt := by rw [fI159 0 39 (by decide), eI155, z_up_n (by decide)]
    have k176 : (I159 0 15).toInt = (I 0 15).toInt := by rw [fI159 0 15 (by decide), eI155, z_up_n (by decide)]
    have k177 : (I159 0 40).toInt = (I 0 40).toInt := by rw [fI159 0 40 (by decide), eI155, z_up_n (by decide)]
    have h178 := hp
    exact z_vret hx hb hr hK hS (Nat.le_of_ble_eq_true rfl) (Nat.le_of_ble_eq_true rfl) hlocks dX12_chain_29 (shM, ad, I159, J161, PM ad) hW ⟨I159, J161, rfl, ⟨(by show 0 ≤ (I159 0 31).toInt ∧ (I159 0 31).toInt ≤ 500; exact k162), (by show 0 ≤ (I159 0 33).toInt ∧ (I159 0 33).toInt ≤ 500; exact k163), (by show 0 ≤ (I159 0 34).toInt ∧ (I159 0 34).toInt ≤ 500; exact k164), (by show 0 ≤ (I159 0 35).toInt ∧ (I159 0 35).toInt ≤ 500; exact k165)⟩, ⟨(by show 0 ≤ (I159 0 36).toInt ∧ (I159 0 36).toInt ≤ 4; exact k166), (by show 0 ≤ (I159 0 42).toInt ∧ (I159 0 42).toInt ≤ 1; exact k167)⟩, ⟨(by show 0 ≤ (I159 0 47).toInt ∧ (I159 0 47).toInt ≤ 119; exact hI159md.1), (by show 0 ≤ (I159 0 39).toInt ∧ (I159 0 39).toInt ≤ 100; exact hI159md.2)⟩, (by show 0 ≤ (I159 0 40).toInt ∧ (I159 0 40).toInt ≤ 6199; exact k168), (by show 0 ≤ (I159 0 15).toInt ∧ (I159 0 15).toInt ≤ 6100; exact k169), (z_Nd_fr a157 fI159 (by decide)), (by show 0 ≤ (I159 0 35).toInt ∧ (I159 0 35).toInt ≤ (I159 0 34).toInt ∧ (I159 0 34).toInt ≤ (I159 0 33).toInt ∧ (I159 0 33).toInt ≤ 500 ∧ ((I159 0 36).toInt = 0 ∨ (I159 0 35).toInt + 1 ≤ (I159 0 34).toInt); first | omega | decide), f160, ((Classical.em ((I159 0 42).toInt = 0)).elim (fun hw9 => Or.inr ⟨a1.toNatClampNeg + 2, by have w1 := z_fw_40 (a := va.toInt) (o := vo.toInt) (by omega); have w2 := z_fo_4n (a := va.toInt); have w3 := z_fw_4nm (a := 1) (o := vo.toInt) (by omega) (by omega); have w4 := z_fo_4n (a := 1); have w5 := z_fw_50 (a := 0) (o := -1) (by omega); have w6 := z_rk_4; have w7 := z_rk_5; exact z_PUSH (d := a1.toNatClampNeg) (w := 4) (a := 1) (o := vo.toInt) (s := vs.toInt) (wi := 5) hPS (fun i hi => ⟨by rw [eI155, z_up_n (by decide)], by rw [eI155, z_up_k (by omega)], by rw [eI155, z_up_n (by decide)], by rw [eI155, z_up_n (by decide)]⟩) (by rw [show I155 26 a1.toNatClampNeg = vw from (by rw [eI155, z_up_n (by decide)]; exact evw.symm)]; exact hvw) (by rw [show I155 27 a1.toNatClampNeg = 1 from (by rw [eI155, z_up_s])]; exact z_l1) (by rw [show I155 28 a1.toNatClampNeg = vo from (by rw [eI155, z_up_n (by decide)]; exact evo.symm)]; exact rfl) (by rw [show I155 29 a1.toNatClampNeg = vs from (by rw [eI155, z_up_n (by decide)]; exact evs.symm)]; exact rfl) (by unfold z_fv; omega) hwd (by rw [eI155, z_up_n (by decide)]; omega) h178 z_l5 (by omega) (by omega) (by omega) (by omega) (by omega) (by omega) (by omega) (by omega)⟩) Or.inl)⟩
def L_X12_test : z_L := [(0, 35), (0, 36), (0, 37), (0, 38), (0, 34), (0, 42), (0, 32), (0, 39), (21, 999), (22, 999), (23, 999), (0, 15), (26, 999), (27, 999), (28, 999), (29, 999), (0, 47), (0, 40)]
theorem zj_X12_test_X12 : ∀ w ∈ wsX120, w ∈ wsX12_test := fun w h => (List.mem_cons_of_mem _ (List.mem_append_right _ h))
set_option maxHeartbeats 8000000 in
set_option maxRecDepth 100000 in
theorem sx_X12_test (l : Launch) (G : z_G) (ad : Nat → Nat) (I : z_I) (J : z_J) (hmp : z_imp I) (hmt : z_imt I) (hmd : z_imd I) (hmg : z_img I) (hmn : z_imn I) (hNd : z_Nd I) (hrp : z_irp I) (B : Int) (a1 : Int32) (q1 : 0 ≤ a1.toInt ∧ a1.toInt ≤ 33) (hwd : (I 26 a1.toNatClampNeg).toInt = 5) (hPS : z_PS I (a1.toNatClampNeg + 1) B) : z_Mv l yX12_test wsX12_test { frames := 4, cells := 0, slots := 0, locals := 76 } [.ref (ad 0), .int a1] G (shM, ad, I, J, PM ad) (fun u1 => ∃ (I1 : z_I) (J1 : z_J), u1 = (shM, ad, I1, J1, PM ad) ∧ z_imp I1 ∧ z_imt I1 ∧ z_imd I1 ∧ z_img I1 ∧ z_imn I1 ∧ z_Nd I1 ∧ z_irp I1 ∧ z_fr L_X12_test I1 I ∧ (¬ (I1 0 42).toInt = 0 ∨ ∃ n, z_PS I1 n (B - 1))) 0 0 := by
  intro sz
  refine z_headQ (cc := cX12_test) (maxL := 2) (ret := none) (by decide) rfl (Nat.le_of_ble_eq_true rfl) ?_
  intro p e s m below meth c0 ls hIn hK hsz hW hl
  obtain ⟨hx, hb, hr, hml, hown, hts, hlocks, hname⟩ := hIn
  subst hsz
  have hown : s.vm.findClass RX12 = some m.cls := hown
  have hA : ∀ q : Nat, s.heap.size ≤ q → z_A (shM, ad, I, J, PM ad) s.heap.size q := fun q h => Or.inr h
  generalize hAe : z_A (shM, ad, I, J, PM ad) s.heap.size = A at *
  have hS : va_S A s.heap s.heap [] := va_S.rf
  have hl : lv_has ls 2 [(0, .ref (ad 0)), (1, .int a1)] := hl
  obtain ⟨va, eva⟩ : ∃ y, y = I 27 a1.toNatClampNeg := ⟨_, rfl⟩
  obtain ⟨vo, evo⟩ : ∃ y, y = I 28 a1.toNatClampNeg := ⟨_, rfl⟩
  obtain ⟨vs, evs⟩ : ∃ y, y = I 29 a1.toNatClampNeg := ⟨_, rfl⟩
  have hT := z_top hPS
  unfold z_fv at hT
  rw [hwd, ← eva, ← evo, ← evs] at hT
  obtain ⟨t1, t2, t3, t4, t5, t6, t7, t8, t9, t10, t11, t12, t13, t14, t15, t16, t17, t18, t19, t20, t21⟩ := hT
  have hk9 := z_clt (x := a1) rfl q1.1
  obtain ⟨vw, evw⟩ : ∃ y, y = I 26 a1.toNatClampNeg := ⟨_, rfl⟩
  have hvw : vw.toInt = 5 := by rw [evw]; exact hwd
  have krp : 0 ≤ (I 0 35).toInt ∧ (I 0 35).toInt ≤ (I 0 34).toInt ∧ (I 0 34).toInt ≤ (I 0 33).toInt ∧ (I 0 33).toInt ≤ 500 ∧ ((I 0 36).toInt = 0 ∨ (I 0 35).toInt + 1 ≤ (I 0 34).toInt) := hrp
  refine lv_aload_n hx hb dX12_test_0 rfl (lv_at hl 0 rfl) ?_
  refine z_get (T := TX12) (N := 96) (ci := 12) (i := 0) (v := .ref (ad 27)) hx hb hts zj_X12_test_X12 hown hK hW rfl rfl 44 (by decide) (hts (.fieldLink RX12 94 "PetrolBoardModel" "at" "[I") (List.mem_of_getElem? (i := 1) rfl)) (fun _ h => h) rfl dX12_test_1 ?_
  refine lv_iload_n hx hb dX12_test_4 rfl (lv_at hl 1 rfl) ?_
  refine z_iald (i := 27) hx hb hK hW rfl (z_ix rfl (by omega) (by omega)) dX12_test_5 ?_
  refine z_topi (v := va) eva.symm ?_
  refine lv_if_ne (tgt := 81) hx hb dX12_test_6 (by decide) (fun c1 => ?_) (fun c1 => ?_)
  · have g2 := z_f_ne rfl z_l0 c1
    refine lv_aload_n hx hb dX12_test_81 rfl (lv_at hl 0 rfl) ?_
    refine z_get (T := TX12) (N := 96) (ci := 12) (i := 0) (v := .ref (ad 27)) hx hb hts zj_X12_test_X12 hown hK hW rfl rfl 44 (by decide) (hts (.fieldLink RX12 94 "PetrolBoardModel" "at" "[I") (List.mem_of_getElem? (i := 1) rfl)) (fun _ h => h) rfl dX12_test_82 ?_
    refine lv_iload_n hx hb dX12_test_85 rfl (lv_at hl 1 rfl) ?_
    refine z_iald (i := 27) hx hb hK hW rfl (z_ix rfl (by omega) (by omega)) dX12_test_86 ?_
    refine z_topi (v := va) eva.symm ?_
    refine lv_iconst (v := 1) hx hb dX12_test_87 (by decide) ?_
    refine lv_icmp_ne (tgt := 119) hx hb dX12_test_88 (by decide) (fun c3 => ?_) (fun c3 => ?_)
    · have g4 := z_f_ne rfl z_l1 c3
      refine lv_aload_n hx hb dX12_test_119 rfl (lv_at hl 0 rfl) ?_
      refine z_get (T := TX12) (N := 96) (ci := 12) (i := 0) (v := .ref (ad 27)) hx hb hts zj_X12_test_X12 hown hK hW rfl rfl 44 (by decide) (hts (.fieldLink RX12 94 "PetrolBoardModel" "at" "[I") (List.mem_of_getElem? (i := 1) rfl)) (fun _ h => h) rfl dX12_test_120 ?_
      refine lv_iload_n hx hb dX12_test_123 rfl (lv_at hl 1 rfl) ?_
      refine z_iald (i := 27) hx hb hK hW rfl (z_ix rfl (by omega) (by omega)) dX12_test_124 ?_
      refine z_topi (v := va) eva.symm ?_
      refine lv_iconst (v := 2) hx hb dX12_test_125 (by decide) ?_
      refine lv_icmp_ne (tgt := 163) hx hb dX12_test_126 (by decide) (fun c5 => ?_) (fun c5 => ?_)
      · have g6 := z_f_ne rfl z_l2 c5
        refine lv_aload_n hx hb dX12_test_163 rfl (lv_at hl 0 rfl) ?_
        refine z_get (T := TX12) (N := 96) (ci := 12) (i := 0) (v := .ref (ad 27)) hx hb hts zj_X12_test_X12 hown hK hW rfl rfl 44 (by decide) (hts (.fieldLink RX12 94 "PetrolBoardModel" "at" "[I") (List.mem_of_getElem? (i := 1) rfl)) (fun _ h => h) rfl dX12_test_164 ?_
        refine lv_iload_n hx hb dX12_test_167 rfl (lv_at hl 1 rfl) ?_
        refine z_iald (i := 27) hx hb hK hW rfl (z_ix rfl (by omega) (by omega)) dX12_test_168 ?_
        refine z_topi (v := va) eva.symm ?_
        refine lv_iconst (v := 3) hx hb dX12_test_169 (by decide) ?_
        refine lv_icmp_ne (tgt := 265) hx hb dX12_test_170 (by decide) (fun c7 => ?_) (fun c7 => ?_)
        · have g8 := z_f_ne rfl z_l3 c7
          refine lv_aload_n hx hb dX12_test_265 rfl (lv_at hl 0 rfl) ?_
          refine lv_aload_n hx hb dX12_test_266 rfl (lv_at hl 0 rfl) ?_
          refine lv_aload_n hx hb dX12_test_267 rfl (lv_at hl 0 rfl) ?_
          refine z_get (T := TX12) (N := 96) (ci := 12) (i := 0) (v := .ref (ad 29)) hx hb hts zj_X12_test_X12 hown hK hW rfl rfl 46 (by decide) (hts (.fieldLink RX12 100 "PetrolBoardModel" "sort" "[I") (List.mem_of_getElem? (i := 7) rfl)) (fun _ h => h) rfl dX12_test_268 ?_
          refine lv_iload_n hx hb dX12_test_271 rfl (lv_at hl 1 rfl) ?_
          refine z_iald (i := 29) hx hb hK hW rfl (z_ix rfl (by omega) (by omega)) dX12_test_272 ?_
          refine z_topi (v := vs) evs.symm ?_
          refine lv_aload_n hx hb dX12_test_273 rfl (lv_at hl 0 rfl) ?_
          refine z_get (T := TX12) (N := 96) (ci := 12) (i := 0) (v := .ref (ad 28)) hx hb hts zj_X12_test_X12 hown hK hW rfl rfl 45 (by decide) (hts (.fieldLink RX12 97 "PetrolBoardModel" "one" "[I") (List.mem_of_getElem? (i := 6) rfl)) (fun _ h => h) rfl dX12_test_274 ?_
          refine lv_iload_n hx hb dX12_test_277 rfl (lv_at hl 1 rfl) ?_
          refine z_iald (i := 28) hx hb hK hW rfl (z_ix rfl (by omega) (by omega)) dX12_test_278 ?_
          refine z_topi (v := vo) evo.symm ?_
          refine lv_aload_n hx hb dX12_test_279 rfl (lv_at hl 0 rfl) ?_
          have r9 : 0 ≤ (I 0 40).toInt ∧ (I 0 40).toInt ≤ 6199 := hmg
          refine z_get (T := TX12) (N := 96) (ci := 12) (i := 0) (v := .int (I 0 40)) hx hb hts zj_X12_test_X12 hown hK hW rfl rfl 40 (by decide) (hts (.fieldLink RX12 343 "PetrolBoardModel" "got" "I") (List.mem_of_getElem? (i := 4) rfl)) (fun _ h => h) rfl dX12_test_280 ?_
          refine z_ci hW hS hA (va_runV (As := [.int vs, .int vo, .int (I 0 40)]) (rest := [.ref (ad 0)]) ⟨hx, hb, hml, hown, hts⟩ (sx_X12_node l G ad I J (by show 0 ≤ (I 0 15).toInt ∧ (I 0 15).toInt ≤ 6100; exact hmn) hNd vs vo (I 0 40) (by show (I 0 15).toInt ≤ 6099; omega) (by first | omega | decide) (by first | omega | decide) (by first | omega | decide) _) (cwV 3 hts gX12_test_X12_node rfl rfl rfl (by decide +kernel) ⟨Nat.le_of_ble_eq_true rfl, Nat.le_of_ble_eq_true rfl⟩) (z_preV (i := 0) hK hW rfl rfl) rfl rfl hl.1 rfl (lv_room (Nat.le_of_ble_eq_true rfl)) dX12_test_283 ⟨Nat.le_of_ble_eq_true rfl, Nat.le_of_ble_eq_true rfl⟩) (fun r u1 H locs hp hW hS => ?_)
          obtain ⟨I10, J12, e9, hI10mn, hI10Nd, fI10, hp⟩ := hp
          rw [e9] at hW
          have f11 := z_fr_sub (L := L_X12_test) z_fr_0 fI10 (by decide)
          have k13 : 0 ≤ (I10 0 31).toInt ∧ (I10 0 31).toInt ≤ 500 := by rw [fI10 0 31 (by decide)]; exact (by show 0 ≤ (I 0 31).toInt ∧ (I 0 31).toInt ≤ 500; exact hmp.1)
          have k14 : 0 ≤ (I10 0 33).toInt ∧ (I10 0 33).toInt ≤ 500 := by rw [fI10 0 33 (by decide)]; exact (by show 0 ≤ (I 0 33).toInt ∧ (I 0 33).toInt ≤ 500; exact hmp.2.1)
          have k15 : 0 ≤ (I10 0 34).toInt ∧ (I10 0 34).toInt ≤ 500 := by rw [fI10 0 34 (by decide)]; exact (by show 0 ≤ (I 0 34).toInt ∧ (I 0 34).toInt ≤ 500; exact hmp.2.2.1)
          have k16 : 0 ≤ (I10 0 35).toInt ∧ (I10 0 35).toInt ≤ 500 := by rw [fI10 0 35 (by decide)]; exact (by show 0 ≤ (I 0 35).toInt ∧ (I 0 35).toInt ≤ 500; exact hmp.2.2.2)
          have k17 : 0 ≤ (I10 0 36).toInt ∧ (I10 0 36).toInt ≤ 4 := by rw [fI10 0 36 (by decide)]; exact (by show 0 ≤ (I 0 36).toInt ∧ (I 0 36).toInt ≤ 4; exact hmt.1)
          have k18 : 0 ≤ (I10 0 42).toInt ∧ (I10 0 42).toInt ≤ 1 := by rw [fI10 0 42 (by decide)]; exact (by show 0 ≤ (I 0 42).toInt ∧ (I 0 42).toInt ≤ 1; exact hmt.2)
          have k19 : 0 ≤ (I10 0 47).toInt ∧ (I10 0 47).toInt ≤ 119 := by rw [fI10 0 47 (by decide)]; exact (by show 0 ≤ (I 0 47).toInt ∧ (I 0 47).toInt ≤ 119; exact hmd.1)
          have k20 : 0 ≤ (I10 0 39).toInt ∧ (I10 0 39).toInt ≤ 100 := by rw [fI10 0 39 (by decide)]; exact (by show 0 ≤ (I 0 39).toInt ∧ (I 0 39).toInt ≤ 100; exact hmd.2)
          have k21 : 0 ≤ (I10 0 40).toInt ∧ (I10 0 40).toInt ≤ 6199 := by rw [fI10 0 40 (by decide)]; exact (by show 0 ≤ (I 0 40).toInt ∧ (I 0 40).toInt ≤ 6199; exact hmg)
          have k22 : 0 ≤ (I10 0 35).toInt ∧ (I10 0 35).toInt ≤ (I10 0 34).toInt ∧ (I10 0 34).toInt ≤ (I10 0 33).toInt ∧ (I10 0 33).toInt ≤ 500 ∧ ((I10 0 36).toInt = 0 ∨ (I10 0 35).toInt + 1 ≤ (I10 0 34).toInt) := (by have q0 : (I10 0 35) = (I 0 35) := by rw [fI10 0 35 (by decide)]; have q1 : (I10 0 34) = (I 0 34) := by rw [fI10 0 34 (by decide)]; have q2 : (I10 0 33) = (I 0 33) := by rw [fI10 0 33 (by decide)]; have q3 : (I10 0 36) = (I 0 36) := by rw [fI10 0 36 (by decide)]; show 0 ≤ (I10 0 35).toInt ∧ (I10 0 35).toInt ≤ (I10 0 34).toInt ∧ (I10 0 34).toInt ≤ (I10 0 33).toInt ∧ (I10 0 33).toInt ≤ 500 ∧ ((I10 0 36).toInt = 0 ∨ (I10 0 35).toInt + 1 ≤ (I10 0 34).toInt); rw [q0, q1, q2, q3]; first | omega | decide)
          have k23 : (I10 0 35).toInt = (I 0 35).toInt := by rw [fI10 0 35 (by decide)]
          have k24 : (I10 0 34).toInt = (I 0 34).toInt := by rw [fI10 0 34 (by decide)]
          have k25 : (I10 0 36).toInt = (I 0 36).toInt := by rw [fI10 0 36 (by decide)]
          have k26 : (I10 0 42).toInt = (I 0 42).toInt := by rw [fI10 0 42 (by decide)]
          have k27 : (I10 0 47).toInt = (I 0 47).toInt := by rw [fI10 0 47 (by decide)]
          have k28 : (I10 0 39).toInt = (I 0 39).toInt := by rw [fI10 0 39 (by decide)]
          have k29 : (I10 0 40).toInt = (I 0 40).toInt := by rw [fI10 0 40 (by decide)]
          refine lv_topi (fun x30 ex30 => ?_)
          rw [← ex30] at hp
          obtain ⟨h31, h32⟩ := hp
          refine z_cv hW hS hA (va_runV (As := [.int x30]) (rest := []) ⟨hx, hb, hml, hown, hts⟩ (sx_X12_ends l G ad I10 J12 ⟨(by show 0 ≤ (I10 0 47).toInt ∧ (I10 0 47).toInt ≤ 119; exact k19), (by show 0 ≤ (I10 0 39).toInt ∧ (I10 0 39).toInt ≤ 100; exact k20)⟩ (by show 0 ≤ (I10 0 40).toInt ∧ (I10 0 40).toInt ≤ 6199; exact k21) x30 (by first | omega | decide) (by show 1 ≤ (I10 0 47).toInt; omega) _) (cwV 1 hts gX12_test_X12_ends rfl rfl rfl (by decide +kernel) ⟨Nat.le_of_ble_eq_true rfl, Nat.le_of_ble_eq_true rfl⟩) (z_preV (i := 0) hK hW rfl rfl) rfl rfl hl.1 rfl (lv_room (Nat.le_of_ble_eq_true rfl)) dX12_test_286 ⟨Nat.le_of_ble_eq_true rfl, Nat.le_of_ble_eq_true rfl⟩) (fun u1 H locs hp hW hS => ?_)
          obtain ⟨I33, J35, e9, hI33md, hI33mg, fI33, hp⟩ := hp
          rw [e9] at hW
          have f34 := z_fr_sub (L := L_X12_test) f11 fI33 (by decide)
          have k36 : 0 ≤ (I33 0 31).toInt ∧ (I33 0 31).toInt ≤ 500 := by rw [fI33 0 31 (by decide)]; exact (by show 0 ≤ (I10 0 31).toInt ∧ (I10 0 31).toInt ≤ 500; exact k13)
          have k37 : 0 ≤ (I33 0 33).toInt ∧ (I33 0 33).toInt ≤ 500 := by rw [fI33 0 33 (by decide)]; exact (by show 0 ≤ (I10 0 33).toInt ∧ (I10 0 33).toInt ≤ 500; exact k14)
          have k38 : 0 ≤ (I33 0 34).toInt ∧ (I33 0 34).toInt ≤ 500 := by rw [fI33 0 34 (by decide)]; exact (by show 0 ≤ (I10 0 34).toInt ∧ (I10 0 34).toInt ≤ 500; exact k15)
          have k39 : 0 ≤ (I33 0 35).toInt ∧ (I33 0 35).toInt ≤ 500 := by rw [fI33 0 35 (by decide)]; exact (by show 0 ≤ (I10 0 35).toInt ∧ (I10 0 35).toInt ≤ 500; exact k16)
          have k40 : 0 ≤ (I33 0 36).toInt ∧ (I33 0 36).toInt ≤ 4 := by rw [fI33 0 36 (by decide)]; exact (by show 0 ≤ (I10 0 36).toInt ∧ (I10 0 36).toInt ≤ 4; exact k17)
          have k41 : 0 ≤ (I33 0 42).toInt ∧ (I33 0 42).toInt ≤ 1 := by rw [fI33 0 42 (by decide)]; exact (by show 0 ≤ (I10 0 42).toInt ∧ (I10 0 42).toInt ≤ 1; exact k18)
          have k42 : 0 ≤ (I33 0 15).toInt ∧ (I33 0 15).toInt ≤ 6100 := by rw [fI33 0 15 (by decide)]; exact (by show 0 ≤ (I10 0 15).toInt ∧ (I10 0 15).toInt ≤ 6100; exact hI10mn)
          have k43 : 0 ≤ (I33 0 35).toInt ∧ (I33 0 35).toInt ≤ (I33 0 34).toInt ∧ (I33 0 34).toInt ≤ (I33 0 33).toInt ∧ (I33 0 33).toInt ≤ 500 ∧ ((I33 0 36).toInt = 0 ∨ (I33 0 35).toInt + 1 ≤ (I33 0 34).toInt) := (by have q0 : (I33 0 35) = (I10 0 35) := by rw [fI33 0 35 (by decide)]; have q1 : (I33 0 34) = (I10 0 34) := by rw [fI33 0 34 (by decide)]; have q2 : (I33 0 33) = (I10 0 33) := by rw [fI33 0 33 (by decide)]; have q3 : (I33 0 36) = (I10 0 36) := by rw [fI33 0 36 (by decide)]; show 0 ≤ (I33 0 35).toInt ∧ (I33 0 35).toInt ≤ (I33 0 34).toInt ∧ (I33 0 34).toInt ≤ (I33 0 33).toInt ∧ (I33 0 33).toInt ≤ 500 ∧ ((I33 0 36).toInt = 0 ∨ (I33 0 35).toInt + 1 ≤ (I33 0 34).toInt); rw [q0, q1, q2, q3]; first | omega | decide)
          have k44 : (I33 0 35).toInt = (I10 0 35).toInt := by rw [fI33 0 35 (by decide)]
          have k45 : (I33 0 34).toInt = (I10 0 34).toInt := by rw [fI33 0 34 (by decide)]
          have k46 : (I33 0 36).toInt = (I10 0 36).toInt := by rw [fI33 0 36 (by decide)]
          have k47 : (I33 0 42).toInt = (I10 0 42).toInt := by rw [fI33 0 42 (by decide)]
          have k48 : (I33 0 39).toInt = (I10 0 39).toInt := by rw [fI33 0 39 (by decide)]
          have k49 : (I33 0 15).toInt = (I10 0 15).toInt := by rw [fI33 0 15 (by decide)]
          have h50 := hp
          exact z_vret hx hb hr hK hS (Nat.le_of_ble_eq_true rfl) (Nat.le_of_ble_eq_true rfl) hlocks dX12_test_289 (shM, ad, I33, J35, PM ad) hW ⟨I33, J35, rfl, ⟨(by show 0 ≤ (I33 0 31).toInt ∧ (I33 0 31).toInt ≤ 500; exact k36), (by show 0 ≤ (I33 0 33).toInt ∧ (I33 0 33).toInt ≤ 500; exact k37), (by show 0 ≤ (I33 0 34).toInt ∧ (I33 0 34).toInt ≤ 500; exact k38), (by show 0 ≤ (I33 0 35).toInt ∧ (I33 0 35).toInt ≤ 500; exact k39)⟩, ⟨(by show 0 ≤ (I33 0 36).toInt ∧ (I33 0 36).toInt ≤ 4; exact k40), (by show 0 ≤ (I33 0 42).toInt ∧ (I33 0 42).toInt ≤ 1; exact k41)⟩, ⟨(by show 0 ≤ (I33 0 47).toInt ∧ (I33 0 47).toInt ≤ 119; exact hI33md.1), (by show 0 ≤ (I33 0 39).toInt ∧ (I33 0 39).toInt ≤ 100; exact hI33md.2)⟩, (by show 0 ≤ (I33 0 40).toInt ∧ (I33 0 40).toInt ≤ 6199; exact hI33mg), (by show 0 ≤ (I33 0 15).toInt ∧ (I33 0 15).toInt ≤ 6100; exact k42), (z_Nd_fr hI10Nd fI33 (by decide)), (by show 0 ≤ (I33 0 35).toInt ∧ (I33 0 35).toInt ≤ (I33 0 34).toInt ∧ (I33 0 34).toInt ≤ (I33 0 33).toInt ∧ (I33 0 33).toInt ≤ 500 ∧ ((I33 0 36).toInt = 0 ∨ (I33 0 35).toInt + 1 ≤ (I33 0 34).toInt); first | omega | decide), f34, ((Classical.em ((I33 0 42).toInt = 0)).elim (fun hw9 => Or.inr ⟨a1.toNatClampNeg, by have w1 := z_fw_514 (a := va.toInt) (o := vo.toInt) (by omega); have w2 := z_fo_5n (a := va.toInt) (by omega); exact z_POP (d := a1.toNatClampNeg) hPS (fun i hi => ⟨by rw [fI33 26 i (z_wr_c (by decide)), fI10 26 i (z_wr_c (by decide))], by rw [fI33 27 i (z_wr_c (by decide)), fI10 27 i (z_wr_c (by decide))], by rw [fI33 28 i (z_wr_c (by decide)), fI10 28 i (z_wr_c (by decide))], by rw [fI33 29 i (z_wr_c (by decide)), fI10 29 i (z_wr_c (by decide))]⟩) (by omega) (by omega) (by omega) (by omega) (by omega) (by omega)⟩) Or.inl)⟩
        · have g51 := z_f_eq rfl z_l3 c7
          refine lv_aload_n hx hb dX12_test_173 rfl (lv_at hl 0 rfl) ?_
          refine z_get (T := TX12) (N := 96) (ci := 12) (i := 0) (v := .ref (ad 28)) hx hb hts zj_X12_test_X12 hown hK hW rfl rfl 45 (by decide) (hts (.fieldLink RX12 97 "PetrolBoardModel" "one" "[I") (List.mem_of_getElem? (i := 6) rfl)) (fun _ h => h) rfl dX12_test_174 ?_
          refine lv_iload_n hx hb dX12_test_177 rfl (lv_at hl 1 rfl) ?_
          refine lv_aload_n hx hb dX12_test_178 rfl (lv_at hl 0 rfl) ?_
          have r52 : 0 ≤ (I 0 40).toInt ∧ (I 0 40).toInt ≤ 6199 := hmg
          refine z_get (T := TX12) (N := 96) (ci := 12) (i := 0) (v := .int (I 0 40)) hx hb hts zj_X12_test_X12 hown hK hW rfl rfl 40 (by decide) (hts (.fieldLink RX12 343 "PetrolBoardModel" "got" "I") (List.mem_of_getElem? (i := 4) rfl)) (fun _ h => h) rfl dX12_test_179 ?_
          refine z_iast (i := 28) hx hb hK hW hS rfl (z_ix rfl (by omega) (by omega)) dX12_test_182 (fun H locs hz1 hW hS => ?_)
          obtain ⟨I53, eI53⟩ : ∃ K : z_I, K = z_up I 28 a1.toNatClampNeg (I 0 40) := ⟨_, rfl⟩
          rw [← eI53] at hW
          have f54 := z_fr_a z_fr_0 (show z_wa L_X12_test 28 = true by decide) eI53
          have a55 := z_Nd_n hNd (by decide) eI53
          refine lv_aload_n hx hb dX12_test_183 rfl (lv_at hl 0 rfl) ?_
          refine z_get (T := TX12) (N := 96) (ci := 12) (i := 0) (v := .ref (ad 29)) hx hb hts zj_X12_test_X12 hown hK hW rfl rfl 46 (by decide) (hts (.fieldLink RX12 100 "PetrolBoardModel" "sort" "[I") (List.mem_of_getElem? (i := 7) rfl)) (fun _ h => h) rfl dX12_test_184 ?_
          refine lv_iload_n hx hb dX12_test_187 rfl (lv_at hl 1 rfl) ?_
          refine lv_aload_n hx hb dX12_test_188 rfl (lv_at hl 0 rfl) ?_
          refine lv_bipush (v := 60) hx hb dX12_test_189 (by decide) ?_
          refine z_ci hW hS hA (va_runV (As := [.int 60]) (rest := [.int a1, .ref (ad 29)]) ⟨hx, hb, hml, hown, hts⟩ (sx_X12_isSign l G ad I53 J ⟨(by show 0 ≤ (I53 0 36).toInt ∧ (I53 0 36).toInt ≤ 4; rw [eI53, z_up_n (by decide)]; exact hmt.1), (by show 0 ≤ (I53 0 42).toInt ∧ (I53 0 42).toInt ≤ 1; rw [eI53, z_up_n (by decide)]; exact hmt.2)⟩ 60 _) (cwV 1 hts gX12_test_X12_isSign rfl rfl rfl (by decide +kernel) ⟨Nat.le_of_ble_eq_true rfl, Nat.le_of_ble_eq_true rfl⟩) (z_preV (i := 0) hK hW rfl rfl) rfl rfl hl.1 rfl (lv_room (Nat.le_of_ble_eq_true rfl)) dX12_test_191 ⟨Nat.le_of_ble_eq_true rfl, Nat.le_of_ble_eq_true rfl⟩) (fun r u1 H locs hp hW hS => ?_)
          obtain ⟨e9, hp⟩ := hp
          rw [e9] at hW
          rcases hp with ⟨rfl, h56⟩ | rfl
          · rw [show (I53 0 36) = (I 0 36) from by rw [eI53, z_up_n (by decide)]] at h56
            have h57 : (I 0 35).toInt + 1 ≤ (I 0 34).toInt := by omega
            refine lv_if_eq (tgt := 202) hx hb dX12_test_194 (by decide) (fun c58 => absurd c58 (by decide)) (fun c58 => ?_)
            refine lv_bipush (v := 8) hx hb dX12_test_197 (by decide) ?_
            refine lv_goto (tgt := 231) hx hb dX12_test_199 (by decide) ?_
            refine z_iast (i := 29) hx hb hK hW hS rfl (z_ix rfl (by omega) (by omega)) dX12_test_231 (fun H locs hz1 hW hS => ?_)
            obtain ⟨I59, eI59⟩ : ∃ K : z_I, K = z_up I53 29 a1.toNatClampNeg 8 := ⟨_, rfl⟩
            rw [← eI59] at hW
            have f60 := z_fr_a f54 (show z_wa L_X12_test 29 = true by decide) eI59
            have a61 := z_Nd_n a55 (by decide) eI59
            refine lv_aload_n hx hb dX12_test_232 rfl (lv_at hl 0 rfl) ?_
            refine z_get (T := TX12) (N := 96) (ci := 12) (i := 0) (v := .ref (ad 29)) hx hb hts zj_X12_test_X12 hown hK hW rfl rfl 46 (by decide) (hts (.fieldLink RX12 100 "PetrolBoardModel" "sort" "[I") (List.mem_of_getElem? (i := 7) rfl)) (fun _ h => h) rfl dX12_test_233 ?_
            refine lv_iload_n hx hb dX12_test_236 rfl (lv_at hl 1 rfl) ?_
            refine z_iald (i := 29) hx hb hK hW rfl (z_ix rfl (by omega) (by omega)) dX12_test_237 ?_
            refine z_topi (v := 8) (by rw [eI59, z_up_s]) ?_
            refine lv_if_ne (tgt := 246) hx hb dX12_test_238 (by decide) (fun c62 => ?_) (fun c62 => absurd c62 (by decide))
            refine lv_aload_n hx hb dX12_test_246 rfl (lv_at hl 0 rfl) ?_
            refine z_cv hW hS hA (va_runV (As := []) (rest := []) ⟨hx, hb, hml, hown, hts⟩ (sx_X12_next l G ad I59 J ⟨(by show 0 ≤ (I59 0 31).toInt ∧ (I59 0 31).toInt ≤ 500; rw [eI59, z_up_n (by decide), eI53, z_up_n (by decide)]; exact hmp.1), (by show 0 ≤ (I59 0 33).toInt ∧ (I59 0 33).toInt ≤ 500; rw [eI59, z_up_n (by decide), eI53, z_up_n (by decide)]; exact hmp.2.1), (by show 0 ≤ (I59 0 34).toInt ∧ (I59 0 34).toInt ≤ 500; rw [eI59, z_up_n (by decide), eI53, z_up_n (by decide)]; exact hmp.2.2.1), (by show 0 ≤ (I59 0 35).toInt ∧ (I59 0 35).toInt ≤ 500; rw [eI59, z_up_n (by decide), eI53, z_up_n (by decide)]; exact hmp.2.2.2)⟩ ⟨(by show 0 ≤ (I59 0 36).toInt ∧ (I59 0 36).toInt ≤ 4; rw [eI59, z_up_n (by decide), eI53, z_up_n (by decide)]; exact hmt.1), (by show 0 ≤ (I59 0 42).toInt ∧ (I59 0 42).toInt ≤ 1; rw [eI59, z_up_n (by decide), eI53, z_up_n (by decide)]; exact hmt.2)⟩ (by have q0 : (I59 0 34) = (I 0 34) := by rw [eI59, z_up_n (by decide), eI53, z_up_n (by decide)]; have q1 : (I59 0 33) = (I 0 33) := by rw [eI59, z_up_n (by decide), eI53, z_up_n (by decide)]; show 0 ≤ (I59 0 34).toInt ∧ (I59 0 34).toInt ≤ (I59 0 33).toInt ∧ (I59 0 33).toInt ≤ 500; rw [q0, q1]; first | omega | decide)  _) (cwV 0 hts gX12_test_X12_next rfl rfl rfl (by decide +kernel) ⟨Nat.le_of_ble_eq_true rfl, Nat.le_of_ble_eq_true rfl⟩) (z_preV (i := 0) hK hW rfl rfl) rfl rfl hl.1 rfl (lv_room (Nat.le_of_ble_eq_true rfl)) dX12_test_247 ⟨Nat.le_of_ble_eq_true rfl, Nat.le_of_ble_eq_true rfl⟩) (fun u1 H locs hp hW hS => ?_)
            obtain ⟨I63, J65, e9, hI63mp, hI63mt, hI63rp, fI63, hp⟩ := hp
            rw [e9] at hW
            have f64 := z_fr_sub (L := L_X12_test) f60 fI63 (by decide)
            have k66 : 0 ≤ (I63 0 47).toInt ∧ (I63 0 47).toInt ≤ 119 := by rw [fI63 0 47 (by decide)]; exact (by show 0 ≤ (I59 0 47).toInt ∧ (I59 0 47).toInt ≤ 119; rw [eI59, z_up_n (by decide), eI53, z_up_n (by decide)]; exact hmd.1)
            have k67 : 0 ≤ (I63 0 39).toInt ∧ (I63 0 39).toInt ≤ 100 := by rw [fI63 0 39 (by decide)]; exact (by show 0 ≤ (I59 0 39).toInt ∧ (I59 0 39).toInt ≤ 100; rw [eI59, z_up_n (by decide), eI53, z_up_n (by decide)]; exact hmd.2)
            have k68 : 0 ≤ (I63 0 40).toInt ∧ (I63 0 40).toInt ≤ 6199 := by rw [fI63 0 40 (by decide)]; exact (by show 0 ≤ (I59 0 40).toInt ∧ (I59 0 40).toInt ≤ 6199; rw [eI59, z_up_n (by decide), eI53, z_up_n (by decide)]; exact hmg)
            have k69 : 0 ≤ (I63 0 15).toInt ∧ (I63 0 15).toInt ≤ 6100 := by rw [fI63 0 15 (by decide)]; exact (by show 0 ≤ (I59 0 15).toInt ∧ (I59 0 15).toInt ≤ 6100; rw [eI59, z_up_n (by decide), eI53, z_up_n (by decide)]; exact hmn)
            have k70 : 0 ≤ (I63 0 35).toInt ∧ (I63 0 35).toInt ≤ (I63 0 34).toInt ∧ (I63 0 34).toInt ≤ (I63 0 33).toInt ∧ (I63 0 33).toInt ≤ 500 ∧ ((I63 0 36).toInt = 0 ∨ (I63 0 35).toInt + 1 ≤ (I63 0 34).toInt) := hI63rp
            have k71 : (I63 0 42).toInt = (I 0 42).toInt := by rw [fI63 0 42 (by decide), eI59, z_up_n (by decide), eI53, z_up_n (by decide)]
            have k72 : (I63 0 47).toInt = (I 0 47).toInt := by rw [fI63 0 47 (by decide), eI59, z_up_n (by decide), eI53, z_up_n (by decide)]
            have k73 : (I63 0 39).toInt = (I 0 39).toInt := by rw [fI63 0 39 (by decide), eI59, z_up_n (by decide), eI53, z_up_n (by decide)]
            have k74 : (I63 0 15).toInt = (I 0 15).toInt := by rw [fI63 0 15 (by decide), eI59, z_up_n (by decide), eI53, z_up_n (by decide)]
            have k75 : (I63 0 40).toInt = (I 0 40).toInt := by rw [fI63 0 40 (by decide), eI59, z_up_n (by decide), eI53, z_up_n (by decide)]
            have h76 := hp
            rw [show (I59 0 34) = (I 0 34) from by rw [eI59, z_up_n (by decide), eI53, z_up_n (by decide)]] at h76
            refine lv_aload_n hx hb dX12_test_250 rfl (lv_at hl 0 rfl) ?_
            refine z_get (T := TX12) (N := 96) (ci := 12) (i := 0) (v := .ref (ad 27)) hx hb hts zj_X12_test_X12 hown hK hW rfl rfl 44 (by decide) (hts (.fieldLink RX12 94 "PetrolBoardModel" "at" "[I") (List.mem_of_getElem? (i := 1) rfl)) (fun _ h => h) rfl dX12_test_251 ?_
            refine lv_iload_n hx hb dX12_test_254 rfl (lv_at hl 1 rfl) ?_
            refine lv_iconst (v := 4) hx hb dX12_test_255 (by decide) ?_
            refine z_iast (i := 27) hx hb hK hW hS rfl (z_ix rfl (by omega) (by omega)) dX12_test_256 (fun H locs hz1 hW hS => ?_)
            obtain ⟨I77, eI77⟩ : ∃ K : z_I, K = z_up I63 27 a1.toNatClampNeg 4 := ⟨_, rfl⟩
            rw [← eI77] at hW
            have f78 := z_fr_a f64 (show z_wa L_X12_test 27 = true by decide) eI77
            have a79 := z_Nd_n (z_Nd_fr a61 fI63 (by decide)) (by decide) eI77
            refine lv_aload_n hx hb dX12_test_257 rfl (lv_at hl 0 rfl) ?_
            refine lv_iconst (v := 0) hx hb dX12_test_258 (by decide) ?_
            refine z_cv hW hS hA (va_runV (As := [.int 0]) (rest := []) ⟨hx, hb, hml, hown, hts⟩ (sx_X12_begin l G ad I77 J65 ⟨(by show 0 ≤ (I77 0 47).toInt ∧ (I77 0 47).toInt ≤ 119; rw [eI77, z_up_n (by decide)]; exact k66), (by show 0 ≤ (I77 0 39).toInt ∧ (I77 0 39).toInt ≤ 100; rw [eI77, z_up_n (by decide)]; exact k67)⟩ 0 (by have q0 : (I77 0 47) = (I63 0 47) := by rw [eI77, z_up_n (by decide)]; show (I77 0 47).toInt ≤ 118; rw [q0]; omega) _) (cwV 1 hts gX12_test_X12_begin rfl rfl rfl (by decide +kernel) ⟨Nat.le_of_ble_eq_true rfl, Nat.le_of_ble_eq_true rfl⟩) (z_preV (i := 0) hK hW rfl rfl) rfl rfl hl.1 rfl (lv_room (Nat.le_of_ble_eq_true rfl)) dX12_test_259 ⟨Nat.le_of_ble_eq_true rfl, Nat.le_of_ble_eq_true rfl⟩) (fun u1 H locs hp hW hS => ?_)
            obtain ⟨I80, J82, e9, hI80md, fI80, hp⟩ := hp
            rw [e9] at hW
            have f81 := z_fr_sub (L := L_X12_test) f78 fI80 (by decide)
            have k83 : 0 ≤ (I80 0 31).toInt ∧ (I80 0 31).toInt ≤ 500 := by rw [fI80 0 31 (by decide)]; exact (by show 0 ≤ (I77 0 31).toInt ∧ (I77 0 31).toInt ≤ 500; rw [eI77, z_up_n (by decide)]; exact hI63mp.1)
            have k84 : 0 ≤ (I80 0 33).toInt ∧ (I80 0 33).toInt ≤ 500 := by rw [fI80 0 33 (by decide)]; exact (by show 0 ≤ (I77 0 33).toInt ∧ (I77 0 33).toInt ≤ 500; rw [eI77, z_up_n (by decide)]; exact hI63mp.2.1)
            have k85 : 0 ≤ (I80 0 34).toInt ∧ (I80 0 34).toInt ≤ 500 := by rw [fI80 0 34 (by decide)]; exact (by show 0 ≤ (I77 0 34).toInt ∧ (I77 0 34).toInt ≤ 500; rw [eI77, z_up_n (by decide)]; exact hI63mp.2.2.1)
            have k86 : 0 ≤ (I80 0 35).toInt ∧ (I80 0 35).toInt ≤ 500 := by rw [fI80 0 35 (by decide)]; exact (by show 0 ≤ (I77 0 35).toInt ∧ (I77 0 35).toInt ≤ 500; rw [eI77, z_up_n (by decide)]; exact hI63mp.2.2.2)
            have k87 : 0 ≤ (I80 0 36).toInt ∧ (I80 0 36).toInt ≤ 4 := by rw [fI80 0 36 (by decide)]; exact (by show 0 ≤ (I77 0 36).toInt ∧ (I77 0 36).toInt ≤ 4; rw [eI77, z_up_n (by decide)]; exact hI63mt.1)
            have k88 : 0 ≤ (I80 0 42).toInt ∧ (I80 0 42).toInt ≤ 1 := by rw [fI80 0 42 (by decide)]; exact (by show 0 ≤ (I77 0 42).toInt ∧ (I77 0 42).toInt ≤ 1; rw [eI77, z_up_n (by decide)]; exact hI63mt.2)
            have k89 : 0 ≤ (I80 0 40).toInt ∧ (I80 0 40).toInt ≤ 6199 := by rw [fI80 0 40 (by decide)]; exact (by show 0 ≤ (I77 0 40).toInt ∧ (I77 0 40).toInt ≤ 6199; rw [eI77, z_up_n (by decide)]; exact k68)
            have k90 : 0 ≤ (I80 0 15).toInt ∧ (I80 0 15).toInt ≤ 6100 := by rw [fI80 0 15 (by decide)]; exact (by show 0 ≤ (I77 0 15).toInt ∧ (I77 0 15).toInt ≤ 6100; rw [eI77, z_up_n (by decide)]; exact k69)
            have k91 : 0 ≤ (I80 0 35).toInt ∧ (I80 0 35).toInt ≤ (I80 0 34).toInt ∧ (I80 0 34).toInt ≤ (I80 0 33).toInt ∧ (I80 0 33).toInt ≤ 500 ∧ ((I80 0 36).toInt = 0 ∨ (I80 0 35).toInt + 1 ≤ (I80 0 34).toInt) := (by have q0 : (I80 0 35) = (I63 0 35) := by rw [fI80 0 35 (by decide), eI77, z_up_n (by decide)]; have q1 : (I80 0 34) = (I63 0 34) := by rw [fI80 0 34 (by decide), eI77, z_up_n (by decide)]; have q2 : (I80 0 33) = (I63 0 33) := by rw [fI80 0 33 (by decide), eI77, z_up_n (by decide)]; have q3 : (I80 0 36) = (I63 0 36) := by rw [fI80 0 36 (by decide), eI77, z_up_n (by decide)]; show 0 ≤ (I80 0 35).toInt ∧ (I80 0 35).toInt ≤ (I80 0 34).toInt ∧ (I80 0 34).toInt ≤ (I80 0 33).toInt ∧ (I80 0 33).toInt ≤ 500 ∧ ((I80 0 36).toInt = 0 ∨ (I80 0 35).toInt + 1 ≤ (I80 0 34).toInt); rw [q0, q1, q2, q3]; first | omega | decide)
            have k92 : (I80 0 35).toInt = (I63 0 35).toInt := by rw [fI80 0 35 (by decide), eI77, z_up_n (by decide)]
            have k93 : (I80 0 34).toInt = (I63 0 34).toInt := by rw [fI80 0 34 (by decide), eI77, z_up_n (by decide)]
            have k94 : (I80 0 36).toInt = (I63 0 36).toInt := by rw [fI80 0 36 (by decide), eI77, z_up_n (by decide)]
            have k95 : (I80 0 42).toInt = (I63 0 42).toInt := by rw [fI80 0 42 (by decide), eI77, z_up_n (by decide)]
            have k96 : (I80 0 39).toInt = (I63 0 39).toInt := by rw [fI80 0 39 (by decide), eI77, z_up_n (by decide)]
            have k97 : (I80 0 15).toInt = (I63 0 15).toInt := by rw [fI80 0 15 (by decide), eI77, z_up_n (by decide)]
            have k98 : (I80 0 40).toInt = (I63 0 40).toInt := by rw [fI80 0 40 (by decide), eI77, z_up_n (by decide)]
            have h99 := hp
            refine lv_goto (tgt := 289) hx hb dX12_test_262 (by decide) ?_
            exact z_vret hx hb hr hK hS (Nat.le_of_ble_eq_true rfl) (Nat.le_of_ble_eq_true rfl) hlocks dX12_test_289 (shM, ad, I80, J82, PM ad) hW ⟨I80, J82, rfl, ⟨(by show 0 ≤ (I80 0 31).toInt ∧ (I80 0 31).toInt ≤ 500; exact k83), (by show 0 ≤ (I80 0 33).toInt ∧ (I80 0 33).toInt ≤ 500; exact k84), (by show 0 ≤ (I80 0 34).toInt ∧ (I80 0 34).toInt ≤ 500; exact k85), (by show 0 ≤ (I80 0 35).toInt ∧ (I80 0 35).toInt ≤ 500; exact k86)⟩, ⟨(by show 0 ≤ (I80 0 36).toInt ∧ (I80 0 36).toInt ≤ 4; exact k87), (by show 0 ≤ (I80 0 42).toInt ∧ (I80 0 42).toInt ≤ 1; exact k88)⟩, ⟨(by show 0 ≤ (I80 0 47).toInt ∧ (I80 0 47).toInt ≤ 119; exact hI80md.1), (by show 0 ≤ (I80 0 39).toInt ∧ (I80 0 39).toInt ≤ 100; exact hI80md.2)⟩, (by show 0 ≤ (I80 0 40).toInt ∧ (I80 0 40).toInt ≤ 6199; exact k89), (by show 0 ≤ (I80 0 15).toInt ∧ (I80 0 15).toInt ≤ 6100; exact k90), (z_Nd_fr a79 fI80 (by decide)), (by show 0 ≤ (I80 0 35).toInt ∧ (I80 0 35).toInt ≤ (I80 0 34).toInt ∧ (I80 0 34).toInt ≤ (I80 0 33).toInt ∧ (I80 0 33).toInt ≤ 500 ∧ ((I80 0 36).toInt = 0 ∨ (I80 0 35).toInt + 1 ≤ (I80 0 34).toInt); first | omega | decide), f81, ((Classical.em ((I80 0 42).toInt = 0)).elim (fun hw9 => Or.inr ⟨a1.toNatClampNeg + 2, by have w1 := z_fw_523 (a := va.toInt) (o := vo.toInt) (by omega); have w2 := z_fo_5n (a := va.toInt) (by omega); have w3 := z_fw_514 (a := 4) (o := (I 0 40).toInt) (by omega); have w4 := z_fo_5n (a := 4) (by omega); have w5 := z_fw_00 (a := 0) (o := -1) (by omega); have w6 := z_rk_5; have w7 := z_rk_0; exact z_PUSH (d := a1.toNatClampNeg) (w := 5) (a := 4) (o := (I 0 40).toInt) (s := 8) (wi := 0) hPS (fun i hi => ⟨by rw [eI77, z_up_n (by decide), fI63 26 i (z_wr_c (by decide)), eI59, z_up_n (by decide), eI53, z_up_n (by decide)], by rw [eI77, z_up_k (by omega), fI63 27 i (z_wr_c (by decide)), eI59, z_up_n (by decide), eI53, z_up_n (by decide)], by rw [eI77, z_up_n (by decide), fI63 28 i (z_wr_c (by decide)), eI59, z_up_n (by decide), eI53, z_up_k (by omega)], by rw [eI77, z_up_n (by decide), fI63 29 i (z_wr_c (by decide)), eI59, z_up_k (by omega), eI53, z_up_n (by decide)]⟩) (by rw [show I77 26 a1.toNatClampNeg = vw from (by rw [eI77, z_up_n (by decide), fI63 26 a1.toNatClampNeg (z_wr_c (by decide)), eI59, z_up_n (by decide), eI53, z_up_n (by decide)]; exact evw.symm)]; exact hvw) (by rw [show I77 27 a1.toNatClampNeg = 4 from (by rw [eI77, z_up_s])]; exact z_l4) (by rw [show I77 28 a1.toNatClampNeg = (I 0 40) from (by rw [eI77, z_up_n (by decide), fI63 28 a1.toNatClampNeg (z_wr_c (by decide)), eI59, z_up_n (by decide), eI53, z_up_s])]; exact rfl) (by rw [show I77 29 a1.toNatClampNeg = 8 from (by rw [eI77, z_up_n (by decide), fI63 29 a1.toNatClampNeg (z_wr_c (by decide)), eI59, z_up_s])]; exact z_l8) (by unfold z_fv; omega) hwd (by rw [eI77, z_up_n (by decide)]; omega) h99 z_l0 (by omega) (by omega) (by omega) (by omega) (by omega) (by omega) (by omega) (by omega)⟩) Or.inl)⟩
          · refine lv_if_eq (tgt := 202) hx hb dX12_test_194 (by decide) (fun c100 => ?_) (fun c100 => absurd (by decide) c100)
            refine lv_aload_n hx hb dX12_test_202 rfl (lv_at hl 0 rfl) ?_
            refine lv_bipush (v := 62) hx hb dX12_test_203 (by decide) ?_
            refine z_ci hW hS hA (va_runV (As := [.int 62]) (rest := [.int a1, .ref (ad 29)]) ⟨hx, hb, hml, hown, hts⟩ (sx_X12_isSign l G ad I53 J ⟨(by show 0 ≤ (I53 0 36).toInt ∧ (I53 0 36).toInt ≤ 4; rw [eI53, z_up_n (by decide)]; exact hmt.1), (by show 0 ≤ (I53 0 42).toInt ∧ (I53 0 42).toInt ≤ 1; rw [eI53, z_up_n (by decide)]; exact hmt.2)⟩ 62 _) (cwV 1 hts gX12_test_X12_isSign rfl rfl rfl (by decide +kernel) ⟨Nat.le_of_ble_eq_true rfl, Nat.le_of_ble_eq_true rfl⟩) (z_preV (i := 0) hK hW rfl rfl) rfl rfl hl.1 rfl (lv_room (Nat.le_of_ble_eq_true rfl)) dX12_test_205 ⟨Nat.le_of_ble_eq_true rfl, Nat.le_of_ble_eq_true rfl⟩) (fun r u1 H locs hp hW hS => ?_)
            obtain ⟨e9, hp⟩ := hp
            rw [e9] at hW
            rcases hp with ⟨rfl, h101⟩ | rfl
            · rw [show (I53 0 36) = (I 0 36) from by rw [eI53, z_up_n (by decide)]] at h101
              have h102 : (I 0 35).toInt + 1 ≤ (I 0 34).toInt := by omega
              refine lv_if_eq (tgt := 216) hx hb dX12_test_208 (by decide) (fun c103 => absurd c103 (by decide)) (fun c103 => ?_)
              refine lv_bipush (v := 9) hx hb dX12_test_211 (by decide) ?_
              refine lv_goto (tgt := 231) hx hb dX12_test_213 (by decide) ?_
              refine z_iast (i := 29) hx hb hK hW hS rfl (z_ix rfl (by omega) (by omega)) dX12_test_231 (fun H locs hz1 hW hS => ?_)
              obtain ⟨I104, eI104⟩ : ∃ K : z_I, K = z_up I53 29 a1.toNatClampNeg 9 := ⟨_, rfl⟩
              rw [← eI104] at hW
              have f105 := z_fr_a f54 (show z_wa L_X12_test 29 = true by decide) eI104
              have a106 := z_Nd_n a55 (by decide) eI104
              refine lv_aload_n hx hb dX12_test_232 rfl (lv_at hl 0 rfl) ?_
              refine z_get (T := TX12) (N := 96) (ci := 12) (i := 0) (v := .ref (ad 29)) hx hb hts zj_X12_test_X12 hown hK hW rfl rfl 46 (by decide) (hts (.fieldLink RX12 100 "PetrolBoardModel" "sort" "[I") (List.mem_of_getElem? (i := 7) rfl)) (fun _ h => h) rfl dX12_test_233 ?_
              refine lv_iload_n hx hb dX12_test_236 rfl (lv_at hl 1 rfl) ?_
              refine z_iald (i := 29) hx hb hK hW rfl (z_ix rfl (by omega) (by omega)) dX12_test_237 ?_
              refine z_topi (v := 9) (by rw [eI104, z_up_s]) ?_
              refine lv_if_ne (tgt := 246) hx hb dX12_test_238 (by decide) (fun c107 => ?_) (fun c107 => absurd c107 (by decide))
              refine lv_aload_n hx hb dX12_test_246 rfl (lv_at hl 0 rfl) ?_
              refine z_cv hW hS hA (va_runV (As := []) (rest := []) ⟨hx, hb, hml, hown, hts⟩ (sx_X12_next l G ad I104 J ⟨(by show 0 ≤ (I104 0 31).toInt ∧ (I104 0 31).toInt ≤ 500; rw [eI104, z_up_n (by decide), eI53, z_up_n (by decide)]; exact hmp.1), (by show 0 ≤ (I104 0 33).toInt ∧ (I104 0 33).toInt ≤ 500; rw [eI104, z_up_n (by decide), eI53, z_up_n (by decide)]; exact hmp.2.1), (by show 0 ≤ (I104 0 34).toInt ∧ (I104 0 34).toInt ≤ 500; rw [eI104, z_up_n (by decide), eI53, z_up_n (by decide)]; exact hmp.2.2.1), (by show 0 ≤ (I104 0 35).toInt ∧ (I104 0 35).toInt ≤ 500; rw [eI104, z_up_n (by decide), eI53, z_up_n (by decide)]; exact hmp.2.2.2)⟩ ⟨(by show 0 ≤ (I104 0 36).toInt ∧ (I104 0 36).toInt ≤ 4; rw [eI104, z_up_n (by decide), eI53, z_up_n (by decide)]; exact hmt.1), (by show 0 ≤ (I104 0 42).toInt ∧ (I104 0 42).toInt ≤ 1; rw [eI104, z_up_n (by decide), eI53, z_up_n (by decide)]; exact hmt.2)⟩ (by have q0 : (I104 0 34) = (I 0 34) := by rw [eI104, z_up_n (by decide), eI53, z_up_n (by decide)]; have q1 : (I104 0 33) = (I 0 33) := by rw [eI104, z_up_n (by decide), eI53, z_up_n (by decide)]; show 0 ≤ (I104 0 34).toInt ∧ (I104 0 34).toInt ≤ (I104 0 33).toInt ∧ (I104 0 33).toInt ≤ 500; rw [q0, q1]; first | omega | decide)  _) (cwV 0 hts gX12_test_X12_next rfl rfl rfl (by decide +kernel) ⟨Nat.le_of_ble_eq_true rfl, Nat.le_of_ble_eq_true rfl⟩) (z_preV (i := 0) hK hW rfl rfl) rfl rfl hl.1 rfl (lv_room (Nat.le_of_ble_eq_true rfl)) dX12_test_247 ⟨Nat.le_of_ble_eq_true rfl, Nat.le_of_ble_eq_true rfl⟩) (fun u1 H locs hp hW hS => ?_)
              obtain ⟨I108, J110, e9, hI108mp, hI108mt, hI108rp, fI108, hp⟩ := hp
              rw [e9] at hW
              have f109 := z_fr_sub (L := L_X12_test) f105 fI108 (by decide)
              have k111 : 0 ≤ (I108 0 47).toInt ∧ (I108 0 47).toInt ≤ 119 := by rw [fI108 0 47 (by decide)]; exact (by show 0 ≤ (I104 0 47).toInt ∧ (I104 0 47).toInt ≤ 119; rw [eI104, z_up_n (by decide), eI53, z_up_n (by decide)]; exact hmd.1)
              have k112 : 0 ≤ (I108 0 39).toInt ∧ (I108 0 39).toInt ≤ 100 := by rw [fI108 0 39 (by decide)]; exact (by show 0 ≤ (I104 0 39).toInt ∧ (I104 0 39).toInt ≤ 100; rw [eI104, z_up_n (by decide), eI53, z_up_n (by decide)]; exact hmd.2)
              have k113 : 0 ≤ (I108 0 40).toInt ∧ (I108 0 40).toInt ≤ 6199 := by rw [fI108 0 40 (by decide)]; exact (by show 0 ≤ (I104 0 40).toInt ∧ (I104 0 40).toInt ≤ 6199; rw [eI104, z_up_n (by decide), eI53, z_up_n (by decide)]; exact hmg)
              have k114 : 0 ≤ (I108 0 15).toInt ∧ (I108 0 15).toInt ≤ 6100 := by rw [fI108 0 15 (by decide)]; exact (by show 0 ≤ (I104 0 15).toInt ∧ (I104 0 15).toInt ≤ 6100; rw [eI104, z_up_n (by decide), eI53, z_up_n (by decide)]; exact hmn)
              have k115 : 0 ≤ (I108 0 35).toInt ∧ (I108 0 35).toInt ≤ (I108 0 34).toInt ∧ (I108 0 34).toInt ≤ (I108 0 33).toInt ∧ (I108 0 33).toInt ≤ 500 ∧ ((I108 0 36).toInt = 0 ∨ (I108 0 35).toInt + 1 ≤ (I108 0 34).toInt) := hI108rp
              have k116 : (I108 0 42).toInt = (I 0 42).toInt := by rw [fI108 0 42 (by decide), eI104, z_up_n (by decide), eI53, z_up_n (by decide)]
              have k117 : (I108 0 47).toInt = (I 0 47).toInt := by rw [fI108 0 47 (by decide), eI104, z_up_n (by decide), eI53, z_up_n (by decide)]
              have k118 : (I108 0 39).toInt = (I 0 39).toInt := by rw [fI108 0 39 (by decide), eI104, z_up_n (by decide), eI53, z_up_n (by decide)]
              have k119 : (I108 0 15).toInt = (I 0 15).toInt := by rw [fI108 0 15 (by decide), eI104, z_up_n (by decide), eI53, z_up_n (by decide)]
              have k120 : (I108 0 40).toInt = (I 0 40).toInt := by rw [fI108 0 40 (by decide), eI104, z_up_n (by decide), eI53, z_up_n (by decide)]
              have h121 := hp
              rw [show (I104 0 34) = (I 0 34) from by rw [eI104, z_up_n (by decide), eI53, z_up_n (by decide)]] at h121
              refine lv_aload_n hx hb dX12_test_250 rfl (lv_at hl 0 rfl) ?_
              refine z_get (T := TX12) (N := 96) (ci := 12) (i := 0) (v := .ref (ad 27)) hx hb hts zj_X12_test_X12 hown hK hW rfl rfl 44 (by decide) (hts (.fieldLink RX12 94 "PetrolBoardModel" "at" "[I") (List.mem_of_getElem? (i := 1) rfl)) (fun _ h => h) rfl dX12_test_251 ?_
              refine lv_iload_n hx hb dX12_test_254 rfl (lv_at hl 1 rfl) ?_
              refine lv_iconst (v := 4) hx hb dX12_test_255 (by decide) ?_
              refine z_iast (i := 27) hx hb hK hW hS rfl (z_ix rfl (by omega) (by omega)) dX12_test_256 (fun H locs hz1 hW hS => ?_)
              obtain ⟨I122, eI122⟩ : ∃ K : z_I, K = z_up I108 27 a1.toNatClampNeg 4 := ⟨_, rfl⟩
              rw [← eI122] at hW
              have f123 := z_fr_a f109 (show z_wa L_X12_test 27 = true by decide) eI122
              have a124 := z_Nd_n (z_Nd_fr a106 fI108 (by decide)) (by decide) eI122
              refine lv_aload_n hx hb dX12_test_257 rfl (lv_at hl 0 rfl) ?_
              refine lv_iconst (v := 0) hx hb dX12_test_258 (by decide) ?_
              refine z_cv hW hS hA (va_runV (As := [.int 0]) (rest := []) ⟨hx, hb, hml, hown, hts⟩ (sx_X12_begin l G ad I122 J110 ⟨(by show 0 ≤ (I122 0 47).toInt ∧ (I122 0 47).toInt ≤ 119; rw [eI122, z_up_n (by decide)]; exact k111), (by show 0 ≤ (I122 0 39).toInt ∧ (I122 0 39).toInt ≤ 100; rw [eI122, z_up_n (by decide)]; exact k112)⟩ 0 (by have q0 : (I122 0 47) = (I108 0 47) := by rw [eI122, z_up_n (by decide)]; show (I122 0 47).toInt ≤ 118; rw [q0]; omega) _) (cwV 1 hts gX12_test_X12_begin rfl rfl rfl (by decide +kernel) ⟨Nat.le_of_ble_eq_true rfl, Nat.le_of_ble_eq_true rfl⟩) (z_preV (i := 0) hK hW rfl rfl) rfl rfl hl.1 rfl (lv_room (Nat.le_of_ble_eq_true rfl)) dX12_test_259 ⟨Nat.le_of_ble_eq_true rfl, Nat.le_of_ble_eq_true rfl⟩) (fun u1 H locs hp hW hS => ?_)
              obtain ⟨I125, J127, e9, hI125md, fI125, hp⟩ := hp
              rw [e9] at hW
              have f126 := z_fr_sub (L := L_X12_test) f123 fI125 (by decide)
              have k128 : 0 ≤ (I125 0 31).toInt ∧ (I125 0 31).toInt ≤ 500 := by rw [fI125 0 31 (by decide)]; exact (by show 0 ≤ (I122 0 31).toInt ∧ (I122 0 31).toInt ≤ 500; rw [eI122, z_up_n (by decide)]; exact hI108mp.1)
              have k129 : 0 ≤ (I125 0 33).toInt ∧ (I125 0 33).toInt ≤ 500 := by rw [fI125 0 33 (by decide)]; exact (by show 0 ≤ (I122 0 33).toInt ∧ (I122 0 33).toInt ≤ 500; rw [eI122, z_up_n (by decide)]; exact hI108mp.2.1)
              have k130 : 0 ≤ (I125 0 34).toInt ∧ (I125 0 34).toInt ≤ 500 := by rw [fI125 0 34 (by decide)]; exact (by show 0 ≤ (I122 0 34).toInt ∧ (I122 0 34).toInt ≤ 500; rw [eI122, z_up_n (by decide)]; exact hI108mp.2.2.1)
              have k131 : 0 ≤ (I125 0 35).toInt ∧ (I125 0 35).toInt ≤ 500 := by rw [fI125 0 35 (by decide)]; exact (by show 0 ≤ (I122 0 35).toInt ∧ (I122 0 35).toInt ≤ 500; rw [eI122, z_up_n (by decide)]; exact hI108mp.2.2.2)
              have k132 : 0 ≤ (I125 0 36).toInt ∧ (I125 0 36).toInt ≤ 4 := by rw [fI125 0 36 (by decide)]; exact (by show 0 ≤ (I122 0 36).toInt ∧ (I122 0 36).toInt ≤ 4; rw [eI122, z_up_n (by decide)]; exact hI108mt.1)
              have k133 : 0 ≤ (I125 0 42).toInt ∧ (I125 0 42).toInt ≤ 1 := by rw [fI125 0 42 (by decide)]; exact (by show 0 ≤ (I122 0 42).toInt ∧ (I122 0 42).toInt ≤ 1; rw [eI122, z_up_n (by decide)]; exact hI108mt.2)
              have k134 : 0 ≤ (I125 0 40).toInt ∧ (I125 0 40).toInt ≤ 6199 := by rw [fI125 0 40 (by decide)]; exact (by show 0 ≤ (I122 0 40).toInt ∧ (I122 0 40).toInt ≤ 6199; rw [eI122, z_up_n (by decide)]; exact k113)
              have k135 : 0 ≤ (I125 0 15).toInt ∧ (I125 0 15).toInt ≤ 6100 := by rw [fI125 0 15 (by decide)]; exact (by show 0 ≤ (I122 0 15).toInt ∧ (I122 0 15).toInt ≤ 6100; rw [eI122, z_up_n (by decide)]; exact k114)
              have k136 : 0 ≤ (I125 0 35).toInt ∧ (I125 0 35).toInt ≤ (I125 0 34).toInt ∧ (I125 0 34).toInt ≤ (I125 0 33).toInt ∧ (I125 0 33).toInt ≤ 500 ∧ ((I125 0 36).toInt = 0 ∨ (I125 0 35).toInt + 1 ≤ (I125 0 34).toInt) := (by have q0 : (I125 0 35) = (I108 0 35) := by rw [fI125 0 35 (by decide), eI122, z_up_n (by decide)]; have q1 : (I125 0 34) = (I108 0 34) := by rw [fI125 0 34 (by decide), eI122, z_up_n (by decide)]; have q2 : (I125 0 33) = (I108 0 33) := by rw [fI125 0 33 (by decide), eI122, z_up_n (by decide)]; have q3 : (I125 0 36) = (I108 0 36) := by rw [fI125 0 36 (by decide), eI122, z_up_n (by decide)]; show 0 ≤ (I125 0 35).toInt ∧ (I125 0 35).toInt ≤ (I125 0 34).toInt ∧ (I125 0 34).toInt ≤ (I125 0 33).toInt ∧ (I125 0 33).toInt ≤ 500 ∧ ((I125 0 36).toInt = 0 ∨ (I125 0 35).toInt + 1 ≤ (I125 0 34).toInt); rw [q0, q1, q2, q3]; first | omega | decide)
              have k137 : (I125 0 35).toInt = (I108 0 35).toInt := by rw [fI125 0 35 (by decide), eI122, z_up_n (by decide)]
              have k138 : (I125 0 34).toInt = (I108 0 34).toInt := by rw [fI125 0 34 (by decide), eI122, z_up_n (by decide)]
              have k139 : (I125 0 36).toInt = (I108 0 36).toInt := by rw [fI125 0 36 (by decide), eI122, z_up_n (by decide)]
              have k140 : (I125 0 42).toInt = (I108 0 42).toInt := by rw [fI125 0 42 (by decide), eI122, z_up_n (by decide)]
              have k141 : (I125 0 39).toInt = (I108 0 39).toInt := by rw [fI125 0 39 (by decide), eI122, z_up_n (by decide)]
              have k142 : (I125 0 15).toInt = (I108 0 15).toInt := by rw [fI125 0 15 (by decide), eI122, z_up_n (by decide)]
              have k143 : (I125 0 40).toInt = (I108 0 40).toInt := by rw [fI125 0 40 (by decide), eI122, z_up_n (by decide)]
              have h144 := hp
              refine lv_goto (tgt := 289) hx hb dX12_test_262 (by decide) ?_
              exact z_vret hx hb hr hK hS (Nat.le_of_ble_eq_true rfl) (Nat.le_of_ble_eq_true rfl) hlocks dX12_test_289 (shM, ad, I125, J127, PM ad) hW ⟨I125, J127, rfl, ⟨(by show 0 ≤ (I125 0 31).toInt ∧ (I125 0 31).toInt ≤ 500; exact k128), (by show 0 ≤ (I125 0 33).toInt ∧ (I125 0 33).toInt ≤ 500; exact k129), (by show 0 ≤ (I125 0 34).toInt ∧ (I125 0 34).toInt ≤ 500; exact k130), (by show 0 ≤ (I125 0 35).toInt ∧ (I125 0 35).toInt ≤ 500; exact k131)⟩, ⟨(by show 0 ≤ (I125 0 36).toInt ∧ (I125 0 36).toInt ≤ 4; exact k132), (by show 0 ≤ (I125 0 42).toInt ∧ (I125 0 42).toInt ≤ 1; exact k133)⟩, ⟨(by show 0 ≤ (I125 0 47).toInt ∧ (I125 0 47).toInt ≤ 119; exact hI125md.1), (by show 0 ≤ (I125 0 39).toInt ∧ (I125 0 39).toInt ≤ 100; exact hI125md.2)⟩, (by show 0 ≤ (I125 0 40).toInt ∧ (I125 0 40).toInt ≤ 6199; exact k134), (by show 0 ≤ (I125 0 15).toInt ∧ (I125 0 15).toInt ≤ 6100; exact k135), (z_Nd_fr a124 fI125 (by decide)), (by show 0 ≤ (I125 0 35).toInt ∧ (I125 0 35).toInt ≤ (I125 0 34).toInt ∧ (I125 0 34).toInt ≤ (I125 0 33).toInt ∧ (I125 0 33).toInt ≤ 500 ∧ ((I125 0 36).toInt = 0 ∨ (I125 0 35).toInt + 1 ≤ (I125 0 34).toInt); first | omega | decide), f126, ((Classical.em ((I125 0 42).toInt = 0)).elim (fun hw9 => Or.inr ⟨a1.toNatClampNeg + 2, by have w1 := z_fw_523 (a := va.toInt) (o := vo.toInt) (by omega); have w2 := z_fo_5n (a := va.toInt) (by omega); have w3 := z_fw_514 (a := 4) (o := (I 0 40).toInt) (by omega); have w4 := z_fo_5n (a := 4) (by omega); have w5 := z_fw_00 (a := 0) (o := -1) (by omega); have w6 := z_rk_5; have w7 := z_rk_0; exact z_PUSH (d := a1.toNatClampNeg) (w := 5) (a := 4) (o := (I 0 40).toInt) (s := 9) (wi := 0) hPS (fun i hi => ⟨by rw [eI122, z_up_n (by decide), fI108 26 i (z_wr_c (by decide)), eI104, z_up_n (by decide), eI53, z_up_n (by decide)], by rw [eI122, z_up_k (by omega), fI108 27 i (z_wr_c (by decide)), eI104, z_up_n (by decide), eI53, z_up_n (by decide)], by rw [eI122, z_up_n (by decide), fI108 28 i (z_wr_c (by decide)), eI104, z_up_n (by decide), eI53, z_up_k (by omega)], by rw [eI122, z_up_n (by decide), fI108 29 i (z_wr_c (by decide)), eI104, z_up_k (by omega), eI53, z_up_n (by decide)]⟩) (by rw [show I122 26 a1.toNatClampNeg = vw from (by rw [eI122, z_up_n (by decide), fI108 26 a1.toNatClampNeg (z_wr_c (by decide)), eI104, z_up_n (by decide), eI53, z_up_n (by decide)]; exact evw.symm)]; exact hvw) (by rw [show I122 27 a1.toNatClampNeg = 4 from (by rw [eI122, z_up_s])]; exact z_l4) (by rw [show I122 28 a1.toNatClampNeg = (I 0 40) from (by rw [eI122, z_up_n (by decide), fI108 28 a1.toNatClampNeg (z_wr_c (by decide)), eI104, z_up_n (by decide), eI53, z_up_s])]; exact rfl) (by rw [show I122 29 a1.toNatClampNeg = 9 from (by rw [eI122, z_up_n (by decide), fI108 29 a1.toNatClampNeg (z_wr_c (by decide)), eI104, z_up_s])]; exact z_l9) (by unfold z_fv; omega) hwd (by rw [eI122, z_up_n (by decide)]; omega) h144 z_l0 (by omega) (by omega) (by omega) (by omega) (by omega) (by omega) (by omega) (by omega)⟩) Or.inl)⟩
            · refine lv_if_eq (tgt := 216) hx hb dX12_test_208 (by decide) (fun c145 => ?_) (fun c145 => absurd (by decide) c145)
              refine lv_aload_n hx hb dX12_test_216 rfl (lv_at hl 0 rfl) ?_
              refine lv_bipush (v := 61) hx hb dX12_test_217 (by decide) ?_
              refine z_ci hW hS hA (va_runV (As := [.int 61]) (rest := [.int a1, .ref (ad 29)]) ⟨hx, hb, hml, hown, hts⟩ (sx_X12_isSign l G ad I53 J ⟨(by show 0 ≤ (I53 0 36).toInt ∧ (I53 0 36).toInt ≤ 4; rw [eI53, z_up_n (by decide)]; exact hmt.1), (by show 0 ≤ (I53 0 42).toInt ∧ (I53 0 42).toInt ≤ 1; rw [eI53, z_up_n (by decide)]; exact hmt.2)⟩ 61 _) (cwV 1 hts gX12_test_X12_isSign rfl rfl rfl (by decide +kernel) ⟨Nat.le_of_ble_eq_true rfl, Nat.le_of_ble_eq_true rfl⟩) (z_preV (i := 0) hK hW rfl rfl) rfl rfl hl.1 rfl (lv_room (Nat.le_of_ble_eq_true rfl)) dX12_test_219 ⟨Nat.le_of_ble_eq_true rfl, Nat.le_of_ble_eq_true rfl⟩) (fun r u1 H locs hp hW hS => ?_)
              obtain ⟨e9, hp⟩ := hp
              rw [e9] at hW
              rcases hp with ⟨rfl, h146⟩ | rfl
              · rw [show (I53 0 36) = (I 0 36) from by rw [eI53, z_up_n (by decide)]] at h146
                have h147 : (I 0 35).toInt + 1 ≤ (I 0 34).toInt := by omega
                refine lv_if_eq (tgt := 230) hx hb dX12_test_222 (by decide) (fun c148 => absurd c148 (by decide)) (fun c148 => ?_)
                refine lv_bipush (v := 10) hx hb dX12_test_225 (by decide) ?_
                refine lv_goto (tgt := 231) hx hb dX12_test_227 (by decide) ?_
                refine z_iast (i := 29) hx hb hK hW hS rfl (z_ix rfl (by omega) (by omega)) dX12_test_231 (fun H locs hz1 hW hS => ?_)
                obtain ⟨I149, eI149⟩ : ∃ K : z_I, K = z_up I53 29 a1.toNatClampNeg 10 := ⟨_, rfl⟩
                rw [← eI149] at hW
                have f150 := z_fr_a f54 (show z_wa L_X12_test 29 = true by decide) eI149
                have a151 := z_Nd_n a55 (by decide) eI149
                refine lv_aload_n hx hb dX12_test_232 rfl (lv_at hl 0 rfl) ?_
                refine z_get (T := TX12) (N := 96) (ci := 12) (i := 0) (v := .ref (ad 29)) hx hb hts zj_X12_test_X12 hown hK hW rfl rfl 46 (by decide) (hts (.fieldLink RX12 100 "PetrolBoardModel" "sort" "[I") (List.mem_of_getElem? (i := 7) rfl)) (fun _ h => h) rfl dX12_test_233 ?_
                refine lv_iload_n hx hb dX12_test_236 rfl (lv_at hl 1 rfl) ?_
                refine z_iald (i := 29) hx hb hK hW rfl (z_ix rfl (by omega) (by omega)) dX12_test_237 ?_
                refine z_topi (v := 10) (by rw [eI149, z_up_s]) ?_
                refine lv_if_ne (tgt := 246) hx hb dX12_test_238 (by decide) (fun c152 => ?_) (fun c152 => absurd c152 (by decide))
                refine lv_aload_n hx hb dX12_test_246 rfl (lv_at hl 0 rfl) ?_
                refine z_cv hW hS hA (va_runV (As := []) (rest := []) ⟨hx, hb, hml, hown, hts⟩ (sx_X12_next l G ad I149 J ⟨(by show 0 ≤ (I149 0 31).toInt ∧ (I149 0 31).toInt ≤ 500; rw [eI149, z_up_n (by decide), eI53, z_up_n (by decide)]; exact hmp.1), (by show 0 ≤ (I149 0 33).toInt ∧ (I149 0 33).toInt ≤ 500; rw [eI149, z_up_n (by decide), eI53, z_up_n (by decide)]; exact hmp.2.1), (by show 0 ≤ (I149 0 34).toInt ∧ (I149 0 34).toInt ≤ 500; rw [eI149, z_up_n (by decide), eI53, z_up_n (by decide)]; exact hmp.2.2.1), (by show 0 ≤ (I149 0 35).toInt ∧ (I149 0 35).toInt ≤ 500; rw [eI149, z_up_n (by decide), eI53, z_up_n (by decide)]; exact hmp.2.2.2)⟩ ⟨(by show 0 ≤ (I149 0 36).toInt ∧ (I149 0 36).toInt ≤ 4; rw [eI149, z_up_n (by decide), eI53, z_up_n (by decide)]; exact hmt.1), (by show 0 ≤ (I149 0 42).toInt ∧ (I149 0 42).toInt ≤ 1; rw [eI149, z_up_n (by decide), eI53, z_up_n (by decide)]; exact hmt.2)⟩ (by have q0 : (I149 0 34) = (I 0 34) := by rw [eI149, z_up_n (by decide), eI53, z_up_n (by decide)]; have q1 : (I149 0 33) = (I 0 33) := by rw [eI149, z_up_n (by decide), eI53, z_up_n (by decide)]; show 0 ≤ (I149 0 34).toInt ∧ (I149 0 34).toInt ≤ (I149 0 33).toInt ∧ (I149 0 33).toInt ≤ 500; rw [q0, q1]; first | omega | decide)  _) (cwV 0 hts gX12_test_X12_next rfl rfl rfl (by decide +kernel) ⟨Nat.le_of_ble_eq_true rfl, Nat.le_of_ble_eq_true rfl⟩) (z_preV (i := 0) hK hW rfl rfl) rfl rfl hl.1 rfl (lv_room (Nat.le_of_ble_eq_true rfl)) dX12_test_247 ⟨Nat.le_of_ble_eq_true rfl, Nat.le_of_ble_eq_true rfl⟩) (fun u1 H locs hp hW hS => ?_)
                obtain ⟨I153, J155, e9, hI153mp, hI153mt, hI153rp, fI153, hp⟩ := hp
                rw [e9] at hW
                have f154 := z_fr_sub (L := L_X12_test) f150 fI153 (by decide)
                have k156 : 0 ≤ (I153 0 47).toInt ∧ (I153 0 47).toInt ≤ 119 := by rw [fI153 0 47 (by decide)]; exact (by show 0 ≤ (I149 0 47).toInt ∧ (I149 0 47).toInt ≤ 119; rw [eI149, z_up_n (by decide), eI53, z_up_n (by decide)]; exact hmd.1)
                have k157 : 0 ≤ (I153 0 39).toInt ∧ (I153 0 39).toInt ≤ 100 := by rw [fI153 0 39 (by decide)]; exact (by show 0 ≤ (I149 0 39).toInt ∧ (I149 0 39).toInt ≤ 100; rw [eI149, z_up_n (by decide), eI53, z_up_n (by decide)]; exact hmd.2)
                have k158 : 0 ≤ (I153 0 40).toInt ∧ (I153 0 40).toInt ≤ 6199 := by rw [fI153 0 40 (by decide)]; exact (by show 0 ≤ (I149 0 40).toInt ∧ (I149 0 40).toInt ≤ 6199; rw [eI149, z_up_n (by decide), eI53, z_up_n (by decide)]; exact hmg)
                have k159 : 0 ≤ (I153 0 15).toInt ∧ (I153 0 15).toInt ≤ 6100 := by rw [fI153 0 15 (by decide)]; exact (by show 0 ≤ (I149 0 15).toInt ∧ (I149 0 15).toInt ≤ 6100; rw [eI149, z_up_n (by decide), eI53, z_up_n (by decide)]; exact hmn)
                have k160 : 0 ≤ (I153 0 35).toInt ∧ (I153 0 35).toInt ≤ (I153 0 34).toInt ∧ (I153 0 34).toInt ≤ (I153 0 33).toInt ∧ (I153 0 33).toInt ≤ 500 ∧ ((I153 0 36).toInt = 0 ∨ (I153 0 35).toInt + 1 ≤ (I153 0 34).toInt) := hI153rp
                have k161 : (I153 0 42).toInt = (I 0 42).toInt := by rw [fI153 0 42 (by decide), eI149, z_up_n (by decide), eI53, z_up_n (by decide)]
                have k162 : (I153 0 47).toInt = (I 0 47).toInt := by rw [fI153 0 47 (by decide), eI149, z_up_n (by decide), eI53, z_up_n (by decide)]
                have k163 : (I153 0 39).toInt = (I 0 39).toInt := by rw [fI153 0 39 (by decide), eI149, z_up_n (by decide), eI53, z_up_n (by decide)]
                have k164 : (I153 0 15).toInt = (I 0 15).toInt := by rw [fI153 0 15 (by decide), eI149, z_up_n (by decide), eI53, z_up_n (by decide)]
                have k165 : (I153 0 40).toInt = (I 0 40).toInt := by rw [fI153 0 40 (by decide), eI149, z_up_n (by decide), eI53, z_up_n (by decide)]
                have h166 := hp
                rw [show (I149 0 34) = (I 0 34) from by rw [eI149, z_up_n (by decide), eI53, z_up_n (by decide)]] at h166
                refine lv_aload_n hx hb dX12_test_250 rfl (lv_at hl 0 rfl) ?_
                refine z_get (T := TX12) (N := 96) (ci := 12) (i := 0) (v := .ref (ad 27)) hx hb hts zj_X12_test_X12 hown hK hW rfl rfl 44 (by decide) (hts (.fieldLink RX12 94 "PetrolBoardModel" "at" "[I") (List.mem_of_getElem? (i := 1) rfl)) (fun _ h => h) rfl dX12_test_251 ?_
                refine lv_iload_n hx hb dX12_test_254 rfl (lv_at hl 1 rfl) ?_
                refine lv_iconst (v := 4) hx hb dX12_test_255 (by decide) ?_
                refine z_iast (i := 27) hx hb hK hW hS rfl (z_ix rfl (by omega) (by omega)) dX12_test_256 (fun H locs hz1 hW hS => ?_)
                obtain ⟨I167, eI167⟩ : ∃ K : z_I, K = z_up I153 27 a1.toNatClampNeg 4 := ⟨_, rfl⟩
                rw [← eI167] at hW
                have f168 := z_fr_a f154 (show z_wa L_X12_test 27 = true by decide) eI167
                have a169 := z_Nd_n (z_Nd_fr a151 fI153 (by decide)) (by decide) eI167
                refine lv_aload_n hx hb dX12_test_257 rfl (lv_at hl 0 rfl) ?_
                refine lv_iconst (v := 0) hx hb dX12_test_258 (by decide) ?_
                refine z_cv hW hS hA (va_runV (As := [.int 0]) (rest := []) ⟨hx, hb, hml, hown, hts⟩ (sx_X12_begin l G ad I167 J155 ⟨(by show 0 ≤ (I167 0 47).toInt ∧ (I167 0 47).toInt ≤ 119; rw [eI167, z_up_n (by decide)]; exact k156), (by show 0 ≤ (I167 0 39).toInt ∧ (I167 0 39).toInt ≤ 100; rw [eI167, z_up_n (by decide)]; exact k157)⟩ 0 (by have q0 : (I167 0 47) = (I153 0 47) := by rw [eI167, z_up_n (by decide)]; show (I167 0 47).toInt ≤ 118; rw [q0]; omega) _) (cwV 1 hts gX12_test_X12_begin rfl rfl rfl (by decide +kernel) ⟨Nat.le_of_ble_eq_true rfl, Nat.le_of_ble_eq_true rfl⟩) (z_preV (i := 0) hK hW rfl rfl) rfl rfl hl.1 rfl (lv_room (Nat.le_of_ble_eq_true rfl)) dX12_test_259 ⟨Nat.le_of_ble_eq_true rfl, Nat.le_of_ble_eq_true rfl⟩) (fun u1 H locs hp hW hS => ?_)
                obtain ⟨I170, J172, e9, hI170md, fI170, hp⟩ := hp
                rw [e9] at hW
                have f171 := z_fr_sub (L := L_X12_test) f168 fI170 (by decide)
                have k173 : 0 ≤ (I170 0 31).toInt ∧ (I170 0 31).toInt ≤ 500 := by rw [fI170 0 31 (by decide)]; exact (by show 0 ≤ (I167 0 31).toInt ∧ (I167 0 31).toInt ≤ 500; rw [eI167, z_up_n (by decide)]; exact hI153mp.1)
                have k174 : 0 ≤ (I170 0 33).toInt ∧ (I170 0 33).toInt ≤ 500 := by rw [fI170 0 33 (by decide)]; exact (by show 0 ≤ (I167 0 33).toInt ∧ (I167 0 33).toInt ≤ 500; rw [eI167, z_up_n (by decide)]; exact hI153mp.2.1)
                have k175 : 0 ≤ (I170 0 34).toInt ∧ (I170 0 34).toInt ≤ 500 := by rw [fI170 0 34 (by decide)]; exact (by show 0 ≤ (I167 0 34).toInt ∧ (I167 0 34).toInt ≤ 500; rw [eI167, z_up_n (by decide)]; exact hI153mp.2.2.1)
                have k176 : 0 ≤ (I170 0 35).toInt ∧ (I170 0 35).toInt ≤ 500 := by rw [fI170 0 35 (by decide)]; exact (by show 0 ≤ (I167 0 35).toInt ∧ (I167 0 35).toInt ≤ 500; rw [eI167, z_up_n (by decide)]; exact hI153mp.2.2.2)
                have k177 : 0 ≤ (I170 0 36).toInt ∧ (I170 0 36).toInt ≤ 4 := by rw [fI170 0 36 (by decide)]; exact (by show 0 ≤ (I167 0 36).toInt ∧ (I167 0 36).toInt ≤ 4; rw [eI167, z_up_n (by decide)]; exact hI153mt.1)
                have k178 : 0 ≤ (I170 0 42).toInt ∧ (I170 0 42).toInt ≤ 1 := by rw [fI170 0 42 (by decide)]; exact (by show 0 ≤ (I167 0 42).toInt ∧ (I167 0 42).toInt ≤ 1; rw [eI167, z_up_n (by decide)]; exact hI153mt.2)
                have k179 : 0 ≤ (I170 0 40).toInt ∧ (I170 0 40).toInt ≤ 6199 := by rw [fI170 0 40 (by decide)]; exact (by show 0 ≤ (I167 0 40).toInt ∧ (I167 0 40).toInt ≤ 6199; rw [eI167, z_up_n (by decide)]; exact k158)
                have k180 : 0 ≤ (I170 0 15).toInt ∧ (I170 0 15).toInt ≤ 6100 := by rw [fI170 0 15 (by decide)]; exact (by show 0 ≤ (I167 0 15).toInt ∧ (I167 0 15).toInt ≤ 6100; rw [eI167, z_up_n (by decide)]; exact k159)
                have k181 : 0 ≤ (I170 0 35).toInt ∧ (I170 0 35).toInt ≤ (I170 0 34).toInt ∧ (I170 0 34).toInt ≤ (I170 0 33).toInt ∧ (I170 0 33).toInt ≤ 500 ∧ ((I170 0 36).toInt = 0 ∨ (I170 0 35).toInt + 1 ≤ (I170 0 34).toInt) := (by have q0 : (I170 0 35) = (I153 0 35) := by rw [fI170 0 35 (by decide), eI167, z_up_n (by decide)]; have q1 : (I170 0 34) = (I153 0 34) := by rw [fI170 0 34 (by decide), eI167, z_up_n (by decide)]; have q2 : (I170 0 33) = (I153 0 33) := by rw [fI170 0 33 (by decide), eI167, z_up_n (by decide)]; have q3 : (I170 0 36) = (I153 0 36) := by rw [fI170 0 36 (by decide), eI167, z_up_n (by decide)]; show 0 ≤ (I170 0 35).toInt ∧ (I170 0 35).toInt ≤ (I170 0 34).toInt ∧ (I170 0 34).toInt ≤ (I170 0 33).toInt ∧ (I170 0 33).toInt ≤ 500 ∧ ((I170 0 36).toInt = 0 ∨ (I170 0 35).toInt + 1 ≤ (I170 0 34).toInt); rw [q0, q1, q2, q3]; first | omega | decide)
                have k182 : (I170 0 35).toInt = (I153 0 35).toInt := by rw [fI170 0 35 (by decide), eI167, z_up_n (by decide)]
                have k183 : (I170 0 34).toInt = (I153 0 34).toInt := by rw [fI170 0 34 (by decide), eI167, z_up_n (by decide)]
                have k184 : (I170 0 36).toInt = (I153 0 36).toInt := by rw [fI170 0 36 (by decide), eI167, z_up_n (by decide)]
                have k185 : (I170 0 42).toInt = (I153 0 42).toInt := by rw [fI170 0 42 (by decide), eI167, z_up_n (by decide)]
                have k186 : (I170 0 39).toInt = (I153 0 39).toInt := by rw [fI170 0 39 (by decide), eI167, z_up_n (by decide)]
                have k187 : (I170 0 15).toInt = (I153 0 15).toInt := by rw [fI170 0 15 (by decide), eI167, z_up_n (by decide)]
                have k188 : (I170 0 40).toInt = (I153 0 40).toInt := by rw [fI170 0 40 (by decide), eI167, z_up_n (by decide)]
                have h189 := hp
                refine lv_goto (tgt := 289) hx hb dX12_test_262 (by decide) ?_
                exact z_vret hx hb hr hK hS (Nat.le_of_ble_eq_true rfl) (Nat.le_of_ble_eq_true rfl) hlocks dX12_test_289 (shM, ad, I170, J172, PM ad) hW ⟨I170, J172, rfl, ⟨(by show 0 ≤ (I170 0 31).toInt ∧ (I170 0 31).toInt ≤ 500; exact k173), (by show 0 ≤ (I170 0 33).toInt ∧ (I170 0 33).toInt ≤ 500; exact k174), (by show 0 ≤ (I170 0 34).toInt ∧ (I170 0 34).toInt ≤ 500; exact k175), (by show 0 ≤ (I170 0 35).toInt ∧ (I170 0 35).toInt ≤ 500; exact k176)⟩, ⟨(by show 0 ≤ (I170 0 36).toInt ∧ (I170 0 36).toInt ≤ 4; exact k177), (by show 0 ≤ (I170 0 42).toInt ∧ (I170 0 42).toInt ≤ 1; exact k178)⟩, ⟨(by show 0 ≤ (I170 0 47).toInt ∧ (I170 0 47).toInt ≤ 119; exact hI170md.1), (by show 0 ≤ (I170 0 39).toInt ∧ (I170 0 39).toInt ≤ 100; exact hI170md.2)⟩, (by show 0 ≤ (I170 0 40).toInt ∧ (I170 0 40).toInt ≤ 6199; exact k179), (by show 0 ≤ (I170 0 15).toInt ∧ (I170 0 15).toInt ≤ 6100; exact k180), (z_Nd_fr a169 fI170 (by decide)), (by show 0 ≤ (I170 0 35).toInt ∧ (I170 0 35).toInt ≤ (I170 0 34).toInt ∧ (I170 0 34).toInt ≤ (I170 0 33).toInt ∧ (I170 0 33).toInt ≤ 500 ∧ ((I170 0 36).toInt = 0 ∨ (I170 0 35).toInt + 1 ≤ (I170 0 34).toInt); first | omega | decide), f171, ((Classical.em ((I170 0 42).toInt = 0)).elim (fun hw9 => Or.inr ⟨a1.toNatClampNeg + 2, by have w1 := z_fw_523 (a := va.toInt) (o := vo.toInt) (by omega); have w2 := z_fo_5n (a := va.toInt) (by omega); have w3 := z_fw_514 (a := 4) (o := (I 0 40).toInt) (by omega); have w4 := z_fo_5n (a := 4) (by omega); have w5 := z_fw_00 (a := 0) (o := -1) (by omega); have w6 := z_rk_5; have w7 := z_rk_0; exact z_PUSH (d := a1.toNatClampNeg) (w := 5) (a := 4) (o := (I 0 40).toInt) (s := 10) (wi := 0) hPS (fun i hi => ⟨by rw [eI167, z_up_n (by decide), fI153 26 i (z_wr_c (by decide)), eI149, z_up_n (by decide), eI53, z_up_n (by decide)], by rw [eI167, z_up_k (by omega), fI153 27 i (z_wr_c (by decide)), eI149, z_up_n (by decide), eI53, z_up_n (by decide)], by rw [eI167, z_up_n (by decide), fI153 28 i (z_wr_c (by decide)), eI149, z_up_n (by decide), eI53, z_up_k (by omega)], by rw [eI167, z_up_n (by decide), fI153 29 i (z_wr_c (by decide)), eI149, z_up_k (by omega), eI53, z_up_n (by decide)]⟩) (by rw [show I167 26 a1.toNatClampNeg = vw from (by rw [eI167, z_up_n (by decide), fI153 26 a1.toNatClampNeg (z_wr_c (by decide)), eI149, z_up_n (by decide), eI53, z_up_n (by decide)]; exact evw.symm)]; exact hvw) (by rw [show I167 27 a1.toNatClampNeg = 4 from (by rw [eI167, z_up_s])]; exact z_l4) (by rw [show I167 28 a1.toNatClampNeg = (I 0 40) from (by rw [eI167, z_up_n (by decide), fI153 28 a1.toNatClampNeg (z_wr_c (by decide)), eI149, z_up_n (by decide), eI53, z_up_s])]; exact rfl) (by rw [show I167 29 a1.toNatClampNeg = 10 from (by rw [eI167, z_up_n (by decide), fI153 29 a1.toNatClampNeg (z_wr_c (by decide)), eI149, z_up_s])]; exact z_l10) (by unfold z_fv; omega) hwd (by rw [eI167, z_up_n (by decide)]; omega) h189 z_l0 (by omega) (by omega) (by omega) (by omega) (by omega) (by omega) (by omega) (by omega)⟩) Or.inl)⟩
              · refine lv_if_eq (tgt := 230) hx hb dX12_test_222 (by decide) (fun c190 => ?_) (fun c190 => absurd (by decide) c190)
                refine lv_iconst (v := 0) hx hb dX12_test_230 (by decide) ?_
                refine z_iast (i := 29) hx hb hK hW hS rfl (z_ix rfl (by omega) (by omega)) dX12_test_231 (fun H locs hz1 hW hS => ?_)
                obtain ⟨I191, eI191⟩ : ∃ K : z_I, K = z_up I53 29 a1.toNatClampNeg 0 := ⟨_, rfl⟩
                rw [← eI191] at hW
                have f192 := z_fr_a f54 (show z_wa L_X12_test 29 = true by decide) eI191
                have a193 := z_Nd_n a55 (by decide) eI191
                refine lv_aload_n hx hb dX12_test_232 rfl (lv_at hl 0 rfl) ?_
                refine z_get (T := TX12) (N := 96) (ci := 12) (i := 0) (v := .ref (ad 29)) hx hb hts zj_X12_test_X12 hown hK hW rfl rfl 46 (by decide) (hts (.fieldLink RX12 100 "PetrolBoardModel" "sort" "[I") (List.mem_of_getElem? (i := 7) rfl)) (fun _ h => h) rfl dX12_test_233 ?_
                refine lv_iload_n hx hb dX12_test_236 rfl (lv_at hl 1 rfl) ?_
                refine z_iald (i := 29) hx hb hK hW rfl (z_ix rfl (by omega) (by omega)) dX12_test_237 ?_
                refine z_topi (v := 0) (by rw [eI191, z_up_s]) ?_
                refine lv_if_ne (tgt := 246) hx hb dX12_test_238 (by decide) (fun c194 => absurd (by decide) c194) (fun c194 => ?_)
                refine lv_aload_n hx hb dX12_test_241 rfl (lv_at hl 0 rfl) ?_
                refine z_cv hW hS hA (va_runV (As := []) (rest := []) ⟨hx, hb, hml, hown, hts⟩ (sx_X12_errs l G ad I191 J ⟨(by show 0 ≤ (I191 0 36).toInt ∧ (I191 0 36).toInt ≤ 4; rw [eI191, z_up_n (by decide), eI53, z_up_n (by decide)]; exact hmt.1), (by show 0 ≤ (I191 0 42).toInt ∧ (I191 0 42).toInt ≤ 1; rw [eI191, z_up_n (by decide), eI53, z_up_n (by decide)]; exact hmt.2)⟩  _) (cwV 0 hts gX12_test_X12_errs rfl rfl rfl (by decide +kernel) ⟨Nat.le_of_ble_eq_true rfl, Nat.le_of_ble_eq_true rfl⟩) (z_preV (i := 0) hK hW rfl rfl) rfl rfl hl.1 rfl (lv_room (Nat.le_of_ble_eq_true rfl)) dX12_test_242 ⟨Nat.le_of_ble_eq_true rfl, Nat.le_of_ble_eq_true rfl⟩) (fun u1 H locs hp hW hS => ?_)
                obtain ⟨I195, J197, e9, hI195mt, fI195, hp⟩ := hp
                rw [e9] at hW
                have f196 := z_fr_sub (L := L_X12_test) f192 fI195 (by decide)
                have k198 : 0 ≤ (I195 0 31).toInt ∧ (I195 0 31).toInt ≤ 500 := by rw [fI195 0 31 (by decide)]; exact (by show 0 ≤ (I191 0 31).toInt ∧ (I191 0 31).toInt ≤ 500; rw [eI191, z_up_n (by decide), eI53, z_up_n (by decide)]; exact hmp.1)
                have k199 : 0 ≤ (I195 0 33).toInt ∧ (I195 0 33).toInt ≤ 500 := by rw [fI195 0 33 (by decide)]; exact (by show 0 ≤ (I191 0 33).toInt ∧ (I191 0 33).toInt ≤ 500; rw [eI191, z_up_n (by decide), eI53, z_up_n (by decide)]; exact hmp.2.1)
                have k200 : 0 ≤ (I195 0 34).toInt ∧ (I195 0 34).toInt ≤ 500 := by rw [fI195 0 34 (by decide)]; exact (by show 0 ≤ (I191 0 34).toInt ∧ (I191 0 34).toInt ≤ 500; rw [eI191, z_up_n (by decide), eI53, z_up_n (by decide)]; exact hmp.2.2.1)
                have k201 : 0 ≤ (I195 0 35).toInt ∧ (I195 0 35).toInt ≤ 500 := by rw [fI195 0 35 (by decide)]; exact (by show 0 ≤ (I191 0 35).toInt ∧ (I191 0 35).toInt ≤ 500; rw [eI191, z_up_n (by decide), eI53, z_up_n (by decide)]; exact hmp.2.2.2)
                have k202 : 0 ≤ (I195 0 47).toInt ∧ (I195 0 47).toInt ≤ 119 := by rw [fI195 0 47 (by decide)]; exact (by show 0 ≤ (I191 0 47).toInt ∧ (I191 0 47).toInt ≤ 119; rw [eI191, z_up_n (by decide), eI53, z_up_n (by decide)]; exact hmd.1)
                have k203 : 0 ≤ (I195 0 39).toInt ∧ (I195 0 39).toInt ≤ 100 := by rw [fI195 0 39 (by decide)]; exact (by show 0 ≤ (I191 0 39).toInt ∧ (I191 0 39).toInt ≤ 100; rw [eI191, z_up_n (by decide), eI53, z_up_n (by decide)]; exact hmd.2)
                have k204 : 0 ≤ (I195 0 40).toInt ∧ (I195 0 40).toInt ≤ 6199 := by rw [fI195 0 40 (by decide)]; exact (by show 0 ≤ (I191 0 40).toInt ∧ (I191 0 40).toInt ≤ 6199; rw [eI191, z_up_n (by decide), eI53, z_up_n (by decide)]; exact hmg)
                have k205 : 0 ≤ (I195 0 15).toInt ∧ (I195 0 15).toInt ≤ 6100 := by rw [fI195 0 15 (by decide)]; exact (by show 0 ≤ (I191 0 15).toInt ∧ (I191 0 15).toInt ≤ 6100; rw [eI191, z_up_n (by decide), eI53, z_up_n (by decide)]; exact hmn)
                have k206 : 0 ≤ (I195 0 35).toInt ∧ (I195 0 35).toInt ≤ (I195 0 34).toInt ∧ (I195 0 34).toInt ≤ (I195 0 33).toInt ∧ (I195 0 33).toInt ≤ 500 ∧ ((I195 0 36).toInt = 0 ∨ (I195 0 35).toInt + 1 ≤ (I195 0 34).toInt) := (by have q0 : (I195 0 35) = (I 0 35) := by rw [fI195 0 35 (by decide), eI191, z_up_n (by decide), eI53, z_up_n (by decide)]; have q1 : (I195 0 34) = (I 0 34) := by rw [fI195 0 34 (by decide), eI191, z_up_n (by decide), eI53, z_up_n (by decide)]; have q2 : (I195 0 33) = (I 0 33) := by rw [fI195 0 33 (by decide), eI191, z_up_n (by decide), eI53, z_up_n (by decide)]; have q3 : (I195 0 36) = (I 0 36) := by rw [fI195 0 36 (by decide), eI191, z_up_n (by decide), eI53, z_up_n (by decide)]; show 0 ≤ (I195 0 35).toInt ∧ (I195 0 35).toInt ≤ (I195 0 34).toInt ∧ (I195 0 34).toInt ≤ (I195 0 33).toInt ∧ (I195 0 33).toInt ≤ 500 ∧ ((I195 0 36).toInt = 0 ∨ (I195 0 35).toInt + 1 ≤ (I195 0 34).toInt); rw [q0, q1, q2, q3]; first | omega | decide)
                have k207 : (I195 0 35).toInt = (I 0 35).toInt := by rw [fI195 0 35 (by decide), eI191, z_up_n (by decide), eI53, z_up_n (by decide)]
                have k208 : (I195 0 34).toInt = (I 0 34).toInt := by rw [fI195 0 34 (by decide), eI191, z_up_n (by decide), eI53, z_up_n (by decide)]
                have k209 : (I195 0 36).toInt = (I 0 36).toInt := by rw [fI195 0 36 (by decide), eI191, z_up_n (by decide), eI53, z_up_n (by decide)]
                have k210 : (I195 0 47).toInt = (I 0 47).toInt := by rw [fI195 0 47 (by decide), eI191, z_up_n (by decide), eI53, z_up_n (by decide)]
                have k211 : (I195 0 39).toInt = (I 0 39).toInt := by rw [fI195 0 39 (by decide), eI191, z_up_n (by decide), eI53, z_up_n (by decide)]
                have k212 : (I195 0 15).toInt = (I 0 15).toInt := by rw [fI195 0 15 (by decide), eI191, z_up_n (by decide), eI53, z_up_n (by decide)]
                have k213 : (I195 0 40).toInt = (I 0 40).toInt := by rw [fI195 0 40 (by decide), eI191, z_up_n (by decide), eI53, z_up_n (by decide)]
                have h214 := hp
                rw [show (I191 0 42) = (I 0 42) from by rw [eI191, z_up_n (by decide), eI53, z_up_n (by decide)]] at h214
                exact z_vret hx hb hr hK hS (Nat.le_of_ble_eq_true rfl) (Nat.le_of_ble_eq_true rfl) hlocks dX12_test_245 (shM, ad, I195, J197, PM ad) hW ⟨I195, J197, rfl, ⟨(by show 0 ≤ (I195 0 31).toInt ∧ (I195 0 31).toInt ≤ 500; exact k198), (by show 0 ≤ (I195 0 33).toInt ∧ (I195 0 33).toInt ≤ 500; exact k199), (by show 0 ≤ (I195 0 34).toInt ∧ (I195 0 34).toInt ≤ 500; exact k200), (by show 0 ≤ (I195 0 35).toInt ∧ (I195 0 35).toInt ≤ 500; exact k201)⟩, ⟨(by show 0 ≤ (I195 0 36).toInt ∧ (I195 0 36).toInt ≤ 4; exact hI195mt.1), (by show 0 ≤ (I195 0 42).toInt ∧ (I195 0 42).toInt ≤ 1; exact hI195mt.2)⟩, ⟨(by show 0 ≤ (I195 0 47).toInt ∧ (I195 0 47).toInt ≤ 119; exact k202), (by show 0 ≤ (I195 0 39).toInt ∧ (I195 0 39).toInt ≤ 100; exact k203)⟩, (by show 0 ≤ (I195 0 40).toInt ∧ (I195 0 40).toInt ≤ 6199; exact k204), (by show 0 ≤ (I195 0 15).toInt ∧ (I195 0 15).toInt ≤ 6100; exact k205), (z_Nd_fr a193 fI195 (by decide)), (by show 0 ≤ (I195 0 35).toInt ∧ (I195 0 35).toInt ≤ (I195 0 34).toInt ∧ (I195 0 34).toInt ≤ (I195 0 33).toInt ∧ (I195 0 33).toInt ≤ 500 ∧ ((I195 0 36).toInt = 0 ∨ (I195 0 35).toInt + 1 ≤ (I195 0 34).toInt); first | omega | decide), f196, (Or.inl (by show ¬ (I195 0 42).toInt = 0; omega))⟩
      · have g215 := z_f_eq rfl z_l2 c5
        refine lv_aload_n hx hb dX12_test_129 rfl (lv_at hl 0 rfl) ?_
        refine lv_bipush (v := 125) hx hb dX12_test_130 (by decide) ?_
        refine z_cv hW hS hA (va_runV (As := [.int 125]) (rest := []) ⟨hx, hb, hml, hown, hts⟩ (sx_X12_must l G ad I J ⟨(by show 0 ≤ (I 0 31).toInt ∧ (I 0 31).toInt ≤ 500; exact hmp.1), (by show 0 ≤ (I 0 33).toInt ∧ (I 0 33).toInt ≤ 500; exact hmp.2.1), (by show 0 ≤ (I 0 34).toInt ∧ (I 0 34).toInt ≤ 500; exact hmp.2.2.1), (by show 0 ≤ (I 0 35).toInt ∧ (I 0 35).toInt ≤ 500; exact hmp.2.2.2)⟩ ⟨(by show 0 ≤ (I 0 36).toInt ∧ (I 0 36).toInt ≤ 4; exact hmt.1), (by show 0 ≤ (I 0 42).toInt ∧ (I 0 42).toInt ≤ 1; exact hmt.2)⟩ (by show 0 ≤ (I 0 35).toInt ∧ (I 0 35).toInt ≤ (I 0 34).toInt ∧ (I 0 34).toInt ≤ (I 0 33).toInt ∧ (I 0 33).toInt ≤ 500 ∧ ((I 0 36).toInt = 0 ∨ (I 0 35).toInt + 1 ≤ (I 0 34).toInt); first | omega | decide) 125 _) (cwV 1 hts gX12_test_X12_must rfl rfl rfl (by decide +kernel) ⟨Nat.le_of_ble_eq_true rfl, Nat.le_of_ble_eq_true rfl⟩) (z_preV (i := 0) hK hW rfl rfl) rfl rfl hl.1 rfl (lv_room (Nat.le_of_ble_eq_true rfl)) dX12_test_132 ⟨Nat.le_of_ble_eq_true rfl, Nat.le_of_ble_eq_true rfl⟩) (fun u1 H locs hp hW hS => ?_)
        obtain ⟨I216, J218, e9, hI216mp, hI216mt, hI216rp, fI216, hp⟩ := hp
        rw [e9] at hW
        have f217 := z_fr_sub (L := L_X12_test) z_fr_0 fI216 (by decide)
        have k219 : 0 ≤ (I216 0 47).toInt ∧ (I216 0 47).toInt ≤ 119 := by rw [fI216 0 47 (by decide)]; exact (by show 0 ≤ (I 0 47).toInt ∧ (I 0 47).toInt ≤ 119; exact hmd.1)
        have k220 : 0 ≤ (I216 0 39).toInt ∧ (I216 0 39).toInt ≤ 100 := by rw [fI216 0 39 (by decide)]; exact (by show 0 ≤ (I 0 39).toInt ∧ (I 0 39).toInt ≤ 100; exact hmd.2)
        have k221 : 0 ≤ (I216 0 40).toInt ∧ (I216 0 40).toInt ≤ 6199 := by rw [fI216 0 40 (by decide)]; exact (by show 0 ≤ (I 0 40).toInt ∧ (I 0 40).toInt ≤ 6199; exact hmg)
        have k222 : 0 ≤ (I216 0 15).toInt ∧ (I216 0 15).toInt ≤ 6100 := by rw [fI216 0 15 (by decide)]; exact (by show 0 ≤ (I 0 15).toInt ∧ (I 0 15).toInt ≤ 6100; exact hmn)
        have k223 : 0 ≤ (I216 0 35).toInt ∧ (I216 0 35).toInt ≤ (I216 0 34).toInt ∧ (I216 0 34).toInt ≤ (I216 0 33).toInt ∧ (I216 0 33).toInt ≤ 500 ∧ ((I216 0 36).toInt = 0 ∨ (I216 0 35).toInt + 1 ≤ (I216 0 34).toInt) := hI216rp
        have k224 : (I216 0 47).toInt = (I 0 47).toInt := by rw [fI216 0 47 (by decide)]
        have k225 : (I216 0 39).toInt = (I 0 39).toInt := by rw [fI216 0 39 (by decide)]
        have k226 : (I216 0 15).toInt = (I 0 15).toInt := by rw [fI216 0 15 (by decide)]
        have k227 : (I216 0 40).toInt = (I 0 40).toInt := by rw [fI216 0 40 (by decide)]
        have h228 := hp
        refine lv_aload_n hx hb dX12_test_135 rfl (lv_at hl 0 rfl) ?_
        refine lv_dup hx hb dX12_test_136 rfl ?_
        have r229 : 0 ≤ (I216 0 39).toInt ∧ (I216 0 39).toInt ≤ 100 := k220
        refine z_get (T := TX12) (N := 96) (ci := 12) (i := 0) (v := .int (I216 0 39)) hx hb hts zj_X12_test_X12 hown hK hW rfl rfl 39 (by decide) (hts (.fieldLink RX12 346 "PetrolBoardModel" "open" "I") (List.mem_of_getElem? (i := 3) rfl)) (fun _ h => h) rfl dX12_test_137 ?_
        refine lv_iconst (v := 1) hx hb dX12_test_140 (by decide) ?_
        refine lv_isub hx hb dX12_test_141 ?_
        refine lv_topi (fun x230 ex230 => ?_)
        have tx230 : x230.toInt = (I216 0 39).toInt - 1 := z_tsub ex230 rfl z_l1 (by omega) (by omega)
        refine z_put (T := TX12) (N := 96) (ci := 12) (i := 0) (v := .int x230) (I1 := z_up I216 0 39 x230) (J1 := J218) (P1 := PM ad) hx hb hts zj_X12_test_X12 tyX12 tyX12_ok nmX12 hown hK hW hS rfl rfl 39 (by decide) (hts (.fieldLink RX12 346 "PetrolBoardModel" "open" "I") (List.mem_of_getElem? (i := 3) rfl)) (fun _ h => h) rfl rfl rfl (by first | rfl | exact congrArg _ z_up_s) (fun a b h ty => z_vI h ty) dX12_test_142 (fun H locs hz1 hW hS => ?_)
        obtain ⟨I231, eI231⟩ : ∃ K : z_I, K = z_up I216 0 39 x230 := ⟨_, rfl⟩
        rw [← eI231] at hW
        have f232 := z_fr_k f217 (show z_wr L_X12_test 0 39 = true by decide) eI231
        have a233 := z_Nd_n (z_Nd_fr hNd fI216 (by decide)) (by decide) eI231
        refine lv_aload_n hx hb dX12_test_145 rfl (lv_at hl 0 rfl) ?_
        have r234 : 0 ≤ (I216 0 42).toInt ∧ (I216 0 42).toInt ≤ 1 := hI216mt.2
        refine z_get (T := TX12) (N := 96) (ci := 12) (i := 0) (v := .int (I216 0 42)) hx hb hts zj_X12_test_X12 hown hK hW rfl rfl 42 (by decide) (hts (.fieldLink RX12 294 "PetrolBoardModel" "isWrong" "Z") (List.mem_of_getElem? (i := 5) rfl)) (fun _ h => h) (congrArg Value.int (by rw [eI231, z_up_k (by decide)])) dX12_test_146 ?_
        refine lv_if_ne (tgt := 289) hx hb dX12_test_149 (by decide) (fun c235 => ?_) (fun c235 => ?_)
        · have g236 := z_f_ne rfl z_l0 c235
          exact z_vret hx hb hr hK hS (Nat.le_of_ble_eq_true rfl) (Nat.le_of_ble_eq_true rfl) hlocks dX12_test_289 (shM, ad, I231, J218, PM ad) hW ⟨I231, J218, rfl, ⟨(by show 0 ≤ (I231 0 31).toInt ∧ (I231 0 31).toInt ≤ 500; rw [eI231, z_up_k (by decide)]; exact hI216mp.1), (by show 0 ≤ (I231 0 33).toInt ∧ (I231 0 33).toInt ≤ 500; rw [eI231, z_up_k (by decide)]; exact hI216mp.2.1), (by show 0 ≤ (I231 0 34).toInt ∧ (I231 0 34).toInt ≤ 500; rw [eI231, z_up_k (by decide)]; exact hI216mp.2.2.1), (by show 0 ≤ (I231 0 35).toInt ∧ (I231 0 35).toInt ≤ 500; rw [eI231, z_up_k (by decide)]; exact hI216mp.2.2.2)⟩, ⟨(by show 0 ≤ (I231 0 36).toInt ∧ (I231 0 36).toInt ≤ 4; rw [eI231, z_up_k (by decide)]; exact hI216mt.1), (by show 0 ≤ (I231 0 42).toInt ∧ (I231 0 42).toInt ≤ 1; rw [eI231, z_up_k (by decide)]; exact hI216mt.2)⟩, ⟨(by show 0 ≤ (I231 0 47).toInt ∧ (I231 0 47).toInt ≤ 119; rw [eI231, z_up_k (by decide)]; exact k219), (by show 0 ≤ (I231 0 39).toInt ∧ (I231 0 39).toInt ≤ 100; rw [eI231, z_up_s]; omega)⟩, (by show 0 ≤ (I231 0 40).toInt ∧ (I231 0 40).toInt ≤ 6199; rw [eI231, z_up_k (by decide)]; exact k221), (by show 0 ≤ (I231 0 15).toInt ∧ (I231 0 15).toInt ≤ 6100; rw [eI231, z_up_k (by decide)]; exact k222), a233, (by have q0 : (I231 0 35) = (I216 0 35) := by rw [eI231, z_up_k (by decide)]; have q1 : (I231 0 34) = (I216 0 34) := by rw [eI231, z_up_k (by decide)]; have q2 : (I231 0 33) = (I216 0 33) := by rw [eI231, z_up_k (by decide)]; have q3 : (I231 0 36) = (I216 0 36) := by rw [eI231, z_up_k (by decide)]; show 0 ≤ (I231 0 35).toInt ∧ (I231 0 35).toInt ≤ (I231 0 34).toInt ∧ (I231 0 34).toInt ≤ (I231 0 33).toInt ∧ (I231 0 33).toInt ≤ 500 ∧ ((I231 0 36).toInt = 0 ∨ (I231 0 35).toInt + 1 ≤ (I231 0 34).toInt); rw [q0, q1, q2, q3]; first | omega | decide), f232, (Or.inl (by have q0 : (I231 0 42) = (I216 0 42) := by rw [eI231, z_up_k (by decide)]; show ¬ (I231 0 42).toInt = 0; rw [q0]; omega))⟩
        · have g237 := z_f_eq rfl z_l0 c235
          refine lv_aload_n hx hb dX12_test_152 rfl (lv_at hl 0 rfl) ?_
          refine lv_aload_n hx hb dX12_test_153 rfl (lv_at hl 0 rfl) ?_
          have r238 : 0 ≤ (I216 0 40).toInt ∧ (I216 0 40).toInt ≤ 6199 := k221
          refine z_get (T := TX12) (N := 96) (ci := 12) (i := 0) (v := .int (I216 0 40)) hx hb hts zj_X12_test_X12 hown hK hW rfl rfl 40 (by decide) (hts (.fieldLink RX12 343 "PetrolBoardModel" "got" "I") (List.mem_of_getElem? (i := 4) rfl)) (fun _ h => h) (congrArg Value.int (by rw [eI231, z_up_k (by decide)])) dX12_test_154 ?_
          refine z_cv hW hS hA (va_runV (As := [.int (I216 0 40)]) (rest := []) ⟨hx, hb, hml, hown, hts⟩ (sx_X12_ends l G ad I231 J218 ⟨(by show 0 ≤ (I231 0 47).toInt ∧ (I231 0 47).toInt ≤ 119; rw [eI231, z_up_k (by decide)]; exact k219), (by show 0 ≤ (I231 0 39).toInt ∧ (I231 0 39).toInt ≤ 100; rw [eI231, z_up_s]; omega)⟩ (by show 0 ≤ (I231 0 40).toInt ∧ (I231 0 40).toInt ≤ 6199; rw [eI231, z_up_k (by decide)]; exact k221) (I216 0 40) (by first | omega | decide) (by have q0 : (I231 0 47) = (I216 0 47) := by rw [eI231, z_up_k (by decide)]; show 1 ≤ (I231 0 47).toInt; rw [q0]; omega) _) (cwV 1 hts gX12_test_X12_ends rfl rfl rfl (by decide +kernel) ⟨Nat.le_of_ble_eq_true rfl, Nat.le_of_ble_eq_true rfl⟩) (z_preV (i := 0) hK hW rfl rfl) rfl rfl hl.1 rfl (lv_room (Nat.le_of_ble_eq_true rfl)) dX12_test_157 ⟨Nat.le_of_ble_eq_true rfl, Nat.le_of_ble_eq_true rfl⟩) (fun u1 H locs hp hW hS => ?_)
          obtain ⟨I239, J241, e9, hI239md, hI239mg, fI239, hp⟩ := hp
          rw [e9] at hW
          have f240 := z_fr_sub (L := L_X12_test) f232 fI239 (by decide)
          have k242 : 0 ≤ (I239 0 31).toInt ∧ (I239 0 31).toInt ≤ 500 := by rw [fI239 0 31 (by decide)]; exact (by show 0 ≤ (I231 0 31).toInt ∧ (I231 0 31).toInt ≤ 500; rw [eI231, z_up_k (by decide)]; exact hI216mp.1)
          have k243 : 0 ≤ (I239 0 33).toInt ∧ (I239 0 33).toInt ≤ 500 := by rw [fI239 0 33 (by decide)]; exact (by show 0 ≤ (I231 0 33).toInt ∧ (I231 0 33).toInt ≤ 500; rw [eI231, z_up_k (by decide)]; exact hI216mp.2.1)
          have k244 : 0 ≤ (I239 0 34).toInt ∧ (I239 0 34).toInt ≤ 500 := by rw [fI239 0 34 (by decide)]; exact (by show 0 ≤ (I231 0 34).toInt ∧ (I231 0 34).toInt ≤ 500; rw [eI231, z_up_k (by decide)]; exact hI216mp.2.2.1)
          have k245 : 0 ≤ (I239 0 35).toInt ∧ (I239 0 35).toInt ≤ 500 := by rw [fI239 0 35 (by decide)]; exact (by show 0 ≤ (I231 0 35).toInt ∧ (I231 0 35).toInt ≤ 500; rw [eI231, z_up_k (by decide)]; exact hI216mp.2.2.2)
          have k246 : 0 ≤ (I239 0 36).toInt ∧ (I239 0 36).toInt ≤ 4 := by rw [fI239 0 36 (by decide)]; exact (by show 0 ≤ (I231 0 36).toInt ∧ (I231 0 36).toInt ≤ 4; rw [eI231, z_up_k (by decide)]; exact hI216mt.1)
          have k247 : 0 ≤ (I239 0 42).toInt ∧ (I239 0 42).toInt ≤ 1 := by rw [fI239 0 42 (by decide)]; exact (by show 0 ≤ (I231 0 42).toInt ∧ (I231 0 42).toInt ≤ 1; rw [eI231, z_up_k (by decide)]; exact hI216mt.2)
          have k248 : (I239 0 39).toInt = x230.toInt := by rw [fI239 0 39 (by decide), eI231, z_up_s]
          have k249 : 0 ≤ (I239 0 15).toInt ∧ (I239 0 15).toInt ≤ 6100 := by rw [fI239 0 15 (by decide)]; exact (by show 0 ≤ (I231 0 15).toInt ∧ (I231 0 15).toInt ≤ 6100; rw [eI231, z_up_k (by decide)]; exact k222)
          have k250 : 0 ≤ (I239 0 35).toInt ∧ (I239 0 35).toInt ≤ (I239 0 34).toInt ∧ (I239 0 34).toInt ≤ (I239 0 33).toInt ∧ (I239 0 33).toInt ≤ 500 ∧ ((I239 0 36).toInt = 0 ∨ (I239 0 35).toInt + 1 ≤ (I239 0 34).toInt) := (by have q0 : (I239 0 35) = (I216 0 35) := by rw [fI239 0 35 (by decide), eI231, z_up_k (by decide)]; have q1 : (I239 0 34) = (I216 0 34) := by rw [fI239 0 34 (by decide), eI231, z_up_k (by decide)]; have q2 : (I239 0 33) = (I216 0 33) := by rw [fI239 0 33 (by decide), eI231, z_up_k (by decide)]; have q3 : (I239 0 36) = (I216 0 36) := by rw [fI239 0 36 (by decide), eI231, z_up_k (by decide)]; show 0 ≤ (I239 0 35).toInt ∧ (I239 0 35).toInt ≤ (I239 0 34).toInt ∧ (I239 0 34).toInt ≤ (I239 0 33).toInt ∧ (I239 0 33).toInt ≤ 500 ∧ ((I239 0 36).toInt = 0 ∨ (I239 0 35).toInt + 1 ≤ (I239 0 34).toInt); rw [q0, q1, q2, q3]; first | omega | decide)
          have k251 : (I239 0 35).toInt = (I216 0 35).toInt := by rw [fI239 0 35 (by decide), eI231, z_up_k (by decide)]
          have k252 : (I239 0 34).toInt = (I216 0 34).toInt := by rw [fI239 0 34 (by decide), eI231, z_up_k (by decide)]
          have k253 : (I239 0 36).toInt = (I216 0 36).toInt := by rw [fI239 0 36 (by decide), eI231, z_up_k (by decide)]
          have k254 : (I239 0 42).toInt = (I216 0 42).toInt := by rw [fI239 0 42 (by decide), eI231, z_up_k (by decide)]
          have k255 : (I239 0 39).toInt = x230.toInt := by rw [fI239 0 39 (by decide), eI231, z_up_s]
          have k256 : (I239 0 15).toInt = (I216 0 15).toInt := by rw [fI239 0 15 (by decide), eI231, z_up_k (by decide)]
          have h257 := hp
          rw [show (I231 0 47) = (I216 0 47) from by rw [eI231, z_up_k (by decide)]] at h257
          refine lv_goto (tgt := 289) hx hb dX12_test_160 (by decide) ?_
          exact z_vret hx hb hr hK hS (Nat.le_of_ble_eq_true rfl) (Nat.le_of_ble_eq_true rfl) hlocks dX12_test_289 (shM, ad, I239, J241, PM ad) hW ⟨I239, J241, rfl, ⟨(by show 0 ≤ (I239 0 31).toInt ∧ (I239 0 31).toInt ≤ 500; exact k242), (by show 0 ≤ (I239 0 33).toInt ∧ (I239 0 33).toInt ≤ 500; exact k243), (by show 0 ≤ (I239 0 34).toInt ∧ (I239 0 34).toInt ≤ 500; exact k244), (by show 0 ≤ (I239 0 35).toInt ∧ (I239 0 35).toInt ≤ 500; exact k245)⟩, ⟨(by show 0 ≤ (I239 0 36).toInt ∧ (I239 0 36).toInt ≤ 4; exact k246), (by show 0 ≤ (I239 0 42).toInt ∧ (I239 0 42).toInt ≤ 1; exact k247)⟩, ⟨(by show 0 ≤ (I239 0 47).toInt ∧ (I239 0 47).toInt ≤ 119; exact hI239md.1), (by show 0 ≤ (I239 0 39).toInt ∧ (I239 0 39).toInt ≤ 100; exact hI239md.2)⟩, (by show 0 ≤ (I239 0 40).toInt ∧ (I239 0 40).toInt ≤ 6199; exact hI239mg), (by show 0 ≤ (I239 0 15).toInt ∧ (I239 0 15).toInt ≤ 6100; exact k249), (z_Nd_fr a233 fI239 (by decide)), (by show 0 ≤ (I239 0 35).toInt ∧ (I239 0 35).toInt ≤ (I239 0 34).toInt ∧ (I239 0 34).toInt ≤ (I239 0 33).toInt ∧ (I239 0 33).toInt ≤ 500 ∧ ((I239 0 36).toInt = 0 ∨ (I239 0 35).toInt + 1 ≤ (I239 0 34).toInt); first | omega | decide), f240, ((Classical.em ((I239 0 42).toInt = 0)).elim (fun hw9 => Or.inr ⟨a1.toNatClampNeg, by have w1 := z_fw_523 (a := va.toInt) (o := vo.toInt) (by omega); have w2 := z_fo_5y (a := va.toInt) (by omega); exact z_POP (d := a1.toNatClampNeg) hPS (fun i hi => ⟨by rw [fI239 26 i (z_wr_c (by decide)), eI231, z_up_n (by decide), fI216 26 i (z_wr_c (by decide))], by rw [fI239 27 i (z_wr_c (by decide)), eI231, z_up_n (by decide), fI216 27 i (z_wr_c (by decide))], by rw [fI239 28 i (z_wr_c (by decide)), eI231, z_up_n (by decide), fI216 28 i (z_wr_c (by decide))], by rw [fI239 29 i (z_wr_c (by decide)), eI231, z_up_n (by decide), fI216 29 i (z_wr_c (by decide))]⟩) (by omega) (by omega) (by omega) (by omega) (by omega) (by omega)⟩) Or.inl)⟩
    · have g258 := z_f_eq rfl z_l1 c3
      refine lv_aload_n hx hb dX12_test_91 rfl (lv_at hl 0 rfl) ?_
      refine lv_dup hx hb dX12_test_92 rfl ?_
      have r259 : 0 ≤ (I 0 39).toInt ∧ (I 0 39).toInt ≤ 100 := hmd.2
      refine z_get (T := TX12) (N := 96) (ci := 12) (i := 0) (v := .int (I 0 39)) hx hb hts zj_X12_test_X12 hown hK hW rfl rfl 39 (by decide) (hts (.fieldLink RX12 346 "PetrolBoardModel" "open" "I") (List.mem_of_getElem? (i := 3) rfl)) (fun _ h => h) rfl dX12_test_93 ?_
      refine lv_iconst (v := 1) hx hb dX12_test_96 (by decide) ?_
      refine lv_isub hx hb dX12_test_97 ?_
      refine lv_topi (fun x260 ex260 => ?_)
      have tx260 : x260.toInt = (I 0 39).toInt - 1 := z_tsub ex260 rfl z_l1 (by omega) (by omega)
      refine z_put (T := TX12) (N := 96) (ci := 12) (i := 0) (v := .int x260) (I1 := z_up I 0 39 x260) (J1 := J) (P1 := PM ad) hx hb hts zj_X12_test_X12 tyX12 tyX12_ok nmX12 hown hK hW hS rfl rfl 39 (by decide) (hts (.fieldLink RX12 346 "PetrolBoardModel" "open" "I") (List.mem_of_getElem? (i := 3) rfl)) (fun _ h => h) rfl rfl rfl (by first | rfl | exact congrArg _ z_up_s) (fun a b h ty => z_vI h ty) dX12_test_98 (fun H locs hz1 hW hS => ?_)
      obtain ⟨I261, eI261⟩ : ∃ K : z_I, K = z_up I 0 39 x260 := ⟨_, rfl⟩
      rw [← eI261] at hW
      have f262 := z_fr_k z_fr_0 (show z_wr L_X12_test 0 39 = true by decide) eI261
      have a263 := z_Nd_n hNd (by decide) eI261
      refine lv_aload_n hx hb dX12_test_101 rfl (lv_at hl 0 rfl) ?_
      refine lv_aload_n hx hb dX12_test_102 rfl (lv_at hl 0 rfl) ?_
      refine lv_bipush (v := 11) hx hb dX12_test_103 (by decide) ?_
      refine lv_aload_n hx hb dX12_test_105 rfl (lv_at hl 0 rfl) ?_
      have r264 : 0 ≤ (I 0 40).toInt ∧ (I 0 40).toInt ≤ 6199 := hmg
      refine z_get (T := TX12) (N := 96) (ci := 12) (i := 0) (v := .int (I 0 40)) hx hb hts zj_X12_test_X12 hown hK hW rfl rfl 40 (by decide) (hts (.fieldLink RX12 343 "PetrolBoardModel" "got" "I") (List.mem_of_getElem? (i := 4) rfl)) (fun _ h => h) (congrArg Value.int (by rw [eI261, z_up_k (by decide)])) dX12_test_106 ?_
      refine lv_iconst (v := 0) hx hb dX12_test_109 (by decide) ?_
      refine z_ci hW hS hA (va_runV (As := [.int 11, .int (I 0 40), .int 0]) (rest := [.ref (ad 0)]) ⟨hx, hb, hml, hown, hts⟩ (sx_X12_node l G ad I261 J (by show 0 ≤ (I261 0 15).toInt ∧ (I261 0 15).toInt ≤ 6100; rw [eI261, z_up_k (by decide)]; exact hmn) a263 11 (I 0 40) 0 (by have q0 : (I261 0 15) = (I 0 15) := by rw [eI261, z_up_k (by decide)]; show (I261 0 15).toInt ≤ 6099; rw [q0]; omega) (by have := z_l11; have := z_l0; first | omega | decide) (by have := z_l11; have := z_l0; first | omega | decide) (by have := z_l11; have := z_l0; first | omega | decide) _) (cwV 3 hts gX12_test_X12_node rfl rfl rfl (by decide +kernel) ⟨Nat.le_of_ble_eq_true rfl, Nat.le_of_ble_eq_true rfl⟩) (z_preV (i := 0) hK hW rfl rfl) rfl rfl hl.1 rfl (lv_room (Nat.le_of_ble_eq_true rfl)) dX12_test_110 ⟨Nat.le_of_ble_eq_true rfl, Nat.le_of_ble_eq_true rfl⟩) (fun r u1 H locs hp hW hS => ?_)
      obtain ⟨I265, J267, e9, hI265mn, hI265Nd, fI265, hp⟩ := hp
      rw [e9] at hW
      have f266 := z_fr_sub (L := L_X12_test) f262 fI265 (by decide)
      have k268 : 0 ≤ (I265 0 31).toInt ∧ (I265 0 31).toInt ≤ 500 := by rw [fI265 0 31 (by decide)]; exact (by show 0 ≤ (I261 0 31).toInt ∧ (I261 0 31).toInt ≤ 500; rw [eI261, z_up_k (by decide)]; exact hmp.1)
      have k269 : 0 ≤ (I265 0 33).toInt ∧ (I265 0 33).toInt ≤ 500 := by rw [fI265 0 33 (by decide)]; exact (by show 0 ≤ (I261 0 33).toInt ∧ (I261 0 33).toInt ≤ 500; rw [eI261, z_up_k (by decide)]; exact hmp.2.1)
      have k270 : 0 ≤ (I265 0 34).toInt ∧ (I265 0 34).toInt ≤ 500 := by rw [fI265 0 34 (by decide)]; exact (by show 0 ≤ (I261 0 34).toInt ∧ (I261 0 34).toInt ≤ 500; rw [eI261, z_up_k (by decide)]; exact hmp.2.2.1)
      have k271 : 0 ≤ (I265 0 35).toInt ∧ (I265 0 35).toInt ≤ 500 := by rw [fI265 0 35 (by decide)]; exact (by show 0 ≤ (I261 0 35).toInt ∧ (I261 0 35).toInt ≤ 500; rw [eI261, z_up_k (by decide)]; exact hmp.2.2.2)
      have k272 : 0 ≤ (I265 0 36).toInt ∧ (I265 0 36).toInt ≤ 4 := by rw [fI265 0 36 (by decide)]; exact (by show 0 ≤ (I261 0 36).toInt ∧ (I261 0 36).toInt ≤ 4; rw [eI261, z_up_k (by decide)]; exact hmt.1)
      have k273 : 0 ≤ (I265 0 42).toInt ∧ (I265 0 42).toInt ≤ 1 := by rw [fI265 0 42 (by decide)]; exact (by show 0 ≤ (I261 0 42).toInt ∧ (I261 0 42).toInt ≤ 1; rw [eI261, z_up_k (by decide)]; exact hmt.2)
      have k274 : 0 ≤ (I265 0 47).toInt ∧ (I265 0 47).toInt ≤ 119 := by rw [fI265 0 47 (by decide)]; exact (by show 0 ≤ (I261 0 47).toInt ∧ (I261 0 47).toInt ≤ 119; rw [eI261, z_up_k (by decide)]; exact hmd.1)
      have k275 : 0 ≤ (I265 0 39).toInt ∧ (I265 0 39).toInt ≤ 100 := by rw [fI265 0 39 (by decide)]; exact (by show 0 ≤ (I261 0 39).toInt ∧ (I261 0 39).toInt ≤ 100; rw [eI261, z_up_s]; omega)
      have k276 : 0 ≤ (I265 0 40).toInt ∧ (I265 0 40).toInt ≤ 6199 := by rw [fI265 0 40 (by decide)]; exact (by show 0 ≤ (I261 0 40).toInt ∧ (I261 0 40).toInt ≤ 6199; rw [eI261, z_up_k (by decide)]; exact hmg)
      have k277 : 0 ≤ (I265 0 35).toInt ∧ (I265 0 35).toInt ≤ (I265 0 34).toInt ∧ (I265 0 34).toInt ≤ (I265 0 33).toInt ∧ (I265 0 33).toInt ≤ 500 ∧ ((I265 0 36).toInt = 0 ∨ (I265 0 35).toInt + 1 ≤ (I265 0 34).toInt) := (by have q0 : (I265 0 35) = (I 0 35) := by rw [fI265 0 35 (by decide), eI261, z_up_k (by decide)]; have q1 : (I265 0 34) = (I 0 34) := by rw [fI265 0 34 (by decide), eI261, z_up_k (by decide)]; have q2 : (I265 0 33) = (I 0 33) := by rw [fI265 0 33 (by decide), eI261, z_up_k (by decide)]; have q3 : (I265 0 36) = (I 0 36) := by rw [fI265 0 36 (by decide), eI261, z_up_k (by decide)]; show 0 ≤ (I265 0 35).toInt ∧ (I265 0 35).toInt ≤ (I265 0 34).toInt ∧ (I265 0 34).toInt ≤ (I265 0 33).toInt ∧ (I265 0 33).toInt ≤ 500 ∧ ((I265 0 36).toInt = 0 ∨ (I265 0 35).toInt + 1 ≤ (I265 0 34).toInt); rw [q0, q1, q2, q3]; first | omega | decide)
      have k278 : (I265 0 35).toInt = (I 0 35).toInt := by rw [fI265 0 35 (by decide), eI261, z_up_k (by decide)]
      have k279 : (I265 0 34).toInt = (I 0 34).toInt := by rw [fI265 0 34 (by decide), eI261, z_up_k (by decide)]
      have k280 : (I265 0 36).toInt = (I 0 36).toInt := by rw [fI265 0 36 (by decide), eI261, z_up_k (by decide)]
      have k281 : (I265 0 42).toInt = (I 0 42).toInt := by rw [fI265 0 42 (by decide), eI261, z_up_k (by decide)]
      have k282 : (I265 0 47).toInt = (I 0 47).toInt := by rw [fI265 0 47 (by decide), eI261, z_up_k (by decide)]
      have k283 : (I265 0 39).toInt = x260.toInt := by rw [fI265 0 39 (by decide), eI261, z_up_s]
      have k284 : (I265 0 40).toInt = (I 0 40).toInt := by rw [fI265 0 40 (by decide), eI261, z_up_k (by decide)]
      refine lv_topi (fun x285 ex285 => ?_)
      rw [← ex285] at hp
      obtain ⟨h286, h287⟩ := hp
      rw [show (I261 0 15) = (I 0 15) from by rw [eI261, z_up_k (by decide)]] at h286
      rw [show (I261 0 15) = (I 0 15) from by rw [eI261, z_up_k (by decide)]] at h287
      refine z_cv hW hS hA (va_runV (As := [.int x285]) (rest := []) ⟨hx, hb, hml, hown, hts⟩ (sx_X12_ends l G ad I265 J267 ⟨(by show 0 ≤ (I265 0 47).toInt ∧ (I265 0 47).toInt ≤ 119; exact k274), (by show 0 ≤ (I265 0 39).toInt ∧ (I265 0 39).toInt ≤ 100; exact k275)⟩ (by show 0 ≤ (I265 0 40).toInt ∧ (I265 0 40).toInt ≤ 6199; exact k276) x285 (by first | omega | decide) (by show 1 ≤ (I265 0 47).toInt; omega) _) (cwV 1 hts gX12_test_X12_ends rfl rfl rfl (by decide +kernel) ⟨Nat.le_of_ble_eq_true rfl, Nat.le_of_ble_eq_true rfl⟩) (z_preV (i := 0) hK hW rfl rfl) rfl rfl hl.1 rfl (lv_room (Nat.le_of_ble_eq_true rfl)) dX12_test_113 ⟨Nat.le_of_ble_eq_true rfl, Nat.le_of_ble_eq_true rfl⟩) (fun u1 H locs hp hW hS => ?_)
      obtain ⟨I288, J290, e9, hI288md, hI288mg, fI288, hp⟩ := hp
      rw [e9] at hW
      have f289 := z_fr_sub (L := L_X12_test) f266 fI288 (by decide)
      have k291 : 0 ≤ (I288 0 31).toInt ∧ (I288 0 31).toInt ≤ 500 := by rw [fI288 0 31 (by decide)]; exact (by show 0 ≤ (I265 0 31).toInt ∧ (I265 0 31).toInt ≤ 500; exact k268)
      have k292 : 0 ≤ (I288 0 33).toInt ∧ (I288 0 33).toInt ≤ 500 := by rw [fI288 0 33 (by decide)]; exact (by show 0 ≤ (I265 0 33).toInt ∧ (I265 0 33).toInt ≤ 500; exact k269)
      have k293 : 0 ≤ (I288 0 34).toInt ∧ (I288 0 34).toInt ≤ 500 := by rw [fI288 0 34 (by decide)]; exact (by show 0 ≤ (I265 0 34).toInt ∧ (I265 0 34).toInt ≤ 500; exact k270)
      have k294 : 0 ≤ (I288 0 35).toInt ∧ (I288 0 35).toInt ≤ 500 := by rw [fI288 0 35 (by decide)]; exact (by show 0 ≤ (I265 0 35).toInt ∧ (I265 0 35).toInt ≤ 500; exact k271)
      have k295 : 0 ≤ (I288 0 36).toInt ∧ (I288 0 36).toInt ≤ 4 := by rw [fI288 0 36 (by decide)]; exact (by show 0 ≤ (I265 0 36).toInt ∧ (I265 0 36).toInt ≤ 4; exact k272)
      have k296 : 0 ≤ (I288 0 42).toInt ∧ (I288 0 42).toInt ≤ 1 := by rw [fI288 0 42 (by decide)]; exact (by show 0 ≤ (I265 0 42).toInt ∧ (I265 0 42).toInt ≤ 1; exact k273)
      have k297 : 0 ≤ (I288 0 15).toInt ∧ (I288 0 15).toInt ≤ 6100 := by rw [fI288 0 15 (by decide)]; exact (by show 0 ≤ (I265 0 15).toInt ∧ (I265 0 15).toInt ≤ 6100; exact hI265mn)
      have k298 : 0 ≤ (I288 0 35).toInt ∧ (I288 0 35).toInt ≤ (I288 0 34).toInt ∧ (I288 0 34).toInt ≤ (I288 0 33).toInt ∧ (I288 0 33).toInt ≤ 500 ∧ ((I288 0 36).toInt = 0 ∨ (I288 0 35).toInt + 1 ≤ (I288 0 34).toInt) := (by have q0 : (I288 0 35) = (I265 0 35) := by rw [fI288 0 35 (by decide)]; have q1 : (I288 0 34) = (I265 0 34) := by rw [fI288 0 34 (by decide)]; have q2 : (I288 0 33) = (I265 0 33) := by rw [fI288 0 33 (by decide)]; have q3 : (I288 0 36) = (I265 0 36) := by rw [fI288 0 36 (by decide)]; show 0 ≤ (I288 0 35).toInt ∧ (I288 0 35).toInt ≤ (I288 0 34).toInt ∧ (I288 0 34).toInt ≤ (I288 0 33).toInt ∧ (I288 0 33).toInt ≤ 500 ∧ ((I288 0 36).toInt = 0 ∨ (I288 0 35).toInt + 1 ≤ (I288 0 34).toInt); rw [q0, q1, q2, q3]; first | omega | decide)
      have k299 : (I288 0 35).toInt = (I265 0 35).toInt := by rw [fI288 0 35 (by decide)]
      have k300 : (I288 0 34).toInt = (I265 0 34).toInt := by rw [fI288 0 34 (by decide)]
      have k301 : (I288 0 36).toInt = (I265 0 36).toInt := by rw [fI288 0 36 (by decide)]
      have k302 : (I288 0 42).toInt = (I265 0 42).toInt := by rw [fI288 0 42 (by decide)]
      have k303 : (I288 0 39).toInt = (I265 0 39).toInt := by rw [fI288 0 39 (by decide)]
      have k304 : (I288 0 15).toInt = (I265 0 15).toInt := by rw [fI288 0 15 (by decide)]
      have h305 := hp
      refine lv_goto (tgt := 289) hx hb dX12_test_116 (by decide) ?_
      exact z_vret hx hb hr hK hS (Nat.le_of_ble_eq_true rfl) (Nat.le_of_ble_eq_true rfl) hlocks dX12_test_289 (shM, ad, I288, J290, PM ad) hW ⟨I288, J290, rfl, ⟨(by show 0 ≤ (I288 0 31).toInt ∧ (I288 0 31).toInt ≤ 500; exact k291), (by show 0 ≤ (I288 0 33).toInt ∧ (I288 0 33).toInt ≤ 500; exact k292), (by show 0 ≤ (I288 0 34).toInt ∧ (I288 0 34).toInt ≤ 500; exact k293), (by show 0 ≤ (I288 0 35).toInt ∧ (I288 0 35).toInt ≤ 500; exact k294)⟩, ⟨(by show 0 ≤ (I288 0 36).toInt ∧ (I288 0 36).toInt ≤ 4; exact k295), (by show 0 ≤ (I288 0 42).toInt ∧ (I288 0 42).toInt ≤ 1; exact k296)⟩, ⟨(by show 0 ≤ (I288 0 47).toInt ∧ (I288 0 47).toInt ≤ 119; exact hI288md.1), (by show 0 ≤ (I288 0 39).toInt ∧ (I288 0 39).toInt ≤ 100; exact hI288md.2)⟩, (by show 0 ≤ (I288 0 40).toInt ∧ (I288 0 40).toInt ≤ 6199; exact hI288mg), (by show 0 ≤ (I288 0 15).toInt ∧ (I288 0 15).toInt ≤ 6100; exact k297), (z_Nd_fr hI265Nd fI288 (by decide)), (by show 0 ≤ (I288 0 35).toInt ∧ (I288 0 35).toInt ≤ (I288 0 34).toInt ∧ (I288 0 34).toInt ≤ (I288 0 33).toInt ∧ (I288 0 33).toInt ≤ 500 ∧ ((I288 0 36).toInt = 0 ∨ (I288 0 35).toInt + 1 ≤ (I288 0 34).toInt); first | omega | decide), f289, ((Classical.em ((I288 0 42).toInt = 0)).elim (fun hw9 => Or.inr ⟨a1.toNatClampNeg, by have w1 := z_fw_514 (a := va.toInt) (o := vo.toInt) (by omega); have w2 := z_fo_5y (a := va.toInt) (by omega); exact z_POP (d := a1.toNatClampNeg) hPS (fun i hi => ⟨by rw [fI288 26 i (z_wr_c (by decide)), fI265 26 i (z_wr_c (by decide)), eI261, z_up_n (by decide)], by rw [fI288 27 i (z_wr_c (by decide)), fI265 27 i (z_wr_c (by decide)), eI261, z_up_n (by decide)], by rw [fI288 28 i (z_wr_c (by decide)), fI265 28 i (z_wr_c (by decide)), eI261, z_up_n (by decide)], by rw [fI288 29 i (z_wr_c (by decide)), fI265 29 i (z_wr_c (by decide)), eI261, z_up_n (by decide)]⟩) (by omega) (by omega) (by omega) (by omega) (by omega) (by omega)⟩) Or.inl)⟩
  · have g306 := z_f_eq rfl z_l0 c1
    refine lv_aload_n hx hb dX12_test_9 rfl (lv_at hl 0 rfl) ?_
    refine lv_ldc2 (v := 10631) hx hb hown (hts (.constantLong RX12 394 (10631)) (List.mem_of_getElem? (i := 2) rfl)) dX12_test_10 ?_
    refine z_ci hW hS hA (va_runV (As := [.long 10631]) (rest := []) ⟨hx, hb, hml, hown, hts⟩ (sx_X12_isWord l G ad I J ⟨(by show 0 ≤ (I 0 36).toInt ∧ (I 0 36).toInt ≤ 4; exact hmt.1), (by show 0 ≤ (I 0 42).toInt ∧ (I 0 42).toInt ≤ 1; exact hmt.2)⟩ 10631 _) (cwV 1 hts gX12_test_X12_isWord rfl rfl rfl (by decide +kernel) ⟨Nat.le_of_ble_eq_true rfl, Nat.le_of_ble_eq_true rfl⟩) (z_preV (i := 0) hK hW rfl rfl) rfl rfl hl.1 rfl (lv_room (Nat.le_of_ble_eq_true rfl)) dX12_test_13 ⟨Nat.le_of_ble_eq_true rfl, Nat.le_of_ble_eq_true rfl⟩) (fun r u1 H locs hp hW hS => ?_)
    obtain ⟨e9, hp⟩ := hp
    rw [e9] at hW
    rcases hp with ⟨rfl, h307⟩ | rfl
    · have h308 : (I 0 35).toInt + 1 ≤ (I 0 34).toInt := by omega
      refine lv_if_eq (tgt := 38) hx hb dX12_test_16 (by decide) (fun c309 => absurd c309 (by decide)) (fun c309 => ?_)
      refine lv_aload_n hx hb dX12_test_19 rfl (lv_at hl 0 rfl) ?_
      refine z_cv hW hS hA (va_runV (As := []) (rest := []) ⟨hx, hb, hml, hown, hts⟩ (sx_X12_opens l G ad I J ⟨(by show 0 ≤ (I 0 31).toInt ∧ (I 0 31).toInt ≤ 500; exact hmp.1), (by show 0 ≤ (I 0 33).toInt ∧ (I 0 33).toInt ≤ 500; exact hmp.2.1), (by show 0 ≤ (I 0 34).toInt ∧ (I 0 34).toInt ≤ 500; exact hmp.2.2.1), (by show 0 ≤ (I 0 35).toInt ∧ (I 0 35).toInt ≤ 500; exact hmp.2.2.2)⟩ ⟨(by show 0 ≤ (I 0 36).toInt ∧ (I 0 36).toInt ≤ 4; exact hmt.1), (by show 0 ≤ (I 0 42).toInt ∧ (I 0 42).toInt ≤ 1; exact hmt.2)⟩ (by show 0 ≤ (I 0 35).toInt ∧ (I 0 35).toInt ≤ (I 0 34).toInt ∧ (I 0 34).toInt ≤ (I 0 33).toInt ∧ (I 0 33).toInt ≤ 500 ∧ ((I 0 36).toInt = 0 ∨ (I 0 35).toInt + 1 ≤ (I 0 34).toInt); first | omega | decide) ⟨(by show 0 ≤ (I 0 47).toInt ∧ (I 0 47).toInt ≤ 119; exact hmd.1), (by show 0 ≤ (I 0 39).toInt ∧ (I 0 39).toInt ≤ 100; exact hmd.2)⟩  (by show (I 0 39).toInt ≤ 9; omega) _) (cwV 0 hts gX12_test_X12_opens rfl rfl rfl (by decide +kernel) ⟨Nat.le_of_ble_eq_true rfl, Nat.le_of_ble_eq_true rfl⟩) (z_preV (i := 0) hK hW rfl rfl) rfl rfl hl.1 rfl (lv_room (Nat.le_of_ble_eq_true rfl)) dX12_test_20 ⟨Nat.le_of_ble_eq_true rfl, Nat.le_of_ble_eq_true rfl⟩) (fun u1 H locs hp hW hS => ?_)
      obtain ⟨I310, J312, e9, hI310mp, hI310mt, hI310rp, hI310md, fI310, hp⟩ := hp
      rw [e9] at hW
      have f311 := z_fr_sub (L := L_X12_test) z_fr_0 fI310 (by decide)
      have k313 : 0 ≤ (I310 0 40).toInt ∧ (I310 0 40).toInt ≤ 6199 := by rw [fI310 0 40 (by decide)]; exact (by show 0 ≤ (I 0 40).toInt ∧ (I 0 40).toInt ≤ 6199; exact hmg)
      have k314 : 0 ≤ (I310 0 15).toInt ∧ (I310 0 15).toInt ≤ 6100 := by rw [fI310 0 15 (by decide)]; exact (by show 0 ≤ (I 0 15).toInt ∧ (I 0 15).toInt ≤ 6100; exact hmn)
      have k315 : 0 ≤ (I310 0 35).toInt ∧ (I310 0 35).toInt ≤ (I310 0 34).toInt ∧ (I310 0 34).toInt ≤ (I310 0 33).toInt ∧ (I310 0 33).toInt ≤ 500 ∧ ((I310 0 36).toInt = 0 ∨ (I310 0 35).toInt + 1 ≤ (I310 0 34).toInt) := hI310rp
      have k316 : (I310 0 47).toInt = (I 0 47).toInt := by rw [fI310 0 47 (by decide)]
      have k317 : (I310 0 15).toInt = (I 0 15).toInt := by rw [fI310 0 15 (by decide)]
      have k318 : (I310 0 40).toInt = (I 0 40).toInt := by rw [fI310 0 40 (by decide)]
      obtain ⟨h319, h320, h321⟩ := hp
      refine lv_aload_n hx hb dX12_test_23 rfl (lv_at hl 0 rfl) ?_
      refine z_get (T := TX12) (N := 96) (ci := 12) (i := 0) (v := .ref (ad 27)) hx hb hts zj_X12_test_X12 hown hK hW rfl rfl 44 (by decide) (hts (.fieldLink RX12 94 "PetrolBoardModel" "at" "[I") (List.mem_of_getElem? (i := 1) rfl)) (fun _ h => h) rfl dX12_test_24 ?_
      refine lv_iload_n hx hb dX12_test_27 rfl (lv_at hl 1 rfl) ?_
      refine lv_iconst (v := 1) hx hb dX12_test_28 (by decide) ?_
      refine z_iast (i := 27) hx hb hK hW hS rfl (z_ix rfl (by omega) (by omega)) dX12_test_29 (fun H locs hz1 hW hS => ?_)
      obtain ⟨I322, eI322⟩ : ∃ K : z_I, K = z_up I310 27 a1.toNatClampNeg 1 := ⟨_, rfl⟩
      rw [← eI322] at hW
      have f323 := z_fr_a f311 (show z_wa L_X12_test 27 = true by decide) eI322
      have a324 := z_Nd_n (z_Nd_fr hNd fI310 (by decide)) (by decide) eI322
      refine lv_aload_n hx hb dX12_test_30 rfl (lv_at hl 0 rfl) ?_
      refine lv_iconst (v := 5) hx hb dX12_test_31 (by decide) ?_
      refine z_cv hW hS hA (va_runV (As := [.int 5]) (rest := []) ⟨hx, hb, hml, hown, hts⟩ (sx_X12_begin l G ad I322 J312 ⟨(by show 0 ≤ (I322 0 47).toInt ∧ (I322 0 47).toInt ≤ 119; rw [eI322, z_up_n (by decide)]; exact hI310md.1), (by show 0 ≤ (I322 0 39).toInt ∧ (I322 0 39).toInt ≤ 100; rw [eI322, z_up_n (by decide)]; exact hI310md.2)⟩ 5 (by have q0 : (I322 0 47) = (I310 0 47) := by rw [eI322, z_up_n (by decide)]; show (I322 0 47).toInt ≤ 118; rw [q0]; omega) _) (cwV 1 hts gX12_test_X12_begin rfl rfl rfl (by decide +kernel) ⟨Nat.le_of_ble_eq_true rfl, Nat.le_of_ble_eq_true rfl⟩) (z_preV (i := 0) hK hW rfl rfl) rfl rfl hl.1 rfl (lv_room (Nat.le_of_ble_eq_true rfl)) dX12_test_32 ⟨Nat.le_of_ble_eq_true rfl, Nat.le_of_ble_eq_true rfl⟩) (fun u1 H locs hp hW hS => ?_)
      obtain ⟨I325, J327, e9, hI325md, fI325, hp⟩ := hp
      rw [e9] at hW
      have f326 := z_fr_sub (L := L_X12_test) f323 fI325 (by decide)
      have k328 : 0 ≤ (I325 0 31).toInt ∧ (I325 0 31).toInt ≤ 500 := by rw [fI325 0 31 (by decide)]; exact (by show 0 ≤ (I322 0 31).toInt ∧ (I322 0 31).toInt ≤ 500; rw [eI322, z_up_n (by decide)]; exact hI310mp.1)
      have k329 : 0 ≤ (I325 0 33).toInt ∧ (I325 0 33).toInt ≤ 500 := by rw [fI325 0 33 (by decide)]; exact (by show 0 ≤ (I322 0 33).toInt ∧ (I322 0 33).toInt ≤ 500; rw [eI322, z_up_n (by decide)]; exact hI310mp.2.1)
      have k330 : 0 ≤ (I325 0 34).toInt ∧ (I325 0 34).toInt ≤ 500 := by rw [fI325 0 34 (by decide)]; exact (by show 0 ≤ (I322 0 34).toInt ∧ (I322 0 34).toInt ≤ 500; rw [eI322, z_up_n (by decide)]; exact hI310mp.2.2.1)
      have k331 : 0 ≤ (I325 0 35).toInt ∧ (I325 0 35).toInt ≤ 500 := by rw [fI325 0 35 (by decide)]; exact (by show 0 ≤ (I322 0 35).toInt ∧ (I322 0 35).toInt ≤ 500; rw [eI322, z_up_n (by decide)]; exact hI310mp.2.2.2)
      have k332 : 0 ≤ (I325 0 36).toInt ∧ (I325 0 36).toInt ≤ 4 := by rw [fI325 0 36 (by decide)]; exact (by show 0 ≤ (I322 0 36).toInt ∧ (I322 0 36).toInt ≤ 4; rw [eI322, z_up_n (by decide)]; exact hI310mt.1)
      have k333 : 0 ≤ (I325 0 42).toInt ∧ (I325 0 42).toInt ≤ 1 := by rw [fI325 0 42 (by decide)]; exact (by show 0 ≤ (I322 0 42).toInt ∧ (I322 0 42).toInt ≤ 1; rw [eI322, z_up_n (by decide)]; exact hI310mt.2)
      have k334 : 0 ≤ (I325 0 40).toInt ∧ (I325 0 40).toInt ≤ 6199 := by rw [fI325 0 40 (by decide)]; exact (by show 0 ≤ (I322 0 40).toInt ∧ (I322 0 40).toInt ≤ 6199; rw [eI322, z_up_n (by decide)]; exact k313)
      have k335 : 0 ≤ (I325 0 15).toInt ∧ (I325 0 15).toInt ≤ 6100 := by rw [fI325 0 15 (by decide)]; exact (by show 0 ≤ (I322 0 15).toInt ∧ (I322 0 15).toInt ≤ 6100; rw [eI322, z_up_n (by decide)]; exact k314)
      have k336 : 0 ≤ (I325 0 35).toInt ∧ (I325 0 35).toInt ≤ (I325 0 34).toInt ∧ (I325 0 34).toInt ≤ (I325 0 33).toInt ∧ (I325 0 33).toInt ≤ 500 ∧ ((I325 0 36).toInt = 0 ∨ (I325 0 35).toInt + 1 ≤ (I325 0 34).toInt) := (by have q0 : (I325 0 35) = (I310 0 35) := by rw [fI325 0 35 (by decide), eI322, z_up_n (by decide)]; have q1 : (I325 0 34) = (I310 0 34) := by rw [fI325 0 34 (by decide), eI322, z_up_n (by decide)]; have q2 : (I325 0 33) = (I310 0 33) := by rw [fI325 0 33 (by decide), eI322, z_up_n (by decide)]; have q3 : (I325 0 36) = (I310 0 36) := by rw [fI325 0 36 (by decide), eI322, z_up_n (by decide)]; show 0 ≤ (I325 0 35).toInt ∧ (I325 0 35).toInt ≤ (I325 0 34).toInt ∧ (I325 0 34).toInt ≤ (I325 0 33).toInt ∧ (I325 0 33).toInt ≤ 500 ∧ ((I325 0 36).toInt = 0 ∨ (I325 0 35).toInt + 1 ≤ (I325 0 34).toInt); rw [q0, q1, q2, q3]; first | omega | decide)
      have k337 : (I325 0 35).toInt = (I310 0 35).toInt := by rw [fI325 0 35 (by decide), eI322, z_up_n (by decide)]
      have k338 : (I325 0 34).toInt = (I310 0 34).toInt := by rw [fI325 0 34 (by decide), eI322, z_up_n (by decide)]
      have k339 : (I325 0 36).toInt = (I310 0 36).toInt := by rw [fI325 0 36 (by decide), eI322, z_up_n (by decide)]
      have k340 : (I325 0 42).toInt = (I310 0 42).toInt := by rw [fI325 0 42 (by decide), eI322, z_up_n (by decide)]
      have k341 : (I325 0 39).toInt = (I310 0 39).toInt := by rw [fI325 0 39 (by decide), eI322, z_up_n (by decide)]
      have k342 : (I325 0 15).toInt = (I310 0 15).toInt := by rw [fI325 0 15 (by decide), eI322, z_up_n (by decide)]
      have k343 : (I325 0 40).toInt = (I310 0 40).toInt := by rw [fI325 0 40 (by decide), eI322, z_up_n (by decide)]
      have h344 := hp
      refine lv_goto (tgt := 289) hx hb dX12_test_35 (by decide) ?_
      exact z_vret hx hb hr hK hS (Nat.le_of_ble_eq_true rfl) (Nat.le_of_ble_eq_true rfl) hlocks dX12_test_289 (shM, ad, I325, J327, PM ad) hW ⟨I325, J327, rfl, ⟨(by show 0 ≤ (I325 0 31).toInt ∧ (I325 0 31).toInt ≤ 500; exact k328), (by show 0 ≤ (I325 0 33).toInt ∧ (I325 0 33).toInt ≤ 500; exact k329), (by show 0 ≤ (I325 0 34).toInt ∧ (I325 0 34).toInt ≤ 500; exact k330), (by show 0 ≤ (I325 0 35).toInt ∧ (I325 0 35).toInt ≤ 500; exact k331)⟩, ⟨(by show 0 ≤ (I325 0 36).toInt ∧ (I325 0 36).toInt ≤ 4; exact k332), (by show 0 ≤ (I325 0 42).toInt ∧ (I325 0 42).toInt ≤ 1; exact k333)⟩, ⟨(by show 0 ≤ (I325 0 47).toInt ∧ (I325 0 47).toInt ≤ 119; exact hI325md.1), (by show 0 ≤ (I325 0 39).toInt ∧ (I325 0 39).toInt ≤ 100; exact hI325md.2)⟩, (by show 0 ≤ (I325 0 40).toInt ∧ (I325 0 40).toInt ≤ 6199; exact k334), (by show 0 ≤ (I325 0 15).toInt ∧ (I325 0 15).toInt ≤ 6100; exact k335), (z_Nd_fr a324 fI325 (by decide)), (by show 0 ≤ (I325 0 35).toInt ∧ (I325 0 35).toInt ≤ (I325 0 34).toInt ∧ (I325 0 34).toInt ≤ (I325 0 33).toInt ∧ (I325 0 33).toInt ≤ 500 ∧ ((I325 0 36).toInt = 0 ∨ (I325 0 35).toInt + 1 ≤ (I325 0 34).toInt); first | omega | decide), f326, ((Classical.em ((I325 0 42).toInt = 0)).elim (fun hw9 => Or.inr ⟨a1.toNatClampNeg + 2, by have w1 := z_fw_50 (a := va.toInt) (o := vo.toInt) (by omega); have w2 := z_fo_5n (a := va.toInt) (by omega); have w3 := z_fw_514 (a := 1) (o := vo.toInt) (by omega); have w4 := z_fo_5y (a := 1) (by omega); have w5 := z_fw_50 (a := 0) (o := -1) (by omega); have w6 := z_rk_5; have w7 := z_rk_5; exact z_PUSH (d := a1.toNatClampNeg) (w := 5) (a := 1) (o := vo.toInt) (s := vs.toInt) (wi := 5) hPS (fun i hi => ⟨by rw [eI322, z_up_n (by decide), fI310 26 i (z_wr_c (by decide))], by rw [eI322, z_up_k (by omega), fI310 27 i (z_wr_c (by decide))], by rw [eI322, z_up_n (by decide), fI310 28 i (z_wr_c (by decide))], by rw [eI322, z_up_n (by decide), fI310 29 i (z_wr_c (by decide))]⟩) (by rw [show I322 26 a1.toNatClampNeg = vw from (by rw [eI322, z_up_n (by decide), fI310 26 a1.toNatClampNeg (z_wr_c (by decide))]; exact evw.symm)]; exact hvw) (by rw [show I322 27 a1.toNatClampNeg = 1 from (by rw [eI322, z_up_s])]; exact z_l1) (by rw [show I322 28 a1.toNatClampNeg = vo from (by rw [eI322, z_up_n (by decide), fI310 28 a1.toNatClampNeg (z_wr_c (by decide))]; exact evo.symm)]; exact rfl) (by rw [show I322 29 a1.toNatClampNeg = vs from (by rw [eI322, z_up_n (by decide), fI310 29 a1.toNatClampNeg (z_wr_c (by decide))]; exact evs.symm)]; exact rfl) (by unfold z_fv; omega) hwd (by rw [eI322, z_up_n (by decide)]; omega) h344 z_l5 (by omega) (by omega) (by omega) (by omega) (by omega) (by omega) (by omega) (by omega)⟩) Or.inl)⟩
    · refine lv_if_eq (tgt := 38) hx hb dX12_test_16 (by decide) (fun c345 => ?_) (fun c345 => absurd (by decide) c345)
      refine lv_aload_n hx hb dX12_test_38 rfl (lv_at hl 0 rfl) ?_
      refine lv_bipush (v := 123) hx hb dX12_test_39 (by decide) ?_
      refine z_ci hW hS hA (va_runV (As := [.int 123]) (rest := []) ⟨hx, hb, hml, hown, hts⟩ (sx_X12_isSign l G ad I J ⟨(by show 0 ≤ (I 0 36).toInt ∧ (I 0 36).toInt ≤ 4; exact hmt.1), (by show 0 ≤ (I 0 42).toInt ∧ (I 0 42).toInt ≤ 1; exact hmt.2)⟩ 123 _) (cwV 1 hts gX12_test_X12_isSign rfl rfl rfl (by decide +kernel) ⟨Nat.le_of_ble_eq_true rfl, Nat.le_of_ble_eq_true rfl⟩) (z_preV (i := 0) hK hW rfl rfl) rfl rfl hl.1 rfl (lv_room (Nat.le_of_ble_eq_true rfl)) dX12_test_41 ⟨Nat.le_of_ble_eq_true rfl, Nat.le_of_ble_eq_true rfl⟩) (fun r u1 H locs hp hW hS => ?_)
      obtain ⟨e9, hp⟩ := hp
      rw [e9] at hW
      rcases hp with ⟨rfl, h346⟩ | rfl
      · have h347 : (I 0 35).toInt + 1 ≤ (I 0 34).toInt := by omega
        refine lv_if_eq (tgt := 66) hx hb dX12_test_44 (by decide) (fun c348 => absurd c348 (by decide)) (fun c348 => ?_)
        refine lv_aload_n hx hb dX12_test_47 rfl (lv_at hl 0 rfl) ?_
        refine z_cv hW hS hA (va_runV (As := []) (rest := []) ⟨hx, hb, hml, hown, hts⟩ (sx_X12_opens l G ad I J ⟨(by show 0 ≤ (I 0 31).toInt ∧ (I 0 31).toInt ≤ 500; exact hmp.1), (by show 0 ≤ (I 0 33).toInt ∧ (I 0 33).toInt ≤ 500; exact hmp.2.1), (by show 0 ≤ (I 0 34).toInt ∧ (I 0 34).toInt ≤ 500; exact hmp.2.2.1), (by show 0 ≤ (I 0 35).toInt ∧ (I 0 35).toInt ≤ 500; exact hmp.2.2.2)⟩ ⟨(by show 0 ≤ (I 0 36).toInt ∧ (I 0 36).toInt ≤ 4; exact hmt.1), (by show 0 ≤ (I 0 42).toInt ∧ (I 0 42).toInt ≤ 1; exact hmt.2)⟩ (by show 0 ≤ (I 0 35).toInt ∧ (I 0 35).toInt ≤ (I 0 34).toInt ∧ (I 0 34).toInt ≤ (I 0 33).toInt ∧ (I 0 33).toInt ≤ 500 ∧ ((I 0 36).toInt = 0 ∨ (I 0 35).toInt + 1 ≤ (I 0 34).toInt); first | omega | decide) ⟨(by show 0 ≤ (I 0 47).toInt ∧ (I 0 47).toInt ≤ 119; exact hmd.1), (by show 0 ≤ (I 0 39).toInt ∧ (I 0 39).toInt ≤ 100; exact hmd.2)⟩  (by show (I 0 39).toInt ≤ 9; omega) _) (cwV 0 hts gX12_test_X12_opens rfl rfl rfl (by decide +kernel) ⟨Nat.le_of_ble_eq_true rfl, Nat.le_of_ble_eq_true rfl⟩) (z_preV (i := 0) hK hW rfl rfl) rfl rfl hl.1 rfl (lv_room (Nat.le_of_ble_eq_true rfl)) dX12_test_48 ⟨Nat.le_of_ble_eq_true rfl, Nat.le_of_ble_eq_true rfl⟩) (fun u1 H locs hp hW hS => ?_)
        obtain ⟨I349, J351, e9, hI349mp, hI349mt, hI349rp, hI349md, fI349, hp⟩ := hp
        rw [e9] at hW
        have f350 := z_fr_sub (L := L_X12_test) z_fr_0 fI349 (by decide)
        have k352 : 0 ≤ (I349 0 40).toInt ∧ (I349 0 40).toInt ≤ 6199 := by rw [fI349 0 40 (by decide)]; exact (by show 0 ≤ (I 0 40).toInt ∧ (I 0 40).toInt ≤ 6199; exact hmg)
        have k353 : 0 ≤ (I349 0 15).toInt ∧ (I349 0 15).toInt ≤ 6100 := by rw [fI349 0 15 (by decide)]; exact (by show 0 ≤ (I 0 15).toInt ∧ (I 0 15).toInt ≤ 6100; exact hmn)
        have k354 : 0 ≤ (I349 0 35).toInt ∧ (I349 0 35).toInt ≤ (I349 0 34).toInt ∧ (I349 0 34).toInt ≤ (I349 0 33).toInt ∧ (I349 0 33).toInt ≤ 500 ∧ ((I349 0 36).toInt = 0 ∨ (I349 0 35).toInt + 1 ≤ (I349 0 34).toInt) := hI349rp
        have k355 : (I349 0 47).toInt = (I 0 47).toInt := by rw [fI349 0 47 (by decide)]
        have k356 : (I349 0 15).toInt = (I 0 15).toInt := by rw [fI349 0 15 (by decide)]
        have k357 : (I349 0 40).toInt = (I 0 40).toInt := by rw [fI349 0 40 (by decide)]
        obtain ⟨h358, h359, h360⟩ := hp
        refine lv_aload_n hx hb dX12_test_51 rfl (lv_at hl 0 rfl) ?_
        refine z_get (T := TX12) (N := 96) (ci := 12) (i := 0) (v := .ref (ad 27)) hx hb hts zj_X12_test_X12 hown hK hW rfl rfl 44 (by decide) (hts (.fieldLink RX12 94 "PetrolBoardModel" "at" "[I") (List.mem_of_getElem? (i := 1) rfl)) (fun _ h => h) rfl dX12_test_52 ?_
        refine lv_iload_n hx hb dX12_test_55 rfl (lv_at hl 1 rfl) ?_
        refine lv_iconst (v := 2) hx hb dX12_test_56 (by decide) ?_
        refine z_iast (i := 27) hx hb hK hW hS rfl (z_ix rfl (by omega) (by omega)) dX12_test_57 (fun H locs hz1 hW hS => ?_)
        obtain ⟨I361, eI361⟩ : ∃ K : z_I, K = z_up I349 27 a1.toNatClampNeg 2 := ⟨_, rfl⟩
        rw [← eI361] at hW
        have f362 := z_fr_a f350 (show z_wa L_X12_test 27 = true by decide) eI361
        have a363 := z_Nd_n (z_Nd_fr hNd fI349 (by decide)) (by decide) eI361
        refine lv_aload_n hx hb dX12_test_58 rfl (lv_at hl 0 rfl) ?_
        refine lv_iconst (v := 3) hx hb dX12_test_59 (by decide) ?_
        refine z_cv hW hS hA (va_runV (As := [.int 3]) (rest := []) ⟨hx, hb, hml, hown, hts⟩ (sx_X12_begin l G ad I361 J351 ⟨(by show 0 ≤ (I361 0 47).toInt ∧ (I361 0 47).toInt ≤ 119; rw [eI361, z_up_n (by decide)]; exact hI349md.1), (by show 0 ≤ (I361 0 39).toInt ∧ (I361 0 39).toInt ≤ 100; rw [eI361, z_up_n (by decide)]; exact hI349md.2)⟩ 3 (by have q0 : (I361 0 47) = (I349 0 47) := by rw [eI361, z_up_n (by decide)]; show (I361 0 47).toInt ≤ 118; rw [q0]; omega) _) (cwV 1 hts gX12_test_X12_begin rfl rfl rfl (by decide +kernel) ⟨Nat.le_of_ble_eq_true rfl, Nat.le_of_ble_eq_true rfl⟩) (z_preV (i := 0) hK hW rfl rfl) rfl rfl hl.1 rfl (lv_room (Nat.le_of_ble_eq_true rfl)) dX12_test_60 ⟨Nat.le_of_ble_eq_true rfl, Nat.le_of_ble_eq_true rfl⟩) (fun u1 H locs hp hW hS => ?_)
        obtain ⟨I364, J366, e9, hI364md, fI364, hp⟩ := hp
        rw [e9] at hW
        have f365 := z_fr_sub (L := L_X12_test) f362 fI364 (by decide)
        have k367 : 0 ≤ (I364 0 31).toInt ∧ (I364 0 31).toInt ≤ 500 := by rw [fI364 0 31 (by decide)]; exact (by show 0 ≤ (I361 0 31).toInt ∧ (I361 0 31).toInt ≤ 500; rw [eI361, z_up_n (by decide)]; exact hI349mp.1)
        have k368 : 0 ≤ (I364 0 33).toInt ∧ (I364 0 33).toInt ≤ 500 := by rw [fI364 0 33 (by decide)]; exact (by show 0 ≤ (I361 0 33).toInt ∧ (I361 0 33).toInt ≤ 500; rw [eI361, z_up_n (by decide)]; exact hI349mp.2.1)
        have k369 : 0 ≤ (I364 0 34).toInt ∧ (I364 0 34).toInt ≤ 500 := by rw [fI364 0 34 (by decide)]; exact (by show 0 ≤ (I361 0 34).toInt ∧ (I361 0 34).toInt ≤ 500; rw [eI361, z_up_n (by decide)]; exact hI349mp.2.2.1)
        have k370 : 0 ≤ (I364 0 35).toInt ∧ (I364 0 35).toInt ≤ 500 := by rw [fI364 0 35 (by decide)]; exact (by show 0 ≤ (I361 0 35).toInt ∧ (I361 0 35).toInt ≤ 500; rw [eI361, z_up_n (by decide)]; exact hI349mp.2.2.2)
        have k371 : 0 ≤ (I364 0 36).toInt ∧ (I364 0 36).toInt ≤ 4 := by rw [fI364 0 36 (by decide)]; exact (by show 0 ≤ (I361 0 36).toInt ∧ (I361 0 36).toInt ≤ 4; rw [eI361, z_up_n (by decide)]; exact hI349mt.1)
        have k372 : 0 ≤ (I364 0 42).toInt ∧ (I364 0 42).toInt ≤ 1 := by rw [fI364 0 42 (by decide)]; exact (by show 0 ≤ (I361 0 42).toInt ∧ (I361 0 42).toInt ≤ 1; rw [eI361, z_up_n (by decide)]; exact hI349mt.2)
        have k373 : 0 ≤ (I364 0 40).toInt ∧ (I364 0 40).toInt ≤ 6199 := by rw [fI364 0 40 (by decide)]; exact (by show 0 ≤ (I361 0 40).toInt ∧ (I361 0 40).toInt ≤ 6199; rw [eI361, z_up_n (by decide)]; exact k352)
        have k374 : 0 ≤ (I364 0 15).toInt ∧ (I364 0 15).toInt ≤ 6100 := by rw [fI364 0 15 (by decide)]; exact (by show 0 ≤ (I361 0 15).toInt ∧ (I361 0 15).toInt ≤ 6100; rw [eI361, z_up_n (by decide)]; exact k353)
        have k375 : 0 ≤ (I364 0 35).toInt ∧ (I364 0 35).toInt ≤ (I364 0 34).toInt ∧ (I364 0 34).toInt ≤ (I364 0 33).toInt ∧ (I364 0 33).toInt ≤ 500 ∧ ((I364 0 36).toInt = 0 ∨ (I364 0 35).toInt + 1 ≤ (I364 0 34).toInt) := (by have q0 : (I364 0 35) = (I349 0 35) := by rw [fI364 0 35 (by decide), eI361, z_up_n (by decide)]; have q1 : (I364 0 34) = (I349 0 34) := by rw [fI364 0 34 (by decide), eI361, z_up_n (by decide)]; have q2 : (I364 0 33) = (I349 0 33) := by rw [fI364 0 33 (by decide), eI361, z_up_n (by decide)]; have q3 : (I364 0 36) = (I349 0 36) := by rw [fI364 0 36 (by decide), eI361, z_up_n (by decide)]; show 0 ≤ (I364 0 35).toInt ∧ (I364 0 35).toInt ≤ (I364 0 34).toInt ∧ (I364 0 34).toInt ≤ (I364 0 33).toInt ∧ (I364 0 33).toInt ≤ 500 ∧ ((I364 0 36).toInt = 0 ∨ (I364 0 35).toInt + 1 ≤ (I364 0 34).toInt); rw [q0, q1, q2, q3]; first | omega | decide)
        have k376 : (I364 0 35).toInt = (I349 0 35).toInt := by rw [fI364 0 35 (by decide), eI361, z_up_n (by decide)]
        have k377 : (I364 0 34).toInt = (I349 0 34).toInt := by rw [fI364 0 34 (by decide), eI361, z_up_n (by decide)]
        have k378 : (I364 0 36).toInt = (I349 0 36).toInt := by rw [fI364 0 36 (by decide), eI361, z_up_n (by decide)]
        have k379 : (I364 0 42).toInt = (I349 0 42).toInt := by rw [fI364 0 42 (by decide), eI361, z_up_n (by decide)]
        have k380 : (I364 0 39).toInt = (I349 0 39).toInt := by rw [fI364 0 39 (by decide), eI361, z_up_n (by decide)]
        have k381 : (I364 0 15).toInt = (I349 0 15).toInt := by rw [fI364 0 15 (by decide), eI361, z_up_n (by decide)]
        have k382 : (I364 0 40).toInt = (I349 0 40).toInt := by rw [fI364 0 40 (by decide), eI361, z_up_n (by decide)]
        have h383 := hp
        refine lv_goto (tgt := 289) hx hb dX12_test_63 (by decide) ?_
        exact z_vret hx hb hr hK hS (Nat.le_of_ble_eq_true rfl) (Nat.le_of_ble_eq_true rfl) hlocks dX12_test_289 (shM, ad, I364, J366, PM ad) hW ⟨I364, J366, rfl, ⟨(by show 0 ≤ (I364 0 31).toInt ∧ (I364 0 31).toInt ≤ 500; exact k367), (by show 0 ≤ (I364 0 33).toInt ∧ (I364 0 33).toInt ≤ 500; exact k368), (by show 0 ≤ (I364 0 34).toInt ∧ (I364 0 34).toInt ≤ 500; exact k369), (by show 0 ≤ (I364 0 35).toInt ∧ (I364 0 35).toInt ≤ 500; exact k370)⟩, ⟨(by show 0 ≤ (I364 0 36).toInt ∧ (I364 0 36).toInt ≤ 4; exact k371), (by show 0 ≤ (I364 0 42).toInt ∧ (I364 0 42).toInt ≤ 1; exact k372)⟩, ⟨(by show 0 ≤ (I364 0 47).toInt ∧ (I364 0 47).toInt ≤ 119; exact hI364md.1), (by show 0 ≤ (I364 0 39).toInt ∧ (I364 0 39).toInt ≤ 100; exact hI364md.2)⟩, (by show 0 ≤ (I364 0 40).toInt ∧ (I364 0 40).toInt ≤ 6199; exact k373), (by show 0 ≤ (I364 0 15).toInt ∧ (I364 0 15).toInt ≤ 6100; exact k374), (z_Nd_fr a363 fI364 (by decide)), (by show 0 ≤ (I364 0 35).toInt ∧ (I364 0 35).toInt ≤ (I364 0 34).toInt ∧ (I364 0 34).toInt ≤ (I364 0 33).toInt ∧ (I364 0 33).toInt ≤ 500 ∧ ((I364 0 36).toInt = 0 ∨ (I364 0 35).toInt + 1 ≤ (I364 0 34).toInt); first | omega | decide), f365, ((Classical.em ((I364 0 42).toInt = 0)).elim (fun hw9 => Or.inr ⟨a1.toNatClampNeg + 2, by have w1 := z_fw_50 (a := va.toInt) (o := vo.toInt) (by omega); have w2 := z_fo_5n (a := va.toInt) (by omega); have w3 := z_fw_523 (a := 2) (o := vo.toInt) (by omega); have w4 := z_fo_5y (a := 2) (by omega); have w5 := z_fw_30 (a := 0) (o := -1) (by omega); have w6 := z_rk_5; have w7 := z_rk_3; exact z_PUSH (d := a1.toNatClampNeg) (w := 5) (a := 2) (o := vo.toInt) (s := vs.toInt) (wi := 3) hPS (fun i hi => ⟨by rw [eI361, z_up_n (by decide), fI349 26 i (z_wr_c (by decide))], by rw [eI361, z_up_k (by omega), fI349 27 i (z_wr_c (by decide))], by rw [eI361, z_up_n (by decide), fI349 28 i (z_wr_c (by decide))], by rw [eI361, z_up_n (by decide), fI349 29 i (z_wr_c (by decide))]⟩) (by rw [show I361 26 a1.toNatClampNeg = vw from (by rw [eI361, z_up_n (by decide), fI349 26 a1.toNatClampNeg (z_wr_c (by decide))]; exact evw.symm)]; exact hvw) (by rw [show I361 27 a1.toNatClampNeg = 2 from (by rw [eI361, z_up_s])]; exact z_l2) (by rw [show I361 28 a1.toNatClampNeg = vo from (by rw [eI361, z_up_n (by decide), fI349 28 a1.toNatClampNeg (z_wr_c (by decide))]; exact evo.symm)]; exact rfl) (by rw [show I361 29 a1.toNatClampNeg = vs from (by rw [eI361, z_up_n (by decide), fI349 29 a1.toNatClampNeg (z_wr_c (by decide))]; exact evs.symm)]; exact rfl) (by unfold z_fv; omega) hwd (by rw [eI361, z_up_n (by decide)]; omega) h383 z_l3 (by omega) (by omega) (by omega) (by omega) (by omega) (by omega) (by omega) (by omega)⟩) Or.inl)⟩
      · refine lv_if_eq (tgt := 66) hx hb dX12_test_44 (by decide) (fun c384 => ?_) (fun c384 => absurd (by decide) c384)
        refine lv_aload_n hx hb dX12_test_66 rfl (lv_at hl 0 rfl) ?_
        refine z_get (T := TX12) (N := 96) (ci := 12) (i := 0) (v := .ref (ad 27)) hx hb hts zj_X12_test_X12 hown hK hW rfl rfl 44 (by decide) (hts (.fieldLink RX12 94 "PetrolBoardModel" "at" "[I") (List.mem_of_getElem? (i := 1) rfl)) (fun _ h => h) rfl dX12_test_67 ?_
        refine lv_iload_n hx hb dX12_test_70 rfl (lv_at hl 1 rfl) ?_
        refine lv_iconst (v := 3) hx hb dX12_test_71 (by decide) ?_
        refine z_iast (i := 27) hx hb hK hW hS rfl (z_ix rfl (by omega) (by omega)) dX12_test_72 (fun H locs hz1 hW hS => ?_)
        obtain ⟨I385, eI385⟩ : ∃ K : z_I, K = z_up I 27 a1.toNatClampNeg 3 := ⟨_, rfl⟩
        rw [← eI385] at hW
        have f386 := z_fr_a z_fr_0 (show z_wa L_X12_test 27 = true by decide) eI385
        have a387 := z_Nd_n hNd (by decide) eI385
        refine lv_aload_n hx hb dX12_test_73 rfl (lv_at hl 0 rfl) ?_
        refine lv_iconst (v := 0) hx hb dX12_test_74 (by decide) ?_
        refine z_cv hW hS hA (va_runV (As := [.int 0]) (rest := []) ⟨hx, hb, hml, hown, hts⟩ (sx_X12_begin l G ad I385 J ⟨(by show 0 ≤ (I385 0 47).toInt ∧ (I385 0 47).toInt ≤ 119; rw [eI385, z_up_n (by decide)]; exact hmd.1), (by show 0 ≤ (I385 0 39).toInt ∧ (I385 0 39).toInt ≤ 100; rw [eI385, z_up_n (by decide)]; exact hmd.2)⟩ 0 (by have q0 : (I385 0 47) = (I 0 47) := by rw [eI385, z_up_n (by decide)]; show (I385 0 47).toInt ≤ 118; rw [q0]; omega) _) (cwV 1 hts gX12_test_X12_begin rfl rfl rfl (by decide +kernel) ⟨Nat.le_of_ble_eq_true rfl, Nat.le_of_ble_eq_true rfl⟩) (z_preV (i := 0) hK hW rfl rfl) rfl rfl hl.1 rfl (lv_room (Nat.le_of_ble_eq_true rfl)) dX12_test_75 ⟨Nat.le_of_ble_eq_true rfl, Nat.le_of_ble_eq_true rfl⟩) (fun u1 H locs hp hW hS => ?_)
        obtain ⟨I388, J390, e9, hI388md, fI388, hp⟩ := hp
        rw [e9] at hW
        have f389 := z_fr_sub (L := L_X12_test) f386 fI388 (by decide)
        have k391 : 0 ≤ (I388 0 31).toInt ∧ (I388 0 31).toInt ≤ 500 := by rw [fI388 0 31 (by decide)]; exact (by show 0 ≤ (I385 0 31).toInt ∧ (I385 0 31).toInt ≤ 500; rw [eI385, z_up_n (by decide)]; exact hmp.1)
        have k392 : 0 ≤ (I388 0 33).toInt ∧ (I388 0 33).toInt ≤ 500 := by rw [fI388 0 33 (by decide)]; exact (by show 0 ≤ (I385 0 33).toInt ∧ (I385 0 33).toInt ≤ 500; rw [eI385, z_up_n (by decide)]; exact hmp.2.1)
        have k393 : 0 ≤ (I388 0 34).toInt ∧ (I388 0 34).toInt ≤ 500 := by rw [fI388 0 34 (by decide)]; exact (by show 0 ≤ (I385 0 34).toInt ∧ (I385 0 34).toInt ≤ 500; rw [eI385, z_up_n (by decide)]; exact hmp.2.2.1)
        have k394 : 0 ≤ (I388 0 35).toInt ∧ (I388 0 35).toInt ≤ 500 := by rw [fI388 0 35 (by decide)]; exact (by show 0 ≤ (I385 0 35).toInt ∧ (I385 0 35).toInt ≤ 500; rw [eI385, z_up_n (by decide)]; exact hmp.2.2.2)
        have k395 : 0 ≤ (I388 0 36).toInt ∧ (I388 0 36).toInt ≤ 4 := by rw [fI388 0 36 (by decide)]; exact (by show 0 ≤ (I385 0 36).toInt ∧ (I385 0 36).toInt ≤ 4; rw [eI385, z_up_n (by decide)]; exact hmt.1)
        have k396 : 0 ≤ (I388 0 42).toInt ∧ (I388 0 42).toInt ≤ 1 := by rw [fI388 0 42 (by decide)]; exact (by show 0 ≤ (I385 0 42).toInt ∧ (I385 0 42).toInt ≤ 1; rw [eI385, z_up_n (by decide)]; exact hmt.2)
        have k397 : 0 ≤ (I388 0 40).toInt ∧ (I388 0 40).toInt ≤ 6199 := by rw [fI388 0 40 (by decide)]; exact (by show 0 ≤ (I385 0 40).toInt ∧ (I385 0 40).toInt ≤ 6199; rw [eI385, z_up_n (by decide)]; exact hmg)
        have k398 : 0 ≤ (I388 0 15).toInt ∧ (I388 0 15).toInt ≤ 6100 := by rw [fI388 0 15 (by decide)]; exact (by show 0 ≤ (I385 0 15).toInt ∧ (I385 0 15).toInt ≤ 6100; rw [eI385, z_up_n (by decide)]; exact hmn)
        have k399 : 0 ≤ (I388 0 35).toInt ∧ (I388 0 35).toInt ≤ (I388 0 34).toInt ∧ (I388 0 34).toInt ≤ (I388 0 33).toInt ∧ (I388 0 33).toInt ≤ 500 ∧ ((I388 0 36).toInt = 0 ∨ (I388 0 35).toInt + 1 ≤ (I388 0 34).toInt) := (by have q0 : (I388 0 35) = (I 0 35) := by rw [fI388 0 35 (by decide), eI385, z_up_n (by decide)]; have q1 : (I388 0 34) = (I 0 34) := by rw [fI388 0 34 (by decide), eI385, z_up_n (by decide)]; have q2 : (I388 0 33) = (I 0 33) := by rw [fI388 0 33 (by decide), eI385, z_up_n (by decide)]; have q3 : (I388 0 36) = (I 0 36) := by rw [fI388 0 36 (by decide), eI385, z_up_n (by decide)]; show 0 ≤ (I388 0 35).toInt ∧ (I388 0 35).toInt ≤ (I388 0 34).toInt ∧ (I388 0 34).toInt ≤ (I388 0 33).toInt ∧ (I388 0 33).toInt ≤ 500 ∧ ((I388 0 36).toInt = 0 ∨ (I388 0 35).toInt + 1 ≤ (I388 0 34).toInt); rw [q0, q1, q2, q3]; first | omega | decide)
        have k400 : (I388 0 35).toInt = (I 0 35).toInt := by rw [fI388 0 35 (by decide), eI385, z_up_n (by decide)]
        have k401 : (I388 0 34).toInt = (I 0 34).toInt := by rw [fI388 0 34 (by decide), eI385, z_up_n (by decide)]
        have k402 : (I388 0 36).toInt = (I 0 36).toInt := by rw [fI388 0 36 (by decide), eI385, z_up_n (by decide)]
        have k403 : (I388 0 42).toInt = (I 0 42).toInt := by rw [fI388 0 42 (by decide), eI385, z_up_n (by decide)]
        have k404 : (I388 0 39).toInt = (I 0 39).toInt := by rw [fI388 0 39 (by decide), eI385, z_up_n (by decide)]
        have k405 : (I388 0 15).toInt = (I 0 15).toInt := by rw [fI388 0 15 (by decide), eI385, z_up_n (by decide)]
        have k406 : (I388 0 40).toInt = (I 0 40).toInt := by rw [fI388 0 40 (by decide), eI385, z_up_n (by decide)]
        have h407 := hp
        refine lv_goto (tgt := 289) hx hb dX12_test_78 (by decide) ?_
        exact z_vret hx hb hr hK hS (Nat.le_of_ble_eq_true rfl) (Nat.le_of_ble_eq_true rfl) hlocks dX12_test_289 (shM, ad, I388, J390, PM ad) hW ⟨I388, J390, rfl, ⟨(by show 0 ≤ (I388 0 31).toInt ∧ (I388 0 31).toInt ≤ 500; exact k391), (by show 0 ≤ (I388 0 33).toInt ∧ (I388 0 33).toInt ≤ 500; exact k392), (by show 0 ≤ (I388 0 34).toInt ∧ (I388 0 34).toInt ≤ 500; exact k393), (by show 0 ≤ (I388 0 35).toInt ∧ (I388 0 35).toInt ≤ 500; exact k394)⟩, ⟨(by show 0 ≤ (I388 0 36).toInt ∧ (I388 0 36).toInt ≤ 4; exact k395), (by show 0 ≤ (I388 0 42).toInt ∧ (I388 0 42).toInt ≤ 1; exact k396)⟩, ⟨(by show 0 ≤ (I388 0 47).toInt ∧ (I388 0 47).toInt ≤ 119; exact hI388md.1), (by show 0 ≤ (I388 0 39).toInt ∧ (I388 0 39).toInt ≤ 100; exact hI388md.2)⟩, (by show 0 ≤ (I388 0 40).toInt ∧ (I388 0 40).toInt ≤ 6199; exact k397), (by show 0 ≤ (I388 0 15).toInt ∧ (I388 0 15).toInt ≤ 6100; exact k398), (z_Nd_fr a387 fI388 (by decide)), (by show 0 ≤ (I388 0 35).toInt ∧ (I388 0 35).toInt ≤ (I388 0 34).toInt ∧ (I388 0 34).toInt ≤ (I388 0 33).toInt ∧ (I388 0 33).toInt ≤ 500 ∧ ((I388 0 36).toInt = 0 ∨ (I388 0 35).toInt + 1 ≤ (I388 0 34).toInt); first | omega | decide), f389, ((Classical.em ((I388 0 42).toInt = 0)).elim (fun hw9 => Or.inr ⟨a1.toNatClampNeg + 2, by have w1 := z_fw_50 (a := va.toInt) (o := vo.toInt) (by omega); have w2 := z_fo_5n (a := va.toInt) (by omega); have w3 := z_fw_523 (a := 3) (o := vo.toInt) (by omega); have w4 := z_fo_5n (a := 3) (by omega); have w5 := z_fw_00 (a := 0) (o := -1) (by omega); have w6 := z_rk_5; have w7 := z_rk_0; exact z_PUSH (d := a1.toNatClampNeg) (w := 5) (a := 3) (o := vo.toInt) (s := vs.toInt) (wi := 0) hPS (fun i hi => ⟨by rw [eI385, z_up_n (by decide)], by rw [eI385, z_up_k (by omega)], by rw [eI385, z_up_n (by decide)], by rw [eI385, z_up_n (by decide)]⟩) (by rw [show I385 26 a1.toNatClampNeg = vw from (by rw [eI385, z_up_n (by decide)]; exact evw.symm)]; exact hvw) (by rw [show I385 27 a1.toNatClampNeg = 3 from (by rw [eI385, z_up_s])]; exact z_l3) (by rw [show I385 28 a1.toNatClampNeg = vo from (by rw [eI385, z_up_n (by decide)]; exact evo.symm)]; exact rfl) (by rw [show I385 29 a1.toNatClampNeg = vs from (by rw [eI385, z_up_n (by decide)]; exact evs.symm)]; exact rfl) (by unfold z_fv; omega) hwd (by rw [eI385, z_up_n (by decide)]; omega) h407 z_l0 (by omega) (by omega) (by omega) (by omega) (by omega) (by omega) (by omega) (by omega)⟩) Or.inl)⟩
