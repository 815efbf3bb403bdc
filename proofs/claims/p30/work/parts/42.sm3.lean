theorem dX12_bits_0 : decode cX12_bits 0 = .ok (.iconst 0, 1) := z_dd_3 (by decide +kernel)
theorem dX12_bits_1 : decode cX12_bits 1 = .ok (.istore_n 1, 1) := z_dd_60 (by decide +kernel)
theorem dX12_bits_2 : decode cX12_bits 2 = .ok (.iload_n 0, 1) := z_dd_26 (by decide +kernel)
theorem dX12_bits_3 : decode cX12_bits 3 = .ok (.istore_n 2, 1) := z_dd_61 (by decide +kernel)
theorem dX12_bits_4 : decode cX12_bits 4 = .ok (.iload_n 2, 1) := z_dd_28 (by decide +kernel)
theorem dX12_bits_5 : decode cX12_bits 5 = .ok (.ifCond .eq 15, 3) := z_dd_153 (by decide +kernel)
theorem dX12_bits_20 : decode cX12_bits 20 = .ok (.iload_n 1, 1) := z_dd_27 (by decide +kernel)
theorem dX12_bits_21 : decode cX12_bits 21 = .ok (.ireturn, 1) := z_dd_172 (by decide +kernel)
theorem dX12_bits_8 : decode cX12_bits 8 = .ok (.iinc 1 1, 3) := z_dd_132 (by decide +kernel)
theorem dX12_bits_11 : decode cX12_bits 11 = .ok (.iload_n 2, 1) := z_dd_28 (by decide +kernel)
theorem dX12_bits_12 : decode cX12_bits 12 = .ok (.iload_n 2, 1) := z_dd_28 (by decide +kernel)
theorem dX12_bits_13 : decode cX12_bits 13 = .ok (.iconst 1, 1) := z_dd_4 (by decide +kernel)
theorem dX12_bits_14 : decode cX12_bits 14 = .ok (.isub, 1) := z_dd_100 (by decide +kernel)
theorem dX12_bits_15 : decode cX12_bits 15 = .ok (.iand, 1) := z_dd_126 (by decide +kernel)
theorem dX12_bits_16 : decode cX12_bits 16 = .ok (.istore_n 2, 1) := z_dd_61 (by decide +kernel)
theorem dX12_bits_17 : decode cX12_bits 17 = .ok (.goto (-13), 3) := z_dd_167 (by decide +kernel)
theorem dX12_pool_0 : decode cX12_pool 0 = .ok (.iload_n 3, 1) := z_dd_29 (by decide +kernel)
theorem dX12_pool_1 : decode cX12_pool 1 = .ok (.iconst 0, 1) := z_dd_3 (by decide +kernel)
theorem dX12_pool_2 : decode cX12_pool 2 = .ok (.iconst 3, 1) := z_dd_6 (by decide +kernel)
set_option maxRecDepth 20000 in
theorem ggX12_pool_X12_within : GoodIn wsX12_pool wsX12_within := goodIn_sub (fa_c (me_s (me_l (List.mem_of_getElem? (i := 12) rfl))) fa_n) (by decide +kernel)
set_option maxRecDepth 20000 in
theorem gX12_pool_X12_within : GoodIn wsX12_pool (va_wsS RX12 235 yX12_within wsX12_within) := goodIn_app (goodIn_sub (fa_c (me_s (me_l (List.mem_of_getElem? (i := 9) rfl))) (fa_c (me_s (me_l (List.mem_of_getElem? (i := 10) rfl))) (fa_c (me_s (me_l (List.mem_of_getElem? (i := 11) rfl))) fa_n))) (by decide +kernel)) ggX12_pool_X12_within
theorem dX12_pool_3 : decode cX12_pool 3 = .ok (.invokestatic 235, 3) := z_dd_184 (by decide +kernel)
theorem dX12_pool_6 : decode cX12_pool 6 = .ok (.ifCond .ne 5, 3) := z_dd_154 (by decide +kernel)
theorem dX12_pool_11 : decode cX12_pool 11 = .ok (.iconst 0, 1) := z_dd_3 (by decide +kernel)
theorem dX12_pool_12 : decode cX12_pool 12 = .ok (.istore 4, 2) := z_dd_54 (by decide +kernel)
theorem dX12_pool_14 : decode cX12_pool 14 = .ok (.iconst 0, 1) := z_dd_3 (by decide +kernel)
theorem dX12_pool_15 : decode cX12_pool 15 = .ok (.istore 5, 2) := z_dd_54 (by decide +kernel)
theorem dX12_pool_17 : decode cX12_pool 17 = .ok (.iconst 0, 1) := z_dd_3 (by decide +kernel)
theorem dX12_pool_18 : decode cX12_pool 18 = .ok (.istore 6, 2) := z_dd_54 (by decide +kernel)
theorem dX12_pool_20 : decode cX12_pool 20 = .ok (.iload 6, 2) := z_dd_21 (by decide +kernel)
theorem dX12_pool_22 : decode cX12_pool 22 = .ok (.aload_n 0, 1) := z_dd_42 (by decide +kernel)
theorem dX12_pool_23 : decode cX12_pool 23 = .ok (.getfield 505, 3) := z_dd_180 (by decide +kernel)
theorem dX12_pool_26 : decode cX12_pool 26 = .ok (.if_icmp .ge 65, 3) := z_dd_162 (by decide +kernel)
theorem dX12_pool_91 : decode cX12_pool 91 = .ok (.iload 4, 2) := z_dd_21 (by decide +kernel)
theorem dX12_pool_93 : decode cX12_pool 93 = .ok (.ifCond .ne 5, 3) := z_dd_154 (by decide +kernel)
theorem dX12_pool_98 : decode cX12_pool 98 = .ok (.iconst (-1), 1) := z_dd_2 (by decide +kernel)
theorem dX12_pool_99 : decode cX12_pool 99 = .ok (.istore 6, 2) := z_dd_54 (by decide +kernel)
theorem dX12_pool_101 : decode cX12_pool 101 = .ok (.iconst 0, 1) := z_dd_3 (by decide +kernel)
theorem dX12_pool_102 : decode cX12_pool 102 = .ok (.istore 7, 2) := z_dd_54 (by decide +kernel)
theorem dX12_pool_104 : decode cX12_pool 104 = .ok (.iconst 1, 1) := z_dd_4 (by decide +kernel)
theorem dX12_pool_105 : decode cX12_pool 105 = .ok (.istore 8, 2) := z_dd_54 (by decide +kernel)
theorem dX12_pool_107 : decode cX12_pool 107 = .ok (.iload 8, 2) := z_dd_21 (by decide +kernel)
theorem dX12_pool_109 : decode cX12_pool 109 = .ok (.iconst 1, 1) := z_dd_4 (by decide +kernel)
theorem dX12_pool_110 : decode cX12_pool 110 = .ok (.iload 4, 2) := z_dd_21 (by decide +kernel)
theorem dX12_pool_112 : decode cX12_pool 112 = .ok (.ishl, 1) := z_dd_120 (by decide +kernel)
theorem dX12_pool_113 : decode cX12_pool 113 = .ok (.if_icmp .ge 157, 3) := z_dd_162 (by decide +kernel)
theorem dX12_pool_270 : decode cX12_pool 270 = .ok (.iload 6, 2) := z_dd_21 (by decide +kernel)
theorem dX12_pool_272 : decode cX12_pool 272 = .ok (.ifCond .ge 5, 3) := z_dd_156 (by decide +kernel)
theorem dX12_pool_277 : decode cX12_pool 277 = .ok (.iload_n 3, 1) := z_dd_29 (by decide +kernel)
theorem dX12_pool_278 : decode cX12_pool 278 = .ok (.ifCond .ne 11, 3) := z_dd_154 (by decide +kernel)
theorem dX12_pool_289 : decode cX12_pool 289 = .ok (.iload_n 3, 1) := z_dd_29 (by decide +kernel)
theorem dX12_pool_290 : decode cX12_pool 290 = .ok (.iconst 1, 1) := z_dd_4 (by decide +kernel)
theorem dX12_pool_291 : decode cX12_pool 291 = .ok (.if_icmp .ne 8, 3) := z_dd_160 (by decide +kernel)
theorem dX12_pool_299 : decode cX12_pool 299 = .ok (.iload_n 3, 1) := z_dd_29 (by decide +kernel)
theorem dX12_pool_300 : decode cX12_pool 300 = .ok (.iconst 2, 1) := z_dd_5 (by decide +kernel)
theorem dX12_pool_301 : decode cX12_pool 301 = .ok (.if_icmp .ne 8, 3) := z_dd_160 (by decide +kernel)
theorem dX12_pool_309 : decode cX12_pool 309 = .ok (.iload 5, 2) := z_dd_21 (by decide +kernel)
theorem dX12_pool_311 : decode cX12_pool 311 = .ok (.ireturn, 1) := z_dd_172 (by decide +kernel)
theorem dX12_pool_304 : decode cX12_pool 304 = .ok (.iload 6, 2) := z_dd_21 (by decide +kernel)
theorem dX12_pool_306 : decode cX12_pool 306 = .ok (.goto 5, 3) := z_dd_167 (by decide +kernel)
theorem dX12_pool_294 : decode cX12_pool 294 = .ok (.iload 7, 2) := z_dd_21 (by decide +kernel)
theorem dX12_pool_296 : decode cX12_pool 296 = .ok (.goto 15, 3) := z_dd_167 (by decide +kernel)
theorem dX12_pool_281 : decode cX12_pool 281 = .ok (.iload 6, 2) := z_dd_21 (by decide +kernel)
set_option maxRecDepth 20000 in
theorem ggX12_pool_X12_bits : GoodIn wsX12_pool wsX12_bits := goodIn_sub (fa_c (me_s (me_l (List.mem_of_getElem? (i := 15) rfl))) fa_n) (by decide +kernel)
set_option maxRecDepth 20000 in
theorem gX12_pool_X12_bits : GoodIn wsX12_pool (va_wsS RX12 518 yX12_bits wsX12_bits) := goodIn_app (goodIn_sub (fa_c (me_s (me_l (List.mem_of_getElem? (i := 13) rfl))) (fa_c (me_s (me_l (List.mem_of_getElem? (i := 14) rfl))) (fa_c (me_s (me_l (List.mem_of_getElem? (i := 11) rfl))) fa_n))) (by decide +kernel)) ggX12_pool_X12_bits
theorem dX12_pool_283 : decode cX12_pool 283 = .ok (.invokestatic 518, 3) := z_dd_184 (by decide +kernel)
theorem dX12_pool_286 : decode cX12_pool 286 = .ok (.goto 25, 3) := z_dd_167 (by decide +kernel)
theorem dX12_pool_275 : decode cX12_pool 275 = .ok (.iconst (-1), 1) := z_dd_2 (by decide +kernel)
theorem dX12_pool_276 : decode cX12_pool 276 = .ok (.ireturn, 1) := z_dd_172 (by decide +kernel)
theorem dX12_pool_116 : decode cX12_pool 116 = .ok (.iconst 0, 1) := z_dd_3 (by decide +kernel)
theorem dX12_pool_117 : decode cX12_pool 117 = .ok (.istore 9, 2) := z_dd_54 (by decide +kernel)
theorem dX12_pool_119 : decode cX12_pool 119 = .ok (.iconst 0, 1) := z_dd_3 (by decide +kernel)
theorem dX12_pool_120 : decode cX12_pool 120 = .ok (.istore 10, 2) := z_dd_54 (by decide +kernel)
theorem dX12_pool_122 : decode cX12_pool 122 = .ok (.iconst 0, 1) := z_dd_3 (by decide +kernel)
theorem dX12_pool_123 : decode cX12_pool 123 = .ok (.istore 11, 2) := z_dd_54 (by decide +kernel)
theorem dX12_pool_125 : decode cX12_pool 125 = .ok (.iload 11, 2) := z_dd_21 (by decide +kernel)
theorem dX12_pool_127 : decode cX12_pool 127 = .ok (.iload 4, 2) := z_dd_21 (by decide +kernel)
theorem dX12_pool_129 : decode cX12_pool 129 = .ok (.if_icmp .ge 79, 3) := z_dd_162 (by decide +kernel)
theorem dX12_pool_208 : decode cX12_pool 208 = .ok (.iload 9, 2) := z_dd_21 (by decide +kernel)
theorem dX12_pool_210 : decode cX12_pool 210 = .ok (.iload 5, 2) := z_dd_21 (by decide +kernel)
theorem dX12_pool_212 : decode cX12_pool 212 = .ok (.if_icmp .lt 52, 3) := z_dd_161 (by decide +kernel)
theorem dX12_pool_264 : decode cX12_pool 264 = .ok (.iinc 8 1, 3) := z_dd_132 (by decide +kernel)
theorem dX12_pool_267 : decode cX12_pool 267 = .ok (.goto (-160), 3) := z_dd_167 (by decide +kernel)
theorem dX12_pool_215 : decode cX12_pool 215 = .ok (.iload 6, 2) := z_dd_21 (by decide +kernel)
theorem dX12_pool_217 : decode cX12_pool 217 = .ok (.ifCond .lt 39, 3) := z_dd_155 (by decide +kernel)
theorem dX12_pool_256 : decode cX12_pool 256 = .ok (.iload 8, 2) := z_dd_21 (by decide +kernel)
theorem dX12_pool_258 : decode cX12_pool 258 = .ok (.istore 6, 2) := z_dd_54 (by decide +kernel)
theorem dX12_pool_260 : decode cX12_pool 260 = .ok (.iload 10, 2) := z_dd_21 (by decide +kernel)
theorem dX12_pool_262 : decode cX12_pool 262 = .ok (.istore 7, 2) := z_dd_54 (by decide +kernel)
theorem dX12_pool_220 : decode cX12_pool 220 = .ok (.iload 8, 2) := z_dd_21 (by decide +kernel)
theorem dX12_pool_222 : decode cX12_pool 222 = .ok (.invokestatic 518, 3) := z_dd_184 (by decide +kernel)
theorem dX12_pool_225 : decode cX12_pool 225 = .ok (.iload 6, 2) := z_dd_21 (by decide +kernel)
theorem dX12_pool_227 : decode cX12_pool 227 = .ok (.invokestatic 518, 3) := z_dd_184 (by decide +kernel)
theorem dX12_pool_230 : decode cX12_pool 230 = .ok (.if_icmp .gt 34, 3) := z_dd_163 (by decide +kernel)
theorem dX12_pool_233 : decode cX12_pool 233 = .ok (.iload 8, 2) := z_dd_21 (by decide +kernel)
theorem dX12_pool_235 : decode cX12_pool 235 = .ok (.invokestatic 518, 3) := z_dd_184 (by decide +kernel)
theorem dX12_pool_238 : decode cX12_pool 238 = .ok (.iload 6, 2) := z_dd_21 (by decide +kernel)
theorem dX12_pool_240 : decode cX12_pool 240 = .ok (.invokestatic 518, 3) := z_dd_184 (by decide +kernel)
theorem dX12_pool_243 : decode cX12_pool 243 = .ok (.if_icmp .ne 13, 3) := z_dd_160 (by decide +kernel)
theorem dX12_pool_246 : decode cX12_pool 246 = .ok (.iload 10, 2) := z_dd_21 (by decide +kernel)
theorem dX12_pool_248 : decode cX12_pool 248 = .ok (.iload 7, 2) := z_dd_21 (by decide +kernel)
theorem dX12_pool_250 : decode cX12_pool 250 = .ok (.if_icmp .lt 6, 3) := z_dd_161 (by decide +kernel)
theorem dX12_pool_253 : decode cX12_pool 253 = .ok (.goto 11, 3) := z_dd_167 (by decide +kernel)
theorem dX12_pool_132 : decode cX12_pool 132 = .ok (.iload 8, 2) := z_dd_21 (by decide +kernel)
theorem dX12_pool_134 : decode cX12_pool 134 = .ok (.iload 11, 2) := z_dd_21 (by decide +kernel)
theorem dX12_pool_136 : decode cX12_pool 136 = .ok (.ishr, 1) := z_dd_122 (by decide +kernel)
theorem dX12_pool_137 : decode cX12_pool 137 = .ok (.iconst 1, 1) := z_dd_4 (by decide +kernel)
theorem dX12_pool_138 : decode cX12_pool 138 = .ok (.iand, 1) := z_dd_126 (by decide +kernel)
theorem dX12_pool_139 : decode cX12_pool 139 = .ok (.ifCond .ne 6, 3) := z_dd_154 (by decide +kernel)
theorem dX12_pool_145 : decode cX12_pool 145 = .ok (.iload 9, 2) := z_dd_21 (by decide +kernel)
theorem dX12_pool_147 : decode cX12_pool 147 = .ok (.aload_n 0, 1) := z_dd_42 (by decide +kernel)
theorem dX12_pool_148 : decode cX12_pool 148 = .ok (.getfield 16, 3) := z_dd_180 (by decide +kernel)
theorem dX12_pool_151 : decode cX12_pool 151 = .ok (.aload_n 0, 1) := z_dd_42 (by decide +kernel)
theorem dX12_pool_152 : decode cX12_pool 152 = .ok (.getfield 193, 3) := z_dd_180 (by decide +kernel)
theorem dX12_pool_155 : decode cX12_pool 155 = .ok (.aload_n 0, 1) := z_dd_42 (by decide +kernel)
theorem dX12_pool_156 : decode cX12_pool 156 = .ok (.getfield 220, 3) := z_dd_180 (by decide +kernel)
theorem dX12_pool_159 : decode cX12_pool 159 = .ok (.iload 11, 2) := z_dd_21 (by decide +kernel)
theorem dX12_pool_161 : decode cX12_pool 161 = .ok (.iaload, 1) := z_dd_46 (by decide +kernel)
theorem dX12_pool_162 : decode cX12_pool 162 = .ok (.iaload, 1) := z_dd_46 (by decide +kernel)
theorem dX12_pool_163 : decode cX12_pool 163 = .ok (.iaload, 1) := z_dd_46 (by decide +kernel)
theorem dX12_pool_164 : decode cX12_pool 164 = .ok (.iadd, 1) := z_dd_96 (by decide +kernel)
theorem dX12_pool_165 : decode cX12_pool 165 = .ok (.istore 9, 2) := z_dd_54 (by decide +kernel)
theorem dX12_pool_167 : decode cX12_pool 167 = .ok (.iload 10, 2) := z_dd_21 (by decide +kernel)
theorem dX12_pool_169 : decode cX12_pool 169 = .ok (.aload_n 0, 1) := z_dd_42 (by decide +kernel)
theorem dX12_pool_170 : decode cX12_pool 170 = .ok (.getfield 196, 3) := z_dd_180 (by decide +kernel)
theorem dX12_pool_173 : decode cX12_pool 173 = .ok (.aload_n 0, 1) := z_dd_42 (by decide +kernel)
theorem dX12_pool_174 : decode cX12_pool 174 = .ok (.getfield 220, 3) := z_dd_180 (by decide +kernel)
theorem dX12_pool_177 : decode cX12_pool 177 = .ok (.iload 11, 2) := z_dd_21 (by decide +kernel)
theorem dX12_pool_179 : decode cX12_pool 179 = .ok (.iaload, 1) := z_dd_46 (by decide +kernel)
theorem dX12_pool_180 : decode cX12_pool 180 = .ok (.iaload, 1) := z_dd_46 (by decide +kernel)
theorem dX12_pool_181 : decode cX12_pool 181 = .ok (.aload_n 0, 1) := z_dd_42 (by decide +kernel)
theorem dX12_pool_182 : decode cX12_pool 182 = .ok (.getfield 7, 3) := z_dd_180 (by decide +kernel)
theorem dX12_pool_185 : decode cX12_pool 185 = .ok (.aload_n 0, 1) := z_dd_42 (by decide +kernel)
theorem dX12_pool_186 : decode cX12_pool 186 = .ok (.getfield 193, 3) := z_dd_180 (by decide +kernel)
theorem dX12_pool_189 : decode cX12_pool 189 = .ok (.aload_n 0, 1) := z_dd_42 (by decide +kernel)
theorem dX12_pool_190 : decode cX12_pool 190 = .ok (.getfield 220, 3) := z_dd_180 (by decide +kernel)
theorem dX12_pool_193 : decode cX12_pool 193 = .ok (.iload 11, 2) := z_dd_21 (by decide +kernel)
theorem dX12_pool_195 : decode cX12_pool 195 = .ok (.iaload, 1) := z_dd_46 (by decide +kernel)
theorem dX12_pool_196 : decode cX12_pool 196 = .ok (.iaload, 1) := z_dd_46 (by decide +kernel)
theorem dX12_pool_197 : decode cX12_pool 197 = .ok (.iaload, 1) := z_dd_46 (by decide +kernel)
theorem dX12_pool_198 : decode cX12_pool 198 = .ok (.imul, 1) := z_dd_104 (by decide +kernel)
theorem dX12_pool_199 : decode cX12_pool 199 = .ok (.iadd, 1) := z_dd_96 (by decide +kernel)
theorem dX12_pool_200 : decode cX12_pool 200 = .ok (.istore 10, 2) := z_dd_54 (by decide +kernel)
theorem dX12_pool_202 : decode cX12_pool 202 = .ok (.iinc 11 1, 3) := z_dd_132 (by decide +kernel)
theorem dX12_pool_205 : decode cX12_pool 205 = .ok (.goto (-80), 3) := z_dd_167 (by decide +kernel)
theorem dX12_pool_142 : decode cX12_pool 142 = .ok (.goto 60, 3) := z_dd_167 (by decide +kernel)
theorem dX12_pool_96 : decode cX12_pool 96 = .ok (.iconst (-1), 1) := z_dd_2 (by decide +kernel)
theorem dX12_pool_97 : decode cX12_pool 97 = .ok (.ireturn, 1) := z_dd_172 (by decide +kernel)
theorem dX12_pool_29 : decode cX12_pool 29 = .ok (.iload 4, 2) := z_dd_21 (by decide +kernel)
theorem dX12_pool_31 : decode cX12_pool 31 = .ok (.bipush 12, 2) := z_dd_16 (by decide +kernel)
theorem dX12_pool_33 : decode cX12_pool 33 = .ok (.if_icmp .ge 58, 3) := z_dd_162 (by decide +kernel)
theorem dX12_pool_36 : decode cX12_pool 36 = .ok (.aload_n 0, 1) := z_dd_42 (by decide +kernel)
theorem dX12_pool_37 : decode cX12_pool 37 = .ok (.getfield 205, 3) := z_dd_180 (by decide +kernel)
theorem dX12_pool_40 : decode cX12_pool 40 = .ok (.iload 6, 2) := z_dd_21 (by decide +kernel)
theorem dX12_pool_42 : decode cX12_pool 42 = .ok (.iaload, 1) := z_dd_46 (by decide +kernel)
theorem dX12_pool_43 : decode cX12_pool 43 = .ok (.iload_n 1, 1) := z_dd_27 (by decide +kernel)
theorem dX12_pool_44 : decode cX12_pool 44 = .ok (.if_icmp .ne 41, 3) := z_dd_160 (by decide +kernel)
theorem dX12_pool_85 : decode cX12_pool 85 = .ok (.iinc 6 1, 3) := z_dd_132 (by decide +kernel)
theorem dX12_pool_88 : decode cX12_pool 88 = .ok (.goto (-68), 3) := z_dd_167 (by decide +kernel)
theorem dX12_pool_47 : decode cX12_pool 47 = .ok (.aload_n 0, 1) := z_dd_42 (by decide +kernel)
theorem dX12_pool_48 : decode cX12_pool 48 = .ok (.getfield 208, 3) := z_dd_180 (by decide +kernel)
theorem dX12_pool_51 : decode cX12_pool 51 = .ok (.iload 6, 2) := z_dd_21 (by decide +kernel)
theorem dX12_pool_53 : decode cX12_pool 53 = .ok (.iaload, 1) := z_dd_46 (by decide +kernel)
theorem dX12_pool_54 : decode cX12_pool 54 = .ok (.iload_n 2, 1) := z_dd_28 (by decide +kernel)
theorem dX12_pool_55 : decode cX12_pool 55 = .ok (.if_icmp .eq 6, 3) := z_dd_159 (by decide +kernel)
theorem dX12_pool_61 : decode cX12_pool 61 = .ok (.aload_n 0, 1) := z_dd_42 (by decide +kernel)
theorem dX12_pool_62 : decode cX12_pool 62 = .ok (.getfield 220, 3) := z_dd_180 (by decide +kernel)
theorem dX12_pool_65 : decode cX12_pool 65 = .ok (.iload 4, 2) := z_dd_21 (by decide +kernel)
theorem dX12_pool_67 : decode cX12_pool 67 = .ok (.iload 6, 2) := z_dd_21 (by decide +kernel)
theorem dX12_pool_69 : decode cX12_pool 69 = .ok (.iastore, 1) := z_dd_79 (by decide +kernel)
theorem dX12_pool_70 : decode cX12_pool 70 = .ok (.iload 5, 2) := z_dd_21 (by decide +kernel)
theorem dX12_pool_72 : decode cX12_pool 72 = .ok (.aload_n 0, 1) := z_dd_42 (by decide +kernel)
theorem dX12_pool_73 : decode cX12_pool 73 = .ok (.getfield 199, 3) := z_dd_180 (by decide +kernel)
theorem dX12_pool_76 : decode cX12_pool 76 = .ok (.iload 6, 2) := z_dd_21 (by decide +kernel)
theorem dX12_pool_78 : decode cX12_pool 78 = .ok (.iaload, 1) := z_dd_46 (by decide +kernel)
theorem dX12_pool_79 : decode cX12_pool 79 = .ok (.iadd, 1) := z_dd_96 (by decide +kernel)
theorem dX12_pool_80 : decode cX12_pool 80 = .ok (.istore 5, 2) := z_dd_54 (by decide +kernel)
theorem dX12_pool_82 : decode cX12_pool 82 = .ok (.iinc 4 1, 3) := z_dd_132 (by decide +kernel)
theorem dX12_pool_58 : decode cX12_pool 58 = .ok (.goto 27, 3) := z_dd_167 (by decide +kernel)
theorem dX12_pool_9 : decode cX12_pool 9 = .ok (.iconst (-1), 1) := z_dd_2 (by decide +kernel)
theorem dX12_pool_10 : decode cX12_pool 10 = .ok (.ireturn, 1) := z_dd_172 (by decide +kernel)
theorem dX12_held_0 : decode cX12_held 0 = .ok (.lload_n 0, 1) := z_dd_30 (by decide +kernel)
theorem dX12_held_1 : decode cX12_held 1 = .ok (.ldc2_w 423, 3) := z_dd_20 (by decide +kernel)
theorem dX12_held_4 : decode cX12_held 4 = .ok (.lcmp, 1) := z_dd_148 (by decide +kernel)
theorem dX12_held_5 : decode cX12_held 5 = .ok (.ifCond .le 9, 3) := z_dd_158 (by decide +kernel)
theorem dX12_held_14 : decode cX12_held 14 = .ok (.lload_n 0, 1) := z_dd_30 (by decide +kernel)
theorem dX12_held_15 : decode cX12_held 15 = .ok (.ldc2_w 425, 3) := z_dd_20 (by decide +kernel)
theorem dX12_held_18 : decode cX12_held 18 = .ok (.lcmp, 1) := z_dd_148 (by decide +kernel)
theorem dX12_held_19 : decode cX12_held 19 = .ok (.ifCond .ge 9, 3) := z_dd_156 (by decide +kernel)
theorem dX12_held_28 : decode cX12_held 28 = .ok (.lload_n 0, 1) := z_dd_30 (by decide +kernel)
theorem dX12_held_29 : decode cX12_held 29 = .ok (.lreturn, 1) := z_dd_173 (by decide +kernel)
theorem dX12_held_22 : decode cX12_held 22 = .ok (.ldc2_w 425, 3) := z_dd_20 (by decide +kernel)
theorem dX12_held_25 : decode cX12_held 25 = .ok (.goto 4, 3) := z_dd_167 (by decide +kernel)
theorem dX12_held_8 : decode cX12_held 8 = .ok (.ldc2_w 423, 3) := z_dd_20 (by decide +kernel)
theorem dX12_held_11 : decode cX12_held 11 = .ok (.goto 18, 3) := z_dd_167 (by decide +kernel)
theorem dX12_asked_0 : decode cX12_asked 0 = .ok (.aload_n 0, 1) := z_dd_42 (by decide +kernel)
theorem dX12_asked_1 : decode cX12_asked 1 = .ok (.getfield 103, 3) := z_dd_180 (by decide +kernel)
theorem dX12_asked_4 : decode cX12_asked 4 = .ok (.iconst 0, 1) := z_dd_3 (by decide +kernel)
theorem dX12_asked_5 : decode cX12_asked 5 = .ok (.iload_n 2, 1) := z_dd_28 (by decide +kernel)
theorem dX12_asked_6 : decode cX12_asked 6 = .ok (.i2l, 1) := z_dd_133 (by decide +kernel)
theorem dX12_asked_7 : decode cX12_asked 7 = .ok (.lastore, 1) := z_dd_80 (by decide +kernel)
theorem dX12_asked_8 : decode cX12_asked 8 = .ok (.aload_n 0, 1) := z_dd_42 (by decide +kernel)
theorem dX12_asked_9 : decode cX12_asked 9 = .ok (.getfield 103, 3) := z_dd_180 (by decide +kernel)
theorem dX12_asked_12 : decode cX12_asked 12 = .ok (.iconst 1, 1) := z_dd_4 (by decide +kernel)
theorem dX12_asked_13 : decode cX12_asked 13 = .ok (.aload_n 0, 1) := z_dd_42 (by decide +kernel)
theorem dX12_asked_14 : decode cX12_asked 14 = .ok (.getfield 7, 3) := z_dd_180 (by decide +kernel)
theorem dX12_asked_17 : decode cX12_asked 17 = .ok (.iload_n 1, 1) := z_dd_27 (by decide +kernel)
theorem dX12_asked_18 : decode cX12_asked 18 = .ok (.iaload, 1) := z_dd_46 (by decide +kernel)
theorem dX12_asked_19 : decode cX12_asked 19 = .ok (.i2l, 1) := z_dd_133 (by decide +kernel)
theorem dX12_asked_20 : decode cX12_asked 20 = .ok (.lastore, 1) := z_dd_80 (by decide +kernel)
theorem dX12_asked_21 : decode cX12_asked 21 = .ok (.aload_n 0, 1) := z_dd_42 (by decide +kernel)
theorem dX12_asked_22 : decode cX12_asked 22 = .ok (.getfield 103, 3) := z_dd_180 (by decide +kernel)
theorem dX12_asked_25 : decode cX12_asked 25 = .ok (.iconst 2, 1) := z_dd_5 (by decide +kernel)
theorem dX12_asked_26 : decode cX12_asked 26 = .ok (.aload_n 0, 1) := z_dd_42 (by decide +kernel)
theorem dX12_asked_27 : decode cX12_asked 27 = .ok (.getfield 13, 3) := z_dd_180 (by decide +kernel)
theorem dX12_asked_30 : decode cX12_asked 30 = .ok (.iload_n 1, 1) := z_dd_27 (by decide +kernel)
theorem dX12_asked_31 : decode cX12_asked 31 = .ok (.iaload, 1) := z_dd_46 (by decide +kernel)
theorem dX12_asked_32 : decode cX12_asked 32 = .ok (.i2l, 1) := z_dd_133 (by decide +kernel)
theorem dX12_asked_33 : decode cX12_asked 33 = .ok (.lastore, 1) := z_dd_80 (by decide +kernel)
theorem dX12_asked_34 : decode cX12_asked 34 = .ok (.aload_n 0, 1) := z_dd_42 (by decide +kernel)
theorem dX12_asked_35 : decode cX12_asked 35 = .ok (.getfield 103, 3) := z_dd_180 (by decide +kernel)
theorem dX12_asked_38 : decode cX12_asked 38 = .ok (.iconst 3, 1) := z_dd_6 (by decide +kernel)
theorem dX12_asked_39 : decode cX12_asked 39 = .ok (.iload_n 3, 1) := z_dd_29 (by decide +kernel)
theorem dX12_asked_40 : decode cX12_asked 40 = .ok (.i2l, 1) := z_dd_133 (by decide +kernel)
theorem dX12_asked_41 : decode cX12_asked 41 = .ok (.lastore, 1) := z_dd_80 (by decide +kernel)
theorem dX12_asked_42 : decode cX12_asked 42 = .ok (.aload_n 0, 1) := z_dd_42 (by decide +kernel)
theorem dX12_asked_43 : decode cX12_asked 43 = .ok (.getfield 103, 3) := z_dd_180 (by decide +kernel)
theorem dX12_asked_46 : decode cX12_asked 46 = .ok (.iconst 4, 1) := z_dd_7 (by decide +kernel)
theorem dX12_asked_47 : decode cX12_asked 47 = .ok (.iload 4, 2) := z_dd_21 (by decide +kernel)
theorem dX12_asked_49 : decode cX12_asked 49 = .ok (.i2l, 1) := z_dd_133 (by decide +kernel)
theorem dX12_asked_50 : decode cX12_asked 50 = .ok (.lastore, 1) := z_dd_80 (by decide +kernel)
theorem dX12_asked_51 : decode cX12_asked 51 = .ok (.aload_n 0, 1) := z_dd_42 (by decide +kernel)
theorem dX12_asked_52 : decode cX12_asked 52 = .ok (.getfield 103, 3) := z_dd_180 (by decide +kernel)
theorem dX12_asked_55 : decode cX12_asked 55 = .ok (.iconst 5, 1) := z_dd_8 (by decide +kernel)
theorem dX12_asked_56 : decode cX12_asked 56 = .ok (.iload 5, 2) := z_dd_21 (by decide +kernel)
theorem dX12_asked_58 : decode cX12_asked 58 = .ok (.i2l, 1) := z_dd_133 (by decide +kernel)
theorem dX12_asked_59 : decode cX12_asked 59 = .ok (.lastore, 1) := z_dd_80 (by decide +kernel)
theorem dX12_asked_60 : decode cX12_asked 60 = .ok (.aload_n 0, 1) := z_dd_42 (by decide +kernel)
theorem dX12_asked_61 : decode cX12_asked 61 = .ok (.getfield 103, 3) := z_dd_180 (by decide +kernel)
theorem dX12_asked_64 : decode cX12_asked 64 = .ok (.bipush 6, 2) := z_dd_16 (by decide +kernel)
theorem dX12_asked_66 : decode cX12_asked 66 = .ok (.iload 6, 2) := z_dd_21 (by decide +kernel)
theorem dX12_asked_68 : decode cX12_asked 68 = .ok (.i2l, 1) := z_dd_133 (by decide +kernel)
theorem dX12_asked_69 : decode cX12_asked 69 = .ok (.lastore, 1) := z_dd_80 (by decide +kernel)
theorem dX12_asked_70 : decode cX12_asked 70 = .ok (.return_, 1) := z_dd_177 (by decide +kernel)
theorem dX12_works_0 : decode cX12_works 0 = .ok (.aload_n 0, 1) := z_dd_42 (by decide +kernel)
theorem dX12_works_1 : decode cX12_works 1 = .ok (.getfield 64, 3) := z_dd_180 (by decide +kernel)
theorem dX12_works_4 : decode cX12_works 4 = .ok (.iload_n 1, 1) := z_dd_27 (by decide +kernel)
theorem dX12_works_5 : decode cX12_works 5 = .ok (.iaload, 1) := z_dd_46 (by decide +kernel)
theorem dX12_works_6 : decode cX12_works 6 = .ok (.istore_n 2, 1) := z_dd_61 (by decide +kernel)
theorem dX12_works_7 : decode cX12_works 7 = .ok (.iload_n 2, 1) := z_dd_28 (by decide +kernel)
theorem dX12_works_8 : decode cX12_works 8 = .ok (.aload_n 0, 1) := z_dd_42 (by decide +kernel)
theorem dX12_works_9 : decode cX12_works 9 = .ok (.getfield 67, 3) := z_dd_180 (by decide +kernel)
theorem dX12_works_12 : decode cX12_works 12 = .ok (.iload_n 1, 1) := z_dd_27 (by decide +kernel)
theorem dX12_works_13 : decode cX12_works 13 = .ok (.iaload, 1) := z_dd_46 (by decide +kernel)
theorem dX12_works_14 : decode cX12_works 14 = .ok (.if_icmp .ge 386, 3) := z_dd_162 (by decide +kernel)
theorem dX12_works_400 : decode cX12_works 400 = .ok (.return_, 1) := z_dd_177 (by decide +kernel)
theorem dX12_works_17 : decode cX12_works 17 = .ok (.aload_n 0, 1) := z_dd_42 (by decide +kernel)
theorem dX12_works_18 : decode cX12_works 18 = .ok (.getfield 70, 3) := z_dd_180 (by decide +kernel)
theorem dX12_works_21 : decode cX12_works 21 = .ok (.iload_n 2, 1) := z_dd_28 (by decide +kernel)
theorem dX12_works_22 : decode cX12_works 22 = .ok (.iaload, 1) := z_dd_46 (by decide +kernel)
theorem dX12_works_23 : decode cX12_works 23 = .ok (.istore_n 3, 1) := z_dd_62 (by decide +kernel)
theorem dX12_works_24 : decode cX12_works 24 = .ok (.iload_n 3, 1) := z_dd_29 (by decide +kernel)
theorem dX12_works_25 : decode cX12_works 25 = .ok (.iconst 1, 1) := z_dd_4 (by decide +kernel)
theorem dX12_works_26 : decode cX12_works 26 = .ok (.if_icmp .le 17, 3) := z_dd_164 (by decide +kernel)
theorem dX12_works_43 : decode cX12_works 43 = .ok (.lconst 0, 1) := z_dd_9 (by decide +kernel)
theorem dX12_works_44 : decode cX12_works 44 = .ok (.lstore 4, 2) := z_dd_55 (by decide +kernel)
theorem dX12_works_46 : decode cX12_works 46 = .ok (.iload_n 3, 1) := z_dd_29 (by decide +kernel)
theorem dX12_works_47 : decode cX12_works 47 = .ok (.iconst 1, 1) := z_dd_4 (by decide +kernel)
theorem dX12_works_48 : decode cX12_works 48 = .ok (.if_icmp .le 23, 3) := z_dd_164 (by decide +kernel)
theorem dX12_works_71 : decode cX12_works 71 = .ok (.lconst 0, 1) := z_dd_9 (by decide +kernel)
theorem dX12_works_72 : decode cX12_works 72 = .ok (.lstore 6, 2) := z_dd_55 (by decide +kernel)
theorem dX12_works_74 : decode cX12_works 74 = .ok (.lconst 0, 1) := z_dd_9 (by decide +kernel)
theorem dX12_works_75 : decode cX12_works 75 = .ok (.lstore 8, 2) := z_dd_55 (by decide +kernel)
theorem dX12_works_77 : decode cX12_works 77 = .ok (.iload_n 3, 1) := z_dd_29 (by decide +kernel)
theorem dX12_works_78 : decode cX12_works 78 = .ok (.ifCond .ne 15, 3) := z_dd_154 (by decide +kernel)
theorem dX12_works_93 : decode cX12_works 93 = .ok (.iload_n 3, 1) := z_dd_29 (by decide +kernel)
theorem dX12_works_94 : decode cX12_works 94 = .ok (.iconst 1, 1) := z_dd_4 (by decide +kernel)
theorem dX12_works_95 : decode cX12_works 95 = .ok (.if_icmp .ne 19, 3) := z_dd_160 (by decide +kernel)
theorem dX12_works_114 : decode cX12_works 114 = .ok (.iload_n 3, 1) := z_dd_29 (by decide +kernel)
theorem dX12_works_115 : decode cX12_works 115 = .ok (.iconst 2, 1) := z_dd_5 (by decide +kernel)
theorem dX12_works_116 : decode cX12_works 116 = .ok (.if_icmp .ne 13, 3) := z_dd_160 (by decide +kernel)
theorem dX12_works_129 : decode cX12_works 129 = .ok (.iload_n 3, 1) := z_dd_29 (by decide +kernel)
theorem dX12_works_130 : decode cX12_works 130 = .ok (.iconst 3, 1) := z_dd_6 (by decide +kernel)
theorem dX12_works_131 : decode cX12_works 131 = .ok (.if_icmp .ne 13, 3) := z_dd_160 (by decide +kernel)
theorem dX12_works_144 : decode cX12_works 144 = .ok (.iload_n 3, 1) := z_dd_29 (by decide +kernel)
theorem dX12_works_145 : decode cX12_works 145 = .ok (.iconst 4, 1) := z_dd_7 (by decide +kernel)
theorem dX12_works_146 : decode cX12_works 146 = .ok (.if_icmp .ne 13, 3) := z_dd_160 (by decide +kernel)
theorem dX12_works_159 : decode cX12_works 159 = .ok (.iload_n 3, 1) := z_dd_29 (by decide +kernel)
theorem dX12_works_160 : decode cX12_works 160 = .ok (.iconst 5, 1) := z_dd_8 (by decide +kernel)
theorem dX12_works_161 : decode cX12_works 161 = .ok (.if_icmp .ne 24, 3) := z_dd_160 (by decide +kernel)
theorem dX12_works_185 : decode cX12_works 185 = .ok (.iload_n 3, 1) := z_dd_29 (by decide +kernel)
theorem dX12_works_186 : decode cX12_works 186 = .ok (.bipush 6, 2) := z_dd_16 (by decide +kernel)
theorem dX12_works_188 : decode cX12_works 188 = .ok (.if_icmp .ne 23, 3) := z_dd_160 (by decide +kernel)
theorem dX12_works_211 : decode cX12_works 211 = .ok (.iload_n 3, 1) := z_dd_29 (by decide +kernel)
theorem dX12_works_212 : decode cX12_works 212 = .ok (.bipush 7, 2) := z_dd_16 (by decide +kernel)
theorem dX12_works_214 : decode cX12_works 214 = .ok (.if_icmp .ne 23, 3) := z_dd_160 (by decide +kernel)
theorem dX12_works_237 : decode cX12_works 237 = .ok (.iload_n 3, 1) := z_dd_29 (by decide +kernel)
theorem dX12_works_238 : decode cX12_works 238 = .ok (.bipush 8, 2) := z_dd_16 (by decide +kernel)
theorem dX12_works_240 : decode cX12_works 240 = .ok (.if_icmp .ne 21, 3) := z_dd_160 (by decide +kernel)
theorem dX12_works_261 : decode cX12_works 261 = .ok (.iload_n 3, 1) := z_dd_29 (by decide +kernel)
theorem dX12_works_262 : decode cX12_works 262 = .ok (.bipush 9, 2) := z_dd_16 (by decide +kernel)
theorem dX12_works_264 : decode cX12_works 264 = .ok (.if_icmp .ne 21, 3) := z_dd_160 (by decide +kernel)
theorem dX12_works_285 : decode cX12_works 285 = .ok (.iload_n 3, 1) := z_dd_29 (by decide +kernel)
theorem dX12_works_286 : decode cX12_works 286 = .ok (.bipush 10, 2) := z_dd_16 (by decide +kernel)
theorem dX12_works_288 : decode cX12_works 288 = .ok (.if_icmp .ne 21, 3) := z_dd_160 (by decide +kernel)
theorem dX12_works_309 : decode cX12_works 309 = .ok (.iload_n 3, 1) := z_dd_29 (by decide +kernel)
theorem dX12_works_310 : decode cX12_works 310 = .ok (.bipush 11, 2) := z_dd_16 (by decide +kernel)
theorem dX12_works_312 : decode cX12_works 312 = .ok (.if_icmp .ne 20, 3) := z_dd_160 (by decide +kernel)
theorem dX12_works_332 : decode cX12_works 332 = .ok (.iload_n 3, 1) := z_dd_29 (by decide +kernel)
theorem dX12_works_333 : decode cX12_works 333 = .ok (.bipush 12, 2) := z_dd_16 (by decide +kernel)
theorem dX12_works_335 : decode cX12_works 335 = .ok (.if_icmp .ne 27, 3) := z_dd_160 (by decide +kernel)
theorem dX12_works_362 : decode cX12_works 362 = .ok (.lload 4, 2) := z_dd_22 (by decide +kernel)
theorem dX12_works_364 : decode cX12_works 364 = .ok (.lconst 0, 1) := z_dd_9 (by decide +kernel)
theorem dX12_works_365 : decode cX12_works 365 = .ok (.lcmp, 1) := z_dd_148 (by decide +kernel)
theorem dX12_works_366 : decode cX12_works 366 = .ok (.ifCond .ne 10, 3) := z_dd_154 (by decide +kernel)
theorem dX12_works_376 : decode cX12_works 376 = .ok (.lconst 1, 1) := z_dd_10 (by decide +kernel)
theorem dX12_works_377 : decode cX12_works 377 = .ok (.goto 4, 3) := z_dd_167 (by decide +kernel)
theorem dX12_works_381 : decode cX12_works 381 = .ok (.lstore 8, 2) := z_dd_55 (by decide +kernel)
theorem dX12_works_383 : decode cX12_works 383 = .ok (.aload_n 0, 1) := z_dd_42 (by decide +kernel)
theorem dX12_works_384 : decode cX12_works 384 = .ok (.getfield 79, 3) := z_dd_180 (by decide +kernel)
theorem dX12_works_387 : decode cX12_works 387 = .ok (.iload_n 2, 1) := z_dd_28 (by decide +kernel)
theorem dX12_works_388 : decode cX12_works 388 = .ok (.lload 8, 2) := z_dd_22 (by decide +kernel)
set_option maxRecDepth 20000 in
theorem ggX12_works_X12_held : GoodIn wsX12_works wsX12_held := goodIn_sub (fa_c (me_s (me_l (List.mem_of_getElem? (i := 10) rfl))) (fa_c (me_s (me_l (List.mem_of_getElem? (i := 11) rfl))) (fa_c (me_s (me_l (List.mem_of_getElem? (i := 12) rfl))) fa_n))) (by decide +kernel)
set_option maxRecDepth 20000 in
theorem gX12_works_X12_held : GoodIn wsX12_works (va_wsS RX12 427 yX12_held wsX12_held) := goodIn_app (goodIn_sub (fa_c (me_s (me_l (List.mem_of_getElem? (i := 7) rfl))) (fa_c (me_s (me_l (List.mem_of_getElem? (i := 8) rfl))) (fa_c (me_s (me_l (List.mem_of_getElem? (i := 9) rfl))) fa_n))) (by decide +kernel)) ggX12_works_X12_held
theorem dX12_works_390 : decode cX12_works 390 = .ok (.invokestatic 427, 3) := z_dd_184 (by decide +kernel)
theorem dX12_works_393 : decode cX12_works 393 = .ok (.lastore, 1) := z_dd_80 (by decide +kernel)
theorem dX12_works_394 : decode cX12_works 394 = .ok (.iinc 2 1, 3) := z_dd_132 (by decide +kernel)
theorem dX12_works_397 : decode cX12_works 397 = .ok (.goto (-390), 3) := z_dd_167 (by decide +kernel)
theorem dX12_works_369 : decode cX12_works 369 = .ok (.lload 6, 2) := z_dd_22 (by decide +kernel)
theorem dX12_works_371 : decode cX12_works 371 = .ok (.lconst 0, 1) := z_dd_9 (by decide +kernel)
theorem dX12_works_372 : decode cX12_works 372 = .ok (.lcmp, 1) := z_dd_148 (by decide +kernel)
theorem dX12_works_373 : decode cX12_works 373 = .ok (.ifCond .eq 7, 3) := z_dd_153 (by decide +kernel)
theorem dX12_works_380 : decode cX12_works 380 = .ok (.lconst 0, 1) := z_dd_9 (by decide +kernel)
theorem dX12_works_98 : decode cX12_works 98 = .ok (.aload_n 0, 1) := z_dd_42 (by decide +kernel)
theorem dX12_works_99 : decode cX12_works 99 = .ok (.getfield 103, 3) := z_dd_180 (by decide +kernel)
theorem dX12_works_102 : decode cX12_works 102 = .ok (.aload_n 0, 1) := z_dd_42 (by decide +kernel)
theorem dX12_works_103 : decode cX12_works 103 = .ok (.getfield 73, 3) := z_dd_180 (by decide +kernel)
theorem dX12_works_106 : decode cX12_works 106 = .ok (.iload_n 2, 1) := z_dd_28 (by decide +kernel)
theorem dX12_works_107 : decode cX12_works 107 = .ok (.iaload, 1) := z_dd_46 (by decide +kernel)
theorem dX12_works_108 : decode cX12_works 108 = .ok (.laload, 1) := z_dd_47 (by decide +kernel)
theorem dX12_works_109 : decode cX12_works 109 = .ok (.lstore 8, 2) := z_dd_55 (by decide +kernel)
theorem dX12_works_111 : decode cX12_works 111 = .ok (.goto 272, 3) := z_dd_167 (by decide +kernel)
theorem dX12_works_81 : decode cX12_works 81 = .ok (.aload_n 0, 1) := z_dd_42 (by decide +kernel)
theorem dX12_works_82 : decode cX12_works 82 = .ok (.getfield 73, 3) := z_dd_180 (by decide +kernel)
theorem dX12_works_85 : decode cX12_works 85 = .ok (.iload_n 2, 1) := z_dd_28 (by decide +kernel)
theorem dX12_works_86 : decode cX12_works 86 = .ok (.iaload, 1) := z_dd_46 (by decide +kernel)
theorem dX12_works_87 : decode cX12_works 87 = .ok (.i2l, 1) := z_dd_133 (by decide +kernel)
theorem dX12_works_88 : decode cX12_works 88 = .ok (.lstore 8, 2) := z_dd_55 (by decide +kernel)
theorem dX12_works_90 : decode cX12_works 90 = .ok (.goto 293, 3) := z_dd_167 (by decide +kernel)
theorem dX12_works_29 : decode cX12_works 29 = .ok (.aload_n 0, 1) := z_dd_42 (by decide +kernel)
theorem dX12_works_30 : decode cX12_works 30 = .ok (.getfield 79, 3) := z_dd_180 (by decide +kernel)
theorem dX12_works_33 : decode cX12_works 33 = .ok (.aload_n 0, 1) := z_dd_42 (by decide +kernel)
theorem dX12_works_34 : decode cX12_works 34 = .ok (.getfield 73, 3) := z_dd_180 (by decide +kernel)
theorem dX12_works_37 : decode cX12_works 37 = .ok (.iload_n 2, 1) := z_dd_28 (by decide +kernel)
theorem dX12_works_38 : decode cX12_works 38 = .ok (.iaload, 1) := z_dd_46 (by decide +kernel)
theorem dX12_works_39 : decode cX12_works 39 = .ok (.laload, 1) := z_dd_47 (by decide +kernel)
theorem dX12_works_40 : decode cX12_works 40 = .ok (.goto 4, 3) := z_dd_167 (by decide +kernel)
theorem dX12_works_51 : decode cX12_works 51 = .ok (.iload_n 3, 1) := z_dd_29 (by decide +kernel)
theorem dX12_works_52 : decode cX12_works 52 = .ok (.bipush 11, 2) := z_dd_16 (by decide +kernel)
theorem dX12_works_54 : decode cX12_works 54 = .ok (.if_icmp .eq 17, 3) := z_dd_159 (by decide +kernel)
theorem dX12_works_315 : decode cX12_works 315 = .ok (.lload 4, 2) := z_dd_22 (by decide +kernel)
theorem dX12_works_317 : decode cX12_works 317 = .ok (.lconst 0, 1) := z_dd_9 (by decide +kernel)
theorem dX12_works_318 : decode cX12_works 318 = .ok (.lcmp, 1) := z_dd_148 (by decide +kernel)
theorem dX12_works_319 : decode cX12_works 319 = .ok (.ifCond .ne 7, 3) := z_dd_154 (by decide +kernel)
theorem dX12_works_326 : decode cX12_works 326 = .ok (.lconst 0, 1) := z_dd_9 (by decide +kernel)
theorem dX12_works_327 : decode cX12_works 327 = .ok (.lstore 8, 2) := z_dd_55 (by decide +kernel)
theorem dX12_works_329 : decode cX12_works 329 = .ok (.goto 54, 3) := z_dd_167 (by decide +kernel)
theorem dX12_works_322 : decode cX12_works 322 = .ok (.lconst 1, 1) := z_dd_10 (by decide +kernel)
theorem dX12_works_323 : decode cX12_works 323 = .ok (.goto 4, 3) := z_dd_167 (by decide +kernel)
theorem dX12_works_57 : decode cX12_works 57 = .ok (.aload_n 0, 1) := z_dd_42 (by decide +kernel)
theorem dX12_works_58 : decode cX12_works 58 = .ok (.getfield 79, 3) := z_dd_180 (by decide +kernel)
theorem dX12_works_61 : decode cX12_works 61 = .ok (.aload_n 0, 1) := z_dd_42 (by decide +kernel)
theorem dX12_works_62 : decode cX12_works 62 = .ok (.getfield 76, 3) := z_dd_180 (by decide +kernel)
theorem dX12_works_65 : decode cX12_works 65 = .ok (.iload_n 2, 1) := z_dd_28 (by decide +kernel)
theorem dX12_works_66 : decode cX12_works 66 = .ok (.iaload, 1) := z_dd_46 (by decide +kernel)
theorem dX12_works_67 : decode cX12_works 67 = .ok (.laload, 1) := z_dd_47 (by decide +kernel)
theorem dX12_works_68 : decode cX12_works 68 = .ok (.goto 4, 3) := z_dd_167 (by decide +kernel)
theorem dX12_works_338 : decode cX12_works 338 = .ok (.lload 4, 2) := z_dd_22 (by decide +kernel)
theorem dX12_works_340 : decode cX12_works 340 = .ok (.lconst 0, 1) := z_dd_9 (by decide +kernel)
theorem dX12_works_341 : decode cX12_works 341 = .ok (.lcmp, 1) := z_dd_148 (by decide +kernel)
theorem dX12_works_342 : decode cX12_works 342 = .ok (.ifCond .eq 14, 3) := z_dd_153 (by decide +kernel)
theorem dX12_works_356 : decode cX12_works 356 = .ok (.lconst 0, 1) := z_dd_9 (by decide +kernel)
theorem dX12_works_357 : decode cX12_works 357 = .ok (.lstore 8, 2) := z_dd_55 (by decide +kernel)
theorem dX12_works_359 : decode cX12_works 359 = .ok (.goto 24, 3) := z_dd_167 (by decide +kernel)
theorem dX12_works_345 : decode cX12_works 345 = .ok (.lload 6, 2) := z_dd_22 (by decide +kernel)
theorem dX12_works_347 : decode cX12_works 347 = .ok (.lconst 0, 1) := z_dd_9 (by decide +kernel)
theorem dX12_works_348 : decode cX12_works 348 = .ok (.lcmp, 1) := z_dd_148 (by decide +kernel)
theorem dX12_works_349 : decode cX12_works 349 = .ok (.ifCond .eq 7, 3) := z_dd_153 (by decide +kernel)
theorem dX12_works_352 : decode cX12_works 352 = .ok (.lconst 1, 1) := z_dd_10 (by decide +kernel)
theorem dX12_works_353 : decode cX12_works 353 = .ok (.goto 4, 3) := z_dd_167 (by decide +kernel)
theorem dX12_works_291 : decode cX12_works 291 = .ok (.lload 4, 2) := z_dd_22 (by decide +kernel)
theorem dX12_works_293 : decode cX12_works 293 = .ok (.lload 6, 2) := z_dd_22 (by decide +kernel)
theorem dX12_works_295 : decode cX12_works 295 = .ok (.lcmp, 1) := z_dd_148 (by decide +kernel)
theorem dX12_works_296 : decode cX12_works 296 = .ok (.ifCond .ne 7, 3) := z_dd_154 (by decide +kernel)
theorem dX12_works_303 : decode cX12_works 303 = .ok (.lconst 0, 1) := z_dd_9 (by decide +kernel)
theorem dX12_works_304 : decode cX12_works 304 = .ok (.lstore 8, 2) := z_dd_55 (by decide +kernel)
theorem dX12_works_306 : decode cX12_works 306 = .ok (.goto 77, 3) := z_dd_167 (by decide +kernel)
theorem dX12_works_299 : decode cX12_works 299 = .ok (.lconst 1, 1) := z_dd_10 (by decide +kernel)
theorem dX12_works_300 : decode cX12_works 300 = .ok (.goto 4, 3) := z_dd_167 (by decide +kernel)
theorem dX12_works_267 : decode cX12_works 267 = .ok (.lload 4, 2) := z_dd_22 (by decide +kernel)
theorem dX12_works_269 : decode cX12_works 269 = .ok (.lload 6, 2) := z_dd_22 (by decide +kernel)
theorem dX12_works_271 : decode cX12_works 271 = .ok (.lcmp, 1) := z_dd_148 (by decide +kernel)
theorem dX12_works_272 : decode cX12_works 272 = .ok (.ifCond .le 7, 3) := z_dd_158 (by decide +kernel)
theorem dX12_works_279 : decode cX12_works 279 = .ok (.lconst 0, 1) := z_dd_9 (by decide +kernel)
theorem dX12_works_280 : decode cX12_works 280 = .ok (.lstore 8, 2) := z_dd_55 (by decide +kernel)
theorem dX12_works_282 : decode cX12_works 282 = .ok (.goto 101, 3) := z_dd_167 (by decide +kernel)
theorem dX12_works_275 : decode cX12_works 275 = .ok (.lconst 1, 1) := z_dd_10 (by decide +kernel)
theorem dX12_works_276 : decode cX12_works 276 = .ok (.goto 4, 3) := z_dd_167 (by decide +kernel)
theorem dX12_works_243 : decode cX12_works 243 = .ok (.lload 4, 2) := z_dd_22 (by decide +kernel)
theorem dX12_works_245 : decode cX12_works 245 = .ok (.lload 6, 2) := z_dd_22 (by decide +kernel)
theorem dX12_works_247 : decode cX12_works 247 = .ok (.lcmp, 1) := z_dd_148 (by decide +kernel)
theorem dX12_works_248 : decode cX12_works 248 = .ok (.ifCond .ge 7, 3) := z_dd_156 (by decide +kernel)
theorem dX12_works_255 : decode cX12_works 255 = .ok (.lconst 0, 1) := z_dd_9 (by decide +kernel)
theorem dX12_works_256 : decode cX12_works 256 = .ok (.lstore 8, 2) := z_dd_55 (by decide +kernel)
theorem dX12_works_258 : decode cX12_works 258 = .ok (.goto 125, 3) := z_dd_167 (by decide +kernel)
theorem dX12_works_251 : decode cX12_works 251 = .ok (.lconst 1, 1) := z_dd_10 (by decide +kernel)
theorem dX12_works_252 : decode cX12_works 252 = .ok (.goto 4, 3) := z_dd_167 (by decide +kernel)
theorem dX12_works_217 : decode cX12_works 217 = .ok (.lload 4, 2) := z_dd_22 (by decide +kernel)
theorem dX12_works_219 : decode cX12_works 219 = .ok (.lload 6, 2) := z_dd_22 (by decide +kernel)
theorem dX12_works_221 : decode cX12_works 221 = .ok (.lcmp, 1) := z_dd_148 (by decide +kernel)
theorem dX12_works_222 : decode cX12_works 222 = .ok (.ifCond .le 8, 3) := z_dd_158 (by decide +kernel)
theorem dX12_works_230 : decode cX12_works 230 = .ok (.lload 6, 2) := z_dd_22 (by decide +kernel)
theorem dX12_works_232 : decode cX12_works 232 = .ok (.lstore 8, 2) := z_dd_55 (by decide +kernel)
theorem dX12_works_234 : decode cX12_works 234 = .ok (.goto 149, 3) := z_dd_167 (by decide +kernel)
theorem dX12_works_225 : decode cX12_works 225 = .ok (.lload 4, 2) := z_dd_22 (by decide +kernel)
theorem dX12_works_227 : decode cX12_works 227 = .ok (.goto 5, 3) := z_dd_167 (by decide +kernel)
theorem dX12_works_191 : decode cX12_works 191 = .ok (.lload 4, 2) := z_dd_22 (by decide +kernel)
theorem dX12_works_193 : decode cX12_works 193 = .ok (.lload 6, 2) := z_dd_22 (by decide +kernel)
theorem dX12_works_195 : decode cX12_works 195 = .ok (.lcmp, 1) := z_dd_148 (by decide +kernel)
theorem dX12_works_196 : decode cX12_works 196 = .ok (.ifCond .ge 8, 3) := z_dd_156 (by decide +kernel)
theorem dX12_works_204 : decode cX12_works 204 = .ok (.lload 6, 2) := z_dd_22 (by decide +kernel)
theorem dX12_works_206 : decode cX12_works 206 = .ok (.lstore 8, 2) := z_dd_55 (by decide +kernel)
theorem dX12_works_208 : decode cX12_works 208 = .ok (.goto 175, 3) := z_dd_167 (by decide +kernel)
theorem dX12_works_199 : decode cX12_works 199 = .ok (.lload 4, 2) := z_dd_22 (by decide +kernel)
theorem dX12_works_201 : decode cX12_works 201 = .ok (.goto 5, 3) := z_dd_167 (by decide +kernel)
theorem dX12_works_164 : decode cX12_works 164 = .ok (.lload 6, 2) := z_dd_22 (by decide +kernel)
theorem dX12_works_166 : decode cX12_works 166 = .ok (.lconst 0, 1) := z_dd_9 (by decide +kernel)
theorem dX12_works_167 : decode cX12_works 167 = .ok (.lcmp, 1) := z_dd_148 (by decide +kernel)
theorem dX12_works_168 : decode cX12_works 168 = .ok (.ifCond .ne 7, 3) := z_dd_154 (by decide +kernel)
theorem dX12_works_175 : decode cX12_works 175 = .ok (.lload 4, 2) := z_dd_22 (by decide +kernel)
theorem dX12_works_177 : decode cX12_works 177 = .ok (.lload 6, 2) := z_dd_22 (by decide +kernel)
theorem dX12_works_179 : decode cX12_works 179 = .ok (.ldiv, 1) := z_dd_109 (by decide +kernel)
theorem dX12_works_180 : decode cX12_works 180 = .ok (.lstore 8, 2) := z_dd_55 (by decide +kernel)
theorem dX12_works_182 : decode cX12_works 182 = .ok (.goto 201, 3) := z_dd_167 (by decide +kernel)
theorem dX12_works_171 : decode cX12_works 171 = .ok (.lconst 0, 1) := z_dd_9 (by decide +kernel)
theorem dX12_works_172 : decode cX12_works 172 = .ok (.goto 8, 3) := z_dd_167 (by decide +kernel)
theorem dX12_works_149 : decode cX12_works 149 = .ok (.lload 4, 2) := z_dd_22 (by decide +kernel)
theorem dX12_works_151 : decode cX12_works 151 = .ok (.lload 6, 2) := z_dd_22 (by decide +kernel)
theorem dX12_works_153 : decode cX12_works 153 = .ok (.lmul, 1) := z_dd_105 (by decide +kernel)
theorem dX12_works_154 : decode cX12_works 154 = .ok (.lstore 8, 2) := z_dd_55 (by decide +kernel)
theorem dX12_works_156 : decode cX12_works 156 = .ok (.goto 227, 3) := z_dd_167 (by decide +kernel)
theorem dX12_works_134 : decode cX12_works 134 = .ok (.lload 4, 2) := z_dd_22 (by decide +kernel)
theorem dX12_works_136 : decode cX12_works 136 = .ok (.lload 6, 2) := z_dd_22 (by decide +kernel)
theorem dX12_works_138 : decode cX12_works 138 = .ok (.lsub, 1) := z_dd_101 (by decide +kernel)
theorem dX12_works_139 : decode cX12_works 139 = .ok (.lstore 8, 2) := z_dd_55 (by decide +kernel)
theorem dX12_works_141 : decode cX12_works 141 = .ok (.goto 242, 3) := z_dd_167 (by decide +kernel)
theorem dX12_works_119 : decode cX12_works 119 = .ok (.lload 4, 2) := z_dd_22 (by decide +kernel)
theorem dX12_works_121 : decode cX12_works 121 = .ok (.lload 6, 2) := z_dd_22 (by decide +kernel)
theorem dX12_works_123 : decode cX12_works 123 = .ok (.ladd, 1) := z_dd_97 (by decide +kernel)
theorem dX12_works_124 : decode cX12_works 124 = .ok (.lstore 8, 2) := z_dd_55 (by decide +kernel)
theorem dX12_works_126 : decode cX12_works 126 = .ok (.goto 257, 3) := z_dd_167 (by decide +kernel)
theorem dX12_holds_0 : decode cX12_holds 0 = .ok (.aload_n 0, 1) := z_dd_42 (by decide +kernel)
theorem dX12_holds_1 : decode cX12_holds 1 = .ok (.iload_n 1, 1) := z_dd_27 (by decide +kernel)
set_option maxRecDepth 20000 in
theorem ggX12_holds_X12_works : GoodIn wsX12_holds wsX12_works := goodIn_sub (fa_c (me_s (me_l (List.mem_of_getElem? (i := 6) rfl))) (fa_a (fa_c (me_s (me_l (List.mem_of_getElem? (i := 7) rfl))) (fa_c (me_s (me_l (List.mem_of_getElem? (i := 8) rfl))) (fa_c (me_s (me_l (List.mem_of_getElem? (i := 9) rfl))) (fa_c (me_s (me_l (List.mem_of_getElem? (i := 1) rfl))) (fa_c (me_s (me_l (List.mem_of_getElem? (i := 10) rfl))) (fa_c (me_s (me_l (List.mem_of_getElem? (i := 11) rfl))) (fa_c (me_s (me_l (List.mem_of_getElem? (i := 12) rfl))) (fa_c (me_s (me_l (List.mem_of_getElem? (i := 13) rfl))) (fa_c (me_s (me_l (List.mem_of_getElem? (i := 14) rfl))) (fa_c (me_s (me_l (List.mem_of_getElem? (i := 5) rfl))) (fa_c (me_s (me_l (List.mem_of_getElem? (i := 15) rfl))) (fa_c (me_s (me_l (List.mem_of_getElem? (i := 16) rfl))) (fa_c (me_s (me_l (List.mem_of_getElem? (i := 17) rfl))) fa_n))))))))))))) (fun w h => (me_s (me_r h))))) (by decide +kernel)
set_option maxRecDepth 20000 in
theorem gX12_holds_X12_works : GoodIn wsX12_holds (wsV RX12 431 RX12 yX12_works wsX12_works) := goodIn_app (goodIn_sub (fa_c (me_s (me_l (List.mem_of_getElem? (i := 2) rfl))) (fa_c (me_s (me_l (List.mem_of_getElem? (i := 3) rfl))) (fa_c (me_s (me_l (List.mem_of_getElem? (i := 4) rfl))) (fa_c (me_s (me_l (List.mem_of_getElem? (i := 5) rfl))) fa_n)))) (by decide +kernel)) ggX12_holds_X12_works
theorem dX12_holds_2 : decode cX12_holds 2 = .ok (.invokevirtual 431, 3) := z_dd_182 (by decide +kernel)
theorem dX12_holds_5 : decode cX12_holds 5 = .ok (.aload_n 0, 1) := z_dd_42 (by decide +kernel)
theorem dX12_holds_6 : decode cX12_holds 6 = .ok (.getfield 61, 3) := z_dd_180 (by decide +kernel)
theorem dX12_holds_9 : decode cX12_holds 9 = .ok (.iload_n 1, 1) := z_dd_27 (by decide +kernel)
theorem dX12_holds_10 : decode cX12_holds 10 = .ok (.iaload, 1) := z_dd_46 (by decide +kernel)
theorem dX12_holds_11 : decode cX12_holds 11 = .ok (.ifCond .lt 19, 3) := z_dd_155 (by decide +kernel)
theorem dX12_holds_30 : decode cX12_holds 30 = .ok (.iconst 1, 1) := z_dd_4 (by decide +kernel)
theorem dX12_holds_31 : decode cX12_holds 31 = .ok (.goto 4, 3) := z_dd_167 (by decide +kernel)
theorem dX12_holds_35 : decode cX12_holds 35 = .ok (.ireturn, 1) := z_dd_172 (by decide +kernel)
theorem dX12_holds_14 : decode cX12_holds 14 = .ok (.aload_n 0, 1) := z_dd_42 (by decide +kernel)
theorem dX12_holds_15 : decode cX12_holds 15 = .ok (.getfield 79, 3) := z_dd_180 (by decide +kernel)
theorem dX12_holds_18 : decode cX12_holds 18 = .ok (.aload_n 0, 1) := z_dd_42 (by decide +kernel)
theorem dX12_holds_19 : decode cX12_holds 19 = .ok (.getfield 61, 3) := z_dd_180 (by decide +kernel)
theorem dX12_holds_22 : decode cX12_holds 22 = .ok (.iload_n 1, 1) := z_dd_27 (by decide +kernel)
theorem dX12_holds_23 : decode cX12_holds 23 = .ok (.iaload, 1) := z_dd_46 (by decide +kernel)
theorem dX12_holds_24 : decode cX12_holds 24 = .ok (.laload, 1) := z_dd_47 (by decide +kernel)
theorem dX12_holds_25 : decode cX12_holds 25 = .ok (.lconst 0, 1) := z_dd_9 (by decide +kernel)
theorem dX12_holds_26 : decode cX12_holds 26 = .ok (.lcmp, 1) := z_dd_148 (by decide +kernel)
theorem dX12_holds_27 : decode cX12_holds 27 = .ok (.ifCond .eq 7, 3) := z_dd_153 (by decide +kernel)
theorem dX12_holds_34 : decode cX12_holds 34 = .ok (.iconst 0, 1) := z_dd_3 (by decide +kernel)
theorem dX12_first_0 : decode cX12_first 0 = .ok (.iload_n 1, 1) := z_dd_27 (by decide +kernel)
theorem dX12_first_1 : decode cX12_first 1 = .ok (.ifCond .ge 5, 3) := z_dd_156 (by decide +kernel)
theorem dX12_first_6 : decode cX12_first 6 = .ok (.aload_n 0, 1) := z_dd_42 (by decide +kernel)
theorem dX12_first_7 : decode cX12_first 7 = .ok (.getfield 40, 3) := z_dd_180 (by decide +kernel)
theorem dX12_first_10 : decode cX12_first 10 = .ok (.iload_n 1, 1) := z_dd_27 (by decide +kernel)
theorem dX12_first_11 : decode cX12_first 11 = .ok (.iaload, 1) := z_dd_46 (by decide +kernel)
theorem dX12_first_12 : decode cX12_first 12 = .ok (.istore_n 3, 1) := z_dd_62 (by decide +kernel)
theorem dX12_first_13 : decode cX12_first 13 = .ok (.iload_n 3, 1) := z_dd_29 (by decide +kernel)
theorem dX12_first_14 : decode cX12_first 14 = .ok (.aload_n 0, 1) := z_dd_42 (by decide +kernel)
theorem dX12_first_15 : decode cX12_first 15 = .ok (.getfield 40, 3) := z_dd_180 (by decide +kernel)
theorem dX12_first_18 : decode cX12_first 18 = .ok (.iload_n 1, 1) := z_dd_27 (by decide +kernel)
theorem dX12_first_19 : decode cX12_first 19 = .ok (.iaload, 1) := z_dd_46 (by decide +kernel)
theorem dX12_first_20 : decode cX12_first 20 = .ok (.aload_n 0, 1) := z_dd_42 (by decide +kernel)
theorem dX12_first_21 : decode cX12_first 21 = .ok (.getfield 43, 3) := z_dd_180 (by decide +kernel)
theorem dX12_first_24 : decode cX12_first 24 = .ok (.iload_n 1, 1) := z_dd_27 (by decide +kernel)
theorem dX12_first_25 : decode cX12_first 25 = .ok (.iaload, 1) := z_dd_46 (by decide +kernel)
theorem dX12_first_26 : decode cX12_first 26 = .ok (.iadd, 1) := z_dd_96 (by decide +kernel)
theorem dX12_first_27 : decode cX12_first 27 = .ok (.if_icmp .ge 72, 3) := z_dd_162 (by decide +kernel)
theorem dX12_first_99 : decode cX12_first 99 = .ok (.iconst 0, 1) := z_dd_3 (by decide +kernel)
theorem dX12_first_100 : decode cX12_first 100 = .ok (.ireturn, 1) := z_dd_172 (by decide +kernel)
theorem dX12_first_30 : decode cX12_first 30 = .ok (.aload_n 0, 1) := z_dd_42 (by decide +kernel)
theorem dX12_first_31 : decode cX12_first 31 = .ok (.getfield 52, 3) := z_dd_180 (by decide +kernel)
theorem dX12_first_34 : decode cX12_first 34 = .ok (.iload_n 3, 1) := z_dd_29 (by decide +kernel)
theorem dX12_first_35 : decode cX12_first 35 = .ok (.iaload, 1) := z_dd_46 (by decide +kernel)
theorem dX12_first_36 : decode cX12_first 36 = .ok (.iload_n 2, 1) := z_dd_28 (by decide +kernel)
theorem dX12_first_37 : decode cX12_first 37 = .ok (.if_icmp .ne 56, 3) := z_dd_160 (by decide +kernel)
theorem dX12_first_93 : decode cX12_first 93 = .ok (.iinc 3 1, 3) := z_dd_132 (by decide +kernel)
theorem dX12_first_96 : decode cX12_first 96 = .ok (.goto (-83), 3) := z_dd_167 (by decide +kernel)
theorem dX12_first_40 : decode cX12_first 40 = .ok (.aload_n 0, 1) := z_dd_42 (by decide +kernel)
theorem dX12_first_41 : decode cX12_first 41 = .ok (.iload_n 3, 1) := z_dd_29 (by decide +kernel)
set_option maxRecDepth 20000 in
theorem ggX12_first_X12_holds : GoodIn wsX12_first wsX12_holds := goodIn_sub (fa_c (me_s (me_l (me_l (List.mem_of_getElem? (i := 10) rfl)))) (fa_a (fa_c (me_s (me_l (me_l (List.mem_of_getElem? (i := 11) rfl)))) (fa_c (me_s (me_l (me_l (List.mem_of_getElem? (i := 3) rfl)))) (fa_c (me_s (me_l (me_l (List.mem_of_getElem? (i := 12) rfl)))) (fa_c (me_s (me_l (me_l (List.mem_of_getElem? (i := 13) rfl)))) (fa_c (me_s (me_l (me_l (List.mem_of_getElem? (i := 14) rfl)))) (fa_c (me_s (me_l (me_l (List.mem_of_getElem? (i := 9) rfl)))) (fa_c (me_s (me_l (me_l (List.mem_of_getElem? (i := 15) rfl)))) (fa_c (me_s (me_l (me_l (List.mem_of_getElem? (i := 16) rfl)))) (fa_c (me_s (me_l (me_l (List.mem_of_getElem? (i := 17) rfl)))) (fa_c (me_s (me_l (me_l (List.mem_of_getElem? (i := 18) rfl)))) (fa_c (me_s (me_l (me_l (List.mem_of_getElem? (i := 19) rfl)))) (fa_c (me_s (me_l (me_l (List.mem_of_getElem? (i := 20) rfl)))) (fa_c (me_s (me_l (me_l (List.mem_of_getElem? (i := 21) rfl)))) (fa_c (me_s (me_l (me_l (List.mem_of_getElem? (i := 22) rfl)))) (fa_c (me_s (me_l (me_l (List.mem_of_getElem? (i := 23) rfl)))) (fa_c (me_s (me_l (me_r (List.mem_of_getElem? (i := 0) rfl)))) (fa_c (me_s (me_l (me_r (List.mem_of_getElem? (i := 1) rfl)))) (fa_c (me_s (me_l (me_r (List.mem_of_getElem? (i := 2) rfl)))) fa_n)))))))))))))))))) (fun w h => (me_s (me_r h))))) (by decide +kernel)
set_option maxRecDepth 20000 in
theorem gX12_first_X12_holds : GoodIn wsX12_first (wsV RX12 434 RX12 yX12_holds wsX12_holds) := goodIn_app (goodIn_sub (fa_c (me_s (me_l (me_l (List.mem_of_getElem? (i := 6) rfl)))) (fa_c (me_s (me_l (me_l (List.mem_of_getElem? (i := 7) rfl)))) (fa_c (me_s (me_l (me_l (List.mem_of_getElem? (i := 8) rfl)))) (fa_c (me_s (me_l (me_l (List.mem_of_getElem? (i := 9) rfl)))) fa_n)))) (by decide +kernel)) ggX12_first_X12_holds
theorem dX12_first_42 : decode cX12_first 42 = .ok (.invokevirtual 434, 3) := z_dd_182 (by decide +kernel)
theorem dX12_first_45 : decode cX12_first 45 = .ok (.ifCond .ne 6, 3) := z_dd_154 (by decide +kernel)
theorem dX12_first_51 : decode cX12_first 51 = .ok (.aload_n 0, 1) := z_dd_42 (by decide +kernel)
theorem dX12_first_52 : decode cX12_first 52 = .ok (.getfield 79, 3) := z_dd_180 (by decide +kernel)
theorem dX12_first_55 : decode cX12_first 55 = .ok (.aload_n 0, 1) := z_dd_42 (by decide +kernel)
theorem dX12_first_56 : decode cX12_first 56 = .ok (.getfield 58, 3) := z_dd_180 (by decide +kernel)
theorem dX12_first_59 : decode cX12_first 59 = .ok (.iload_n 3, 1) := z_dd_29 (by decide +kernel)
theorem dX12_first_60 : decode cX12_first 60 = .ok (.iaload, 1) := z_dd_46 (by decide +kernel)
theorem dX12_first_61 : decode cX12_first 61 = .ok (.laload, 1) := z_dd_47 (by decide +kernel)
theorem dX12_first_62 : decode cX12_first 62 = .ok (.lstore 4, 2) := z_dd_55 (by decide +kernel)
theorem dX12_first_64 : decode cX12_first 64 = .ok (.lload 4, 2) := z_dd_22 (by decide +kernel)
theorem dX12_first_66 : decode cX12_first 66 = .ok (.lconst 0, 1) := z_dd_9 (by decide +kernel)
theorem dX12_first_67 : decode cX12_first 67 = .ok (.lcmp, 1) := z_dd_148 (by decide +kernel)
theorem dX12_first_68 : decode cX12_first 68 = .ok (.ifCond .ge 7, 3) := z_dd_156 (by decide +kernel)
theorem dX12_first_75 : decode cX12_first 75 = .ok (.lload 4, 2) := z_dd_22 (by decide +kernel)
theorem dX12_first_77 : decode cX12_first 77 = .ok (.ldc2_w 437, 3) := z_dd_20 (by decide +kernel)
theorem dX12_first_80 : decode cX12_first 80 = .ok (.lcmp, 1) := z_dd_148 (by decide +kernel)
theorem dX12_first_81 : decode cX12_first 81 = .ok (.ifCond .le 8, 3) := z_dd_158 (by decide +kernel)
theorem dX12_first_89 : decode cX12_first 89 = .ok (.lload 4, 2) := z_dd_22 (by decide +kernel)
theorem dX12_first_91 : decode cX12_first 91 = .ok (.l2i, 1) := z_dd_136 (by decide +kernel)
theorem dX12_first_92 : decode cX12_first 92 = .ok (.ireturn, 1) := z_dd_172 (by decide +kernel)
theorem dX12_first_84 : decode cX12_first 84 = .ok (.bipush 99, 2) := z_dd_16 (by decide +kernel)
theorem dX12_first_86 : decode cX12_first 86 = .ok (.goto 6, 3) := z_dd_167 (by decide +kernel)
theorem dX12_first_71 : decode cX12_first 71 = .ok (.iconst 0, 1) := z_dd_3 (by decide +kernel)
theorem dX12_first_72 : decode cX12_first 72 = .ok (.goto 20, 3) := z_dd_167 (by decide +kernel)
theorem dX12_first_48 : decode cX12_first 48 = .ok (.goto 45, 3) := z_dd_167 (by decide +kernel)
theorem dX12_first_4 : decode cX12_first 4 = .ok (.iconst 0, 1) := z_dd_3 (by decide +kernel)
theorem dX12_first_5 : decode cX12_first 5 = .ok (.ireturn, 1) := z_dd_172 (by decide +kernel)
theorem dX12_unitsOf_0 : decode cX12_unitsOf 0 = .ok (.aload_n 0, 1) := z_dd_42 (by decide +kernel)
theorem dX12_unitsOf_1 : decode cX12_unitsOf 1 = .ok (.iload_n 1, 1) := z_dd_27 (by decide +kernel)
theorem dX12_unitsOf_2 : decode cX12_unitsOf 2 = .ok (.aload_n 0, 1) := z_dd_42 (by decide +kernel)
theorem dX12_unitsOf_3 : decode cX12_unitsOf 3 = .ok (.iload_n 1, 1) := z_dd_27 (by decide +kernel)
theorem dX12_unitsOf_4 : decode cX12_unitsOf 4 = .ok (.bipush 30, 2) := z_dd_16 (by decide +kernel)
theorem dX12_unitsOf_6 : decode cX12_unitsOf 6 = .ok (.iload_n 2, 1) := z_dd_28 (by decide +kernel)
theorem dX12_unitsOf_7 : decode cX12_unitsOf 7 = .ok (.imul, 1) := z_dd_104 (by decide +kernel)
theorem dX12_unitsOf_8 : decode cX12_unitsOf 8 = .ok (.iload_n 3, 1) := z_dd_29 (by decide +kernel)
set_option maxRecDepth 20000 in
theorem ggX12_unitsOf_X12_kindOn : GoodIn wsX12_unitsOf wsX12_kindOn := goodIn_sub (fa_c (me_s (me_l (me_l (List.mem_of_getElem? (i := 7) rfl)))) (fa_a (fa_c (me_s (me_l (me_l (List.mem_of_getElem? (i := 8) rfl)))) (fa_c (me_s (me_l (me_l (List.mem_of_getElem? (i := 9) rfl)))) (fa_c (me_s (me_l (me_l (List.mem_of_getElem? (i := 10) rfl)))) (fa_c (me_s (me_l (me_l (List.mem_of_getElem? (i := 11) rfl)))) (fa_c (me_s (me_l (me_l (List.mem_of_getElem? (i := 12) rfl)))) (fa_c (me_s (me_l (me_l (List.mem_of_getElem? (i := 13) rfl)))) fa_n)))))) (fun w h => (me_s (me_r h))))) (by decide +kernel)
set_option maxRecDepth 20000 in
theorem gX12_unitsOf_X12_kindOn : GoodIn wsX12_unitsOf (wsV RX12 249 RX12 yX12_kindOn wsX12_kindOn) := goodIn_app (goodIn_sub (fa_c (me_s (me_l (me_l (List.mem_of_getElem? (i := 3) rfl)))) (fa_c (me_s (me_l (me_l (List.mem_of_getElem? (i := 4) rfl)))) (fa_c (me_s (me_l (me_l (List.mem_of_getElem? (i := 5) rfl)))) (fa_c (me_s (me_l (me_l (List.mem_of_getElem? (i := 6) rfl)))) fa_n)))) (by decide +kernel)) ggX12_unitsOf_X12_kindOn
theorem dX12_unitsOf_9 : decode cX12_unitsOf 9 = .ok (.invokevirtual 249, 3) := z_dd_182 (by decide +kernel)
theorem dX12_unitsOf_12 : decode cX12_unitsOf 12 = .ok (.iload_n 2, 1) := z_dd_28 (by decide +kernel)
theorem dX12_unitsOf_13 : decode cX12_unitsOf 13 = .ok (.iconst 0, 1) := z_dd_3 (by decide +kernel)
theorem dX12_unitsOf_14 : decode cX12_unitsOf 14 = .ok (.iconst 0, 1) := z_dd_3 (by decide +kernel)
theorem dX12_unitsOf_15 : decode cX12_unitsOf 15 = .ok (.iconst 0, 1) := z_dd_3 (by decide +kernel)
set_option maxRecDepth 20000 in
theorem ggX12_unitsOf_X12_asked : GoodIn wsX12_unitsOf wsX12_asked := goodIn_sub (fa_c (me_s (me_l (me_l (List.mem_of_getElem? (i := 17) rfl)))) (fa_a (fa_c (me_s (me_l (me_l (List.mem_of_getElem? (i := 18) rfl)))) (fa_c (me_s (me_l (me_l (List.mem_of_getElem? (i := 19) rfl)))) (fa_c (me_s (me_l (me_l (List.mem_of_getElem? (i := 20) rfl)))) fa_n))) (fun w h => (me_s (me_r h))))) (by decide +kernel)
set_option maxRecDepth 20000 in
theorem gX12_unitsOf_X12_asked : GoodIn wsX12_unitsOf (wsV RX12 439 RX12 yX12_asked wsX12_asked) := goodIn_app (goodIn_sub (fa_c (me_s (me_l (me_l (List.mem_of_getElem? (i := 14) rfl)))) (fa_c (me_s (me_l (me_l (List.mem_of_getElem? (i := 15) rfl)))) (fa_c (me_s (me_l (me_l (List.mem_of_getElem? (i := 16) rfl)))) (fa_c (me_s (me_l (me_l (List.mem_of_getElem? (i := 6) rfl)))) fa_n)))) (by decide +kernel)) ggX12_unitsOf_X12_asked
theorem dX12_unitsOf_16 : decode cX12_unitsOf 16 = .ok (.invokevirtual 439, 3) := z_dd_182 (by decide +kernel)
theorem dX12_unitsOf_19 : decode cX12_unitsOf 19 = .ok (.aload_n 0, 1) := z_dd_42 (by decide +kernel)
theorem dX12_unitsOf_20 : decode cX12_unitsOf 20 = .ok (.iload_n 2, 1) := z_dd_28 (by decide +kernel)
theorem dX12_unitsOf_21 : decode cX12_unitsOf 21 = .ok (.iload_n 3, 1) := z_dd_29 (by decide +kernel)
set_option maxRecDepth 20000 in
theorem ggX12_unitsOf_X12_inForce : GoodIn wsX12_unitsOf wsX12_inForce := goodIn_sub (fa_c (me_s (me_l (me_r (me_l (List.mem_of_getElem? (i := 0) rfl))))) (fa_a (fa_c (me_s (me_l (me_r (me_l (List.mem_of_getElem? (i := 1) rfl))))) (fa_c (me_s (me_l (me_r (me_l (List.mem_of_getElem? (i := 2) rfl))))) (fa_c (me_s (me_l (me_r (me_l (List.mem_of_getElem? (i := 3) rfl))))) fa_n))) (fun w h => (me_s (me_r h))))) (by decide +kernel)
set_option maxRecDepth 20000 in
theorem gX12_unitsOf_X12_inForce : GoodIn wsX12_unitsOf (wsV RX12 417 RX12 yX12_inForce wsX12_inForce) := goodIn_app (goodIn_sub (fa_c (me_s (me_l (me_l (List.mem_of_getElem? (i := 21) rfl)))) (fa_c (me_s (me_l (me_l (List.mem_of_getElem? (i := 22) rfl)))) (fa_c (me_s (me_l (me_l (List.mem_of_getElem? (i := 23) rfl)))) (fa_c (me_s (me_l (me_l (List.mem_of_getElem? (i := 6) rfl)))) fa_n)))) (by decide +kernel)) ggX12_unitsOf_X12_inForce
theorem dX12_unitsOf_22 : decode cX12_unitsOf 22 = .ok (.invokevirtual 417, 3) := z_dd_182 (by decide +kernel)
theorem dX12_unitsOf_25 : decode cX12_unitsOf 25 = .ok (.istore 4, 2) := z_dd_54 (by decide +kernel)
theorem dX12_unitsOf_27 : decode cX12_unitsOf 27 = .ok (.iload 4, 2) := z_dd_21 (by decide +kernel)
theorem dX12_unitsOf_29 : decode cX12_unitsOf 29 = .ok (.ifCond .ge 5, 3) := z_dd_156 (by decide +kernel)
theorem dX12_unitsOf_34 : decode cX12_unitsOf 34 = .ok (.aload_n 0, 1) := z_dd_42 (by decide +kernel)
theorem dX12_unitsOf_35 : decode cX12_unitsOf 35 = .ok (.getfield 40, 3) := z_dd_180 (by decide +kernel)
theorem dX12_unitsOf_38 : decode cX12_unitsOf 38 = .ok (.iload 4, 2) := z_dd_21 (by decide +kernel)
theorem dX12_unitsOf_40 : decode cX12_unitsOf 40 = .ok (.iaload, 1) := z_dd_46 (by decide +kernel)
theorem dX12_unitsOf_41 : decode cX12_unitsOf 41 = .ok (.istore 5, 2) := z_dd_54 (by decide +kernel)
theorem dX12_unitsOf_43 : decode cX12_unitsOf 43 = .ok (.iload 5, 2) := z_dd_21 (by decide +kernel)
theorem dX12_unitsOf_45 : decode cX12_unitsOf 45 = .ok (.aload_n 0, 1) := z_dd_42 (by decide +kernel)
theorem dX12_unitsOf_46 : decode cX12_unitsOf 46 = .ok (.getfield 40, 3) := z_dd_180 (by decide +kernel)
theorem dX12_unitsOf_49 : decode cX12_unitsOf 49 = .ok (.iload 4, 2) := z_dd_21 (by decide +kernel)
theorem dX12_unitsOf_51 : decode cX12_unitsOf 51 = .ok (.iaload, 1) := z_dd_46 (by decide +kernel)
theorem dX12_unitsOf_52 : decode cX12_unitsOf 52 = .ok (.aload_n 0, 1) := z_dd_42 (by decide +kernel)
theorem dX12_unitsOf_53 : decode cX12_unitsOf 53 = .ok (.getfield 43, 3) := z_dd_180 (by decide +kernel)
theorem dX12_unitsOf_56 : decode cX12_unitsOf 56 = .ok (.iload 4, 2) := z_dd_21 (by decide +kernel)
theorem dX12_unitsOf_58 : decode cX12_unitsOf 58 = .ok (.iaload, 1) := z_dd_46 (by decide +kernel)
theorem dX12_unitsOf_59 : decode cX12_unitsOf 59 = .ok (.iadd, 1) := z_dd_96 (by decide +kernel)
theorem dX12_unitsOf_60 : decode cX12_unitsOf 60 = .ok (.if_icmp .ge 31, 3) := z_dd_162 (by decide +kernel)
theorem dX12_unitsOf_91 : decode cX12_unitsOf 91 = .ok (.aload_n 0, 1) := z_dd_42 (by decide +kernel)
theorem dX12_unitsOf_92 : decode cX12_unitsOf 92 = .ok (.iload 4, 2) := z_dd_21 (by decide +kernel)
theorem dX12_unitsOf_94 : decode cX12_unitsOf 94 = .ok (.iconst 0, 1) := z_dd_3 (by decide +kernel)
set_option maxRecDepth 20000 in
theorem ggX12_unitsOf_X12_first : GoodIn wsX12_unitsOf wsX12_first := goodIn_sub (fa_c (me_s (me_l (me_r (me_r (List.mem_of_getElem? (i := 3) rfl))))) (fa_a (fa_a (fa_c (me_s (me_l (me_l (List.mem_of_getElem? (i := 0) rfl)))) (fa_c (me_s (me_l (me_l (List.mem_of_getElem? (i := 1) rfl)))) (fa_c (me_s (me_l (me_l (List.mem_of_getElem? (i := 2) rfl)))) (fa_c (me_s (me_l (me_r (me_l (List.mem_of_getElem? (i := 9) rfl))))) (fa_c (me_s (me_l (me_r (me_r (List.mem_of_getElem? (i := 4) rfl))))) (fa_c (me_s (me_l (me_r (me_r (List.mem_of_getElem? (i := 5) rfl))))) (fa_c (me_s (me_l (me_r (me_l (List.mem_of_getElem? (i := 4) rfl))))) (fa_c (me_s (me_l (me_r (me_l (List.mem_of_getElem? (i := 5) rfl))))) (fa_c (me_s (me_l (me_r (me_l (List.mem_of_getElem? (i := 6) rfl))))) (fa_c (me_s (me_l (me_l (List.mem_of_getElem? (i := 6) rfl)))) (fa_c (me_s (me_l (me_r (me_l (List.mem_of_getElem? (i := 7) rfl))))) (fa_c (me_s (me_l (me_r (me_l (List.mem_of_getElem? (i := 8) rfl))))) (fa_c (me_s (me_l (me_r (me_l (List.mem_of_getElem? (i := 10) rfl))))) (fa_c (me_s (me_l (me_r (me_l (List.mem_of_getElem? (i := 11) rfl))))) (fa_c (me_s (me_l (me_r (me_l (List.mem_of_getElem? (i := 12) rfl))))) (fa_c (me_s (me_l (me_r (me_l (List.mem_of_getElem? (i := 13) rfl))))) (fa_c (me_s (me_l (me_r (me_l (List.mem_of_getElem? (i := 14) rfl))))) (fa_c (me_s (me_l (me_r (me_l (List.mem_of_getElem? (i := 15) rfl))))) (fa_c (me_s (me_l (me_r (me_l (List.mem_of_getElem? (i := 16) rfl))))) (fa_c (me_s (me_l (me_r (me_l (List.mem_of_getElem? (i := 17) rfl))))) (fa_c (me_s (me_l (me_r (me_l (List.mem_of_getElem? (i := 18) rfl))))) (fa_c (me_s (me_l (me_l (List.mem_of_getElem? (i := 18) rfl)))) (fa_c (me_s (me_l (me_r (me_l (List.mem_of_getElem? (i := 19) rfl))))) (fa_c (me_s (me_l (me_r (me_l (List.mem_of_getElem? (i := 20) rfl))))) fa_n)))))))))))))))))))))))) (fa_c (me_s (me_l (me_r (me_l (List.mem_of_getElem? (i := 21) rfl))))) (fa_c (me_s (me_l (me_r (me_l (List.mem_of_getElem? (i := 22) rfl))))) (fa_c (me_s (me_l (me_r (me_l (List.mem_of_getElem? (i := 23) rfl))))) fa_n)))) (fun w h => (me_s (me_r h))))) (by decide +kernel)
set_option maxRecDepth 20000 in
theorem gX12_unitsOf_X12_first : GoodIn wsX12_unitsOf (wsV RX12 443 RX12 yX12_first wsX12_first) := goodIn_app (goodIn_sub (fa_c (me_s (me_l (me_r (me_r (List.mem_of_getElem? (i := 0) rfl))))) (fa_c (me_s (me_l (me_r (me_r (List.mem_of_getElem? (i := 1) rfl))))) (fa_c (me_s (me_l (me_r (me_r (List.mem_of_getElem? (i := 2) rfl))))) (fa_c (me_s (me_l (me_l (List.mem_of_getElem? (i := 6) rfl)))) fa_n)))) (by decide +kernel)) ggX12_unitsOf_X12_first
theorem dX12_unitsOf_95 : decode cX12_unitsOf 95 = .ok (.invokevirtual 443, 3) := z_dd_182 (by decide +kernel)
theorem dX12_unitsOf_98 : decode cX12_unitsOf 98 = .ok (.ireturn, 1) := z_dd_172 (by decide +kernel)
theorem dX12_unitsOf_63 : decode cX12_unitsOf 63 = .ok (.aload_n 0, 1) := z_dd_42 (by decide +kernel)
theorem dX12_unitsOf_64 : decode cX12_unitsOf 64 = .ok (.getfield 52, 3) := z_dd_180 (by decide +kernel)
theorem dX12_unitsOf_67 : decode cX12_unitsOf 67 = .ok (.iload 5, 2) := z_dd_21 (by decide +kernel)
theorem dX12_unitsOf_69 : decode cX12_unitsOf 69 = .ok (.iaload, 1) := z_dd_46 (by decide +kernel)
theorem dX12_unitsOf_70 : decode cX12_unitsOf 70 = .ok (.iconst 2, 1) := z_dd_5 (by decide +kernel)
theorem dX12_unitsOf_71 : decode cX12_unitsOf 71 = .ok (.if_icmp .ne 14, 3) := z_dd_160 (by decide +kernel)
theorem dX12_unitsOf_85 : decode cX12_unitsOf 85 = .ok (.iinc 5 1, 3) := z_dd_132 (by decide +kernel)
theorem dX12_unitsOf_88 : decode cX12_unitsOf 88 = .ok (.goto (-45), 3) := z_dd_167 (by decide +kernel)
theorem dX12_unitsOf_74 : decode cX12_unitsOf 74 = .ok (.aload_n 0, 1) := z_dd_42 (by decide +kernel)
theorem dX12_unitsOf_75 : decode cX12_unitsOf 75 = .ok (.iload 5, 2) := z_dd_21 (by decide +kernel)
set_option maxRecDepth 20000 in
theorem ggX12_unitsOf_X12_holds : GoodIn wsX12_unitsOf wsX12_holds := goodIn_sub (fa_c (me_s (me_l (me_r (me_l (List.mem_of_getElem? (i := 7) rfl))))) (fa_a (fa_c (me_s (me_l (me_r (me_l (List.mem_of_getElem? (i := 8) rfl))))) (fa_c (me_s (me_l (me_r (me_l (List.mem_of_getElem? (i := 9) rfl))))) (fa_c (me_s (me_l (me_r (me_l (List.mem_of_getElem? (i := 10) rfl))))) (fa_c (me_s (me_l (me_r (me_l (List.mem_of_getElem? (i := 11) rfl))))) (fa_c (me_s (me_l (me_r (me_l (List.mem_of_getElem? (i := 12) rfl))))) (fa_c (me_s (me_l (me_l (List.mem_of_getElem? (i := 6) rfl)))) (fa_c (me_s (me_l (me_r (me_l (List.mem_of_getElem? (i := 13) rfl))))) (fa_c (me_s (me_l (me_r (me_l (List.mem_of_getElem? (i := 14) rfl))))) (fa_c (me_s (me_l (me_r (me_l (List.mem_of_getElem? (i := 15) rfl))))) (fa_c (me_s (me_l (me_r (me_l (List.mem_of_getElem? (i := 16) rfl))))) (fa_c (me_s (me_l (me_r (me_l (List.mem_of_getElem? (i := 17) rfl))))) (fa_c (me_s (me_l (me_r (me_l (List.mem_of_getElem? (i := 18) rfl))))) (fa_c (me_s (me_l (me_l (List.mem_of_getElem? (i := 18) rfl)))) (fa_c (me_s (me_l (me_r (me_l (List.mem_of_getElem? (i := 19) rfl))))) (fa_c (me_s (me_l (me_r (me_l (List.mem_of_getElem? (i := 20) rfl))))) (fa_c (me_s (me_l (me_r (me_l (List.mem_of_getElem? (i := 21) rfl))))) (fa_c (me_s (me_l (me_r (me_l (List.mem_of_getElem? (i := 22) rfl))))) (fa_c (me_s (me_l (me_r (me_l (List.mem_of_getElem? (i := 23) rfl))))) fa_n)))))))))))))))))) (fun w h => (me_s (me_r h))))) (by decide +kernel)
set_option maxRecDepth 20000 in
theorem gX12_unitsOf_X12_holds : GoodIn wsX12_unitsOf (wsV RX12 434 RX12 yX12_holds wsX12_holds) := goodIn_app (goodIn_sub (fa_c (me_s (me_l (me_r (me_l (List.mem_of_getElem? (i := 4) rfl))))) (fa_c (me_s (me_l (me_r (me_l (List.mem_of_getElem? (i := 5) rfl))))) (fa_c (me_s (me_l (me_r (me_l (List.mem_of_getElem? (i := 6) rfl))))) (fa_c (me_s (me_l (me_l (List.mem_of_getElem? (i := 6) rfl)))) fa_n)))) (by decide +kernel)) ggX12_unitsOf_X12_holds
theorem dX12_unitsOf_77 : decode cX12_unitsOf 77 = .ok (.invokevirtual 434, 3) := z_dd_182 (by decide +kernel)
theorem dX12_unitsOf_80 : decode cX12_unitsOf 80 = .ok (.ifCond .eq 5, 3) := z_dd_153 (by decide +kernel)
theorem dX12_unitsOf_83 : decode cX12_unitsOf 83 = .ok (.iconst 0, 1) := z_dd_3 (by decide +kernel)
theorem dX12_unitsOf_84 : decode cX12_unitsOf 84 = .ok (.ireturn, 1) := z_dd_172 (by decide +kernel)
theorem dX12_unitsOf_32 : decode cX12_unitsOf 32 = .ok (.iconst 0, 1) := z_dd_3 (by decide +kernel)
theorem dX12_unitsOf_33 : decode cX12_unitsOf 33 = .ok (.ireturn, 1) := z_dd_172 (by decide +kernel)
theorem dX12_units_8 : decode cX12_units 8 = .ok (.iload_n 2, 1) := z_dd_28 (by decide +kernel)
set_option maxRecDepth 20000 in
theorem ggX12_units_X12_isMonth : GoodIn wsX12_units wsX12_isMonth := goodIn_sub (fa_c (me_s (me_l (me_l (List.mem_of_getElem? (i := 8) rfl)))) fa_n) (by decide +kernel)
set_option maxRecDepth 20000 in
theorem gX12_units_X12_isMonth : GoodIn wsX12_units (va_wsS RX12 405 yX12_isMonth wsX12_isMonth) := goodIn_app (goodIn_sub (fa_c (me_s (me_l (me_l (List.mem_of_getElem? (i := 6) rfl)))) (fa_c (me_s (me_l (me_l (List.mem_of_getElem? (i := 7) rfl)))) (fa_c (me_s (me_l (me_l (List.mem_of_getElem? (i := 3) rfl)))) fa_n))) (by decide +kernel)) ggX12_units_X12_isMonth
theorem dX12_units_9 : decode cX12_units 9 = .ok (.invokestatic 405, 3) := z_dd_184 (by decide +kernel)
theorem dX12_units_12 : decode cX12_units 12 = .ok (.ifCond .eq 20, 3) := z_dd_153 (by decide +kernel)
theorem dX12_units_15 : decode cX12_units 15 = .ok (.iload_n 3, 1) := z_dd_29 (by decide +kernel)
set_option maxRecDepth 20000 in
theorem ggX12_units_X12_isDay : GoodIn wsX12_units wsX12_isDay := goodIn_sub (fa_c (me_s (me_l (me_l (List.mem_of_getElem? (i := 11) rfl)))) fa_n) (by decide +kernel)
set_option maxRecDepth 20000 in
theorem gX12_units_X12_isDay : GoodIn wsX12_units (va_wsS RX12 243 yX12_isDay wsX12_isDay) := goodIn_app (goodIn_sub (fa_c (me_s (me_l (me_l (List.mem_of_getElem? (i := 9) rfl)))) (fa_c (me_s (me_l (me_l (List.mem_of_getElem? (i := 10) rfl)))) (fa_c (me_s (me_l (me_l (List.mem_of_getElem? (i := 3) rfl)))) fa_n))) (by decide +kernel)) ggX12_units_X12_isDay
theorem dX12_units_16 : decode cX12_units 16 = .ok (.invokestatic 243, 3) := z_dd_184 (by decide +kernel)
theorem dX12_units_19 : decode cX12_units 19 = .ok (.ifCond .eq 13, 3) := z_dd_153 (by decide +kernel)
theorem dX12_units_22 : decode cX12_units 22 = .ok (.aload_n 0, 1) := z_dd_42 (by decide +kernel)
theorem dX12_units_23 : decode cX12_units 23 = .ok (.iload_n 1, 1) := z_dd_27 (by decide +kernel)
theorem dX12_units_24 : decode cX12_units 24 = .ok (.iload_n 2, 1) := z_dd_28 (by decide +kernel)
theorem dX12_units_25 : decode cX12_units 25 = .ok (.iload_n 3, 1) := z_dd_29 (by decide +kernel)
set_option maxRecDepth 20000 in
theorem ggX12_units_X12_unitsOf : GoodIn wsX12_units wsX12_unitsOf := goodIn_sub (fa_c (me_s (me_l (me_l (List.mem_of_getElem? (i := 15) rfl)))) (fa_a (fa_a (fa_c (me_s (me_l (me_l (List.mem_of_getElem? (i := 16) rfl)))) (fa_c (me_s (me_l (me_l (List.mem_of_getElem? (i := 17) rfl)))) (fa_c (me_s (me_l (me_l (List.mem_of_getElem? (i := 18) rfl)))) (fa_c (me_s (me_l (me_l (List.mem_of_getElem? (i := 19) rfl)))) (fa_c (me_s (me_l (me_l (List.mem_of_getElem? (i := 20) rfl)))) (fa_c (me_s (me_l (me_l (List.mem_of_getElem? (i := 21) rfl)))) (fa_c (me_s (me_l (me_l (List.mem_of_getElem? (i := 3) rfl)))) (fa_c (me_s (me_l (me_l (List.mem_of_getElem? (i := 22) rfl)))) (fa_c (me_s (me_l (me_l (List.mem_of_getElem? (i := 23) rfl)))) (fa_c (me_s (me_l (me_r (me_l (List.mem_of_getElem? (i := 0) rfl))))) (fa_c (me_s (me_l (me_r (me_l (List.mem_of_getElem? (i := 1) rfl))))) (fa_c (me_s (me_l (me_r (me_l (List.mem_of_getElem? (i := 2) rfl))))) (fa_c (me_s (me_l (me_r (me_l (List.mem_of_getElem? (i := 3) rfl))))) (fa_c (me_s (me_l (me_r (me_l (List.mem_of_getElem? (i := 4) rfl))))) (fa_c (me_s (me_l (me_r (me_l (List.mem_of_getElem? (i := 5) rfl))))) (fa_c (me_s (me_l (me_r (me_l (List.mem_of_getElem? (i := 6) rfl))))) (fa_c (me_s (me_l (me_r (me_l (List.mem_of_getElem? (i := 7) rfl))))) (fa_c (me_s (me_l (me_r (me_l (List.mem_of_getElem? (i := 8) rfl))))) (fa_c (me_s (me_l (me_r (me_l (List.mem_of_getElem? (i := 9) rfl))))) (fa_c (me_s (me_l (me_r (me_l (List.mem_of_getElem? (i := 10) rfl))))) (fa_c (me_s (me_l (me_r (me_l (List.mem_of_getElem? (i := 11) rfl))))) (fa_c (me_s (me_l (me_r (me_l (List.mem_of_getElem? (i := 12) rfl))))) (fa_c (me_s (me_l (me_r (me_l (List.mem_of_getElem? (i := 13) rfl))))) (fa_c (me_s (me_l (me_r (me_l (List.mem_of_getElem? (i := 14) rfl))))) fa_n)))))))))))))))))))))))) (fa_a (fa_c (me_s (me_l (me_r (me_l (List.mem_of_getElem? (i := 15) rfl))))) (fa_c (me_s (me_l (me_r (me_l (List.mem_of_getElem? (i := 16) rfl))))) (fa_c (me_s (me_l (me_r (me_l (List.mem_of_getElem? (i := 17) rfl))))) (fa_c (me_s (me_l (me_r (me_l (List.mem_of_getElem? (i := 18) rfl))))) (fa_c (me_s (me_l (me_r (me_l (List.mem_of_getElem? (i := 19) rfl))))) (fa_c (me_s (me_l (me_r (me_l (List.mem_of_getElem? (i := 20) rfl))))) (fa_c (me_s (me_l (me_r (me_l (List.mem_of_getElem? (i := 21) rfl))))) (fa_c (me_s (me_l (me_r (me_l (List.mem_of_getElem? (i := 22) rfl))))) (fa_c (me_s (me_l (me_r (me_l (List.mem_of_getElem? (i := 23) rfl))))) (fa_c (me_s (me_l (me_r (me_r (List.mem_of_getElem? (i := 0) rfl))))) (fa_c (me_s (me_l (me_r (me_r (List.mem_of_getElem? (i := 1) rfl))))) (fa_c (me_s (me_l (me_r (me_r (List.mem_of_getElem? (i := 2) rfl))))) (fa_c (me_s (me_l (me_r (me_r (List.mem_of_getElem? (i := 3) rfl))))) (fa_c (me_s (me_l (me_r (me_r (List.mem_of_getElem? (i := 4) rfl))))) (fa_c (me_s (me_l (me_r (me_r (List.mem_of_getElem? (i := 5) rfl))))) (fa_c (me_s (me_l (me_r (me_r (List.mem_of_getElem? (i := 6) rfl))))) (fa_c (me_s (me_l (me_r (me_r (List.mem_of_getElem? (i := 7) rfl))))) (fa_c (me_s (me_l (me_r (me_r (List.mem_of_getElem? (i := 8) rfl))))) (fa_c (me_s (me_l (me_r (me_r (List.mem_of_getElem? (i := 9) rfl))))) (fa_c (me_s (me_l (me_r (me_r (List.mem_of_getElem? (i := 10) rfl))))) (fa_c (me_s (me_l (me_r (me_r (List.mem_of_getElem? (i := 11) rfl))))) (fa_c (me_s (me_l (me_r (me_r (List.mem_of_getElem? (i := 12) rfl))))) (fa_c (me_s (me_l (me_r (me_r (List.mem_of_getElem? (i := 13) rfl))))) (fa_c (me_s (me_l (me_r (me_r (List.mem_of_getElem? (i := 14) rfl))))) fa_n)))))))))))))))))))))))) (fa_c (me_s (me_l (me_r (me_r (List.mem_of_getElem? (i := 15) rfl))))) (fa_c (me_s (me_l (me_r (me_r (List.mem_of_getElem? (i := 16) rfl))))) (fa_c (me_s (me_l (me_r (me_r (List.mem_of_getElem? (i := 17) rfl))))) (fa_c (me_s (me_l (me_r (me_r (List.mem_of_getElem? (i := 18) rfl))))) (fa_c (me_s (me_l (me_r (me_r (List.mem_of_getElem? (i := 19) rfl))))) (fa_c (me_s (me_l (me_r (me_r (List.mem_of_getElem? (i := 20) rfl))))) fa_n)))))))) (fun w h => (me_s (me_r h))))) (by decide +kernel)
set_option maxRecDepth 20000 in
theorem gX12_units_X12_unitsOf : GoodIn wsX12_units (wsV RX12 446 RX12 yX12_unitsOf wsX12_unitsOf) := goodIn_app (goodIn_sub (fa_c (me_s (me_l (me_l (List.mem_of_getElem? (i := 12) rfl)))) (fa_c (me_s (me_l (me_l (List.mem_of_getElem? (i := 13) rfl)))) (fa_c (me_s (me_l (me_l (List.mem_of_getElem? (i := 14) rfl)))) (fa_c (me_s (me_l (me_l (List.mem_of_getElem? (i := 3) rfl)))) fa_n)))) (by decide +kernel)) ggX12_units_X12_unitsOf
theorem dX12_units_26 : decode cX12_units 26 = .ok (.invokevirtual 446, 3) := z_dd_182 (by decide +kernel)
theorem dX12_units_29 : decode cX12_units 29 = .ok (.goto 4, 3) := z_dd_167 (by decide +kernel)
theorem dX12_issue_8 : decode cX12_issue 8 = .ok (.iload_n 2, 1) := z_dd_28 (by decide +kernel)
set_option maxRecDepth 20000 in
theorem ggX12_issue_X12_isMonth : GoodIn wsX12_issue wsX12_isMonth := goodIn_sub (fa_c (me_s (me_l (me_l (List.mem_of_getElem? (i := 11) rfl)))) fa_n) (by decide +kernel)
set_option maxRecDepth 20000 in
theorem gX12_issue_X12_isMonth : GoodIn wsX12_issue (va_wsS RX12 405 yX12_isMonth wsX12_isMonth) := goodIn_app (goodIn_sub (fa_c (me_s (me_l (me_l (List.mem_of_getElem? (i := 9) rfl)))) (fa_c (me_s (me_l (me_l (List.mem_of_getElem? (i := 10) rfl)))) (fa_c (me_s (me_l (me_l (List.mem_of_getElem? (i := 6) rfl)))) fa_n))) (by decide +kernel)) ggX12_issue_X12_isMonth
theorem dX12_issue_9 : decode cX12_issue 9 = .ok (.invokestatic 405, 3) := z_dd_184 (by decide +kernel)
theorem dX12_issue_12 : decode cX12_issue 12 = .ok (.ifCond .eq 41, 3) := z_dd_153 (by decide +kernel)
theorem dX12_issue_15 : decode cX12_issue 15 = .ok (.iload_n 2, 1) := z_dd_28 (by decide +kernel)
theorem dX12_issue_16 : decode cX12_issue 16 = .ok (.aload_n 0, 1) := z_dd_42 (by decide +kernel)
theorem dX12_issue_17 : decode cX12_issue 17 = .ok (.getfield 232, 3) := z_dd_180 (by decide +kernel)
theorem dX12_issue_20 : decode cX12_issue 20 = .ok (.bipush 30, 2) := z_dd_16 (by decide +kernel)
theorem dX12_issue_22 : decode cX12_issue 22 = .ok (.idiv, 1) := z_dd_108 (by decide +kernel)
theorem dX12_issue_23 : decode cX12_issue 23 = .ok (.if_icmp .lt 30, 3) := z_dd_161 (by decide +kernel)
theorem dX12_issue_26 : decode cX12_issue 26 = .ok (.iload_n 2, 1) := z_dd_28 (by decide +kernel)
theorem dX12_issue_27 : decode cX12_issue 27 = .ok (.aload_n 0, 1) := z_dd_42 (by decide +kernel)
theorem dX12_issue_28 : decode cX12_issue 28 = .ok (.getfield 232, 3) := z_dd_180 (by decide +kernel)
theorem dX12_issue_31 : decode cX12_issue 31 = .ok (.bipush 30, 2) := z_dd_16 (by decide +kernel)
theorem dX12_issue_33 : decode cX12_issue 33 = .ok (.idiv, 1) := z_dd_108 (by decide +kernel)
theorem dX12_issue_34 : decode cX12_issue 34 = .ok (.iconst 1, 1) := z_dd_4 (by decide +kernel)
theorem dX12_issue_35 : decode cX12_issue 35 = .ok (.iadd, 1) := z_dd_96 (by decide +kernel)
theorem dX12_issue_36 : decode cX12_issue 36 = .ok (.if_icmp .gt 17, 3) := z_dd_163 (by decide +kernel)
theorem dX12_issue_39 : decode cX12_issue 39 = .ok (.aload_n 0, 1) := z_dd_42 (by decide +kernel)
theorem dX12_issue_40 : decode cX12_issue 40 = .ok (.getfield 106, 3) := z_dd_180 (by decide +kernel)
theorem dX12_issue_43 : decode cX12_issue 43 = .ok (.bipush 24, 2) := z_dd_16 (by decide +kernel)
theorem dX12_issue_45 : decode cX12_issue 45 = .ok (.iload_n 1, 1) := z_dd_27 (by decide +kernel)
theorem dX12_issue_46 : decode cX12_issue 46 = .ok (.imul, 1) := z_dd_104 (by decide +kernel)
theorem dX12_issue_47 : decode cX12_issue 47 = .ok (.iload_n 2, 1) := z_dd_28 (by decide +kernel)
theorem dX12_issue_48 : decode cX12_issue 48 = .ok (.iadd, 1) := z_dd_96 (by decide +kernel)
theorem dX12_issue_49 : decode cX12_issue 49 = .ok (.iaload, 1) := z_dd_46 (by decide +kernel)
theorem dX12_issue_50 : decode cX12_issue 50 = .ok (.ifCond .le 5, 3) := z_dd_158 (by decide +kernel)
theorem dX12_issue_55 : decode cX12_issue 55 = .ok (.aload_n 0, 1) := z_dd_42 (by decide +kernel)
theorem dX12_issue_56 : decode cX12_issue 56 = .ok (.iload_n 1, 1) := z_dd_27 (by decide +kernel)
theorem dX12_issue_57 : decode cX12_issue 57 = .ok (.iload_n 2, 1) := z_dd_28 (by decide +kernel)
theorem dX12_issue_58 : decode cX12_issue 58 = .ok (.aload_n 0, 1) := z_dd_42 (by decide +kernel)
theorem dX12_issue_59 : decode cX12_issue 59 = .ok (.getfield 232, 3) := z_dd_180 (by decide +kernel)
set_option maxRecDepth 20000 in
theorem ggX12_issue_X12_unitsOf : GoodIn wsX12_issue wsX12_unitsOf := goodIn_sub (fa_c (me_s (me_l (me_l (List.mem_of_getElem? (i := 15) rfl)))) (fa_a (fa_a (fa_c (me_s (me_l (me_l (List.mem_of_getElem? (i := 16) rfl)))) (fa_c (me_s (me_l (me_l (List.mem_of_getElem? (i := 17) rfl)))) (fa_c (me_s (me_l (me_l (List.mem_of_getElem? (i := 18) rfl)))) (fa_c (me_s (me_l (me_l (List.mem_of_getElem? (i := 19) rfl)))) (fa_c (me_s (me_l (me_l (List.mem_of_getElem? (i := 20) rfl)))) (fa_c (me_s (me_l (me_l (List.mem_of_getElem? (i := 21) rfl)))) (fa_c (me_s (me_l (me_l (List.mem_of_getElem? (i := 6) rfl)))) (fa_c (me_s (me_l (me_l (List.mem_of_getElem? (i := 22) rfl)))) (fa_c (me_s (me_l (me_l (List.mem_of_getElem? (i := 23) rfl)))) (fa_c (me_s (me_l (me_r (me_l (List.mem_of_getElem? (i := 0) rfl))))) (fa_c (me_s (me_l (me_r (me_l (List.mem_of_getElem? (i := 1) rfl))))) (fa_c (me_s (me_l (me_r (me_l (List.mem_of_getElem? (i := 2) rfl))))) (fa_c (me_s (me_l (me_r (me_l (List.mem_of_getElem? (i := 3) rfl))))) (fa_c (me_s (me_l (me_r (me_l (List.mem_of_getElem? (i := 4) rfl))))) (fa_c (me_s (me_l (me_r (me_l (List.mem_of_getElem? (i := 5) rfl))))) (fa_c (me_s (me_l (me_r (me_l (List.mem_of_getElem? (i := 6) rfl))))) (fa_c (me_s (me_l (me_r (me_l (List.mem_of_getElem? (i := 7) rfl))))) (fa_c (me_s (me_l (me_r (me_l (List.mem_of_getElem? (i := 8) rfl))))) (fa_c (me_s (me_l (me_r (me_l (List.mem_of_getElem? (i := 9) rfl))))) (fa_c (me_s (me_l (me_r (me_l (List.mem_of_getElem? (i := 10) rfl))))) (fa_c (me_s (me_l (me_r (me_l (List.mem_of_getElem? (i := 11) rfl))))) (fa_c (me_s (me_l (me_r (me_l (List.mem_of_getElem? (i := 12) rfl))))) (fa_c (me_s (me_l (me_r (me_l (List.mem_of_getElem? (i := 13) rfl))))) (fa_c (me_s (me_l (me_r (me_l (List.mem_of_getElem? (i := 14) rfl))))) fa_n)))))))))))))))))))))))) (fa_a (fa_c (me_s (me_l (me_r (me_l (List.mem_of_getElem? (i := 15) rfl))))) (fa_c (me_s (me_l (me_r (me_l (List.mem_of_getElem? (i := 16) rfl))))) (fa_c (me_s (me_l (me_r (me_l (List.mem_of_getElem? (i := 17) rfl))))) (fa_c (me_s (me_l (me_r (me_l (List.mem_of_getElem? (i := 18) rfl))))) (fa_c (me_s (me_l (me_r (me_l (List.mem_of_getElem? (i := 19) rfl))))) (fa_c (me_s (me_l (me_r (me_l (List.mem_of_getElem? (i := 20) rfl))))) (fa_c (me_s (me_l (me_r (me_l (List.mem_of_getElem? (i := 21) rfl))))) (fa_c (me_s (me_l (me_r (me_l (List.mem_of_getElem? (i := 22) rfl))))) (fa_c (me_s (me_l (me_r (me_l (List.mem_of_getElem? (i := 23) rfl))))) (fa_c (me_s (me_l (me_r (me_r (List.mem_of_getElem? (i := 0) rfl))))) (fa_c (me_s (me_l (me_r (me_r (List.mem_of_getElem? (i := 1) rfl))))) (fa_c (me_s (me_l (me_r (me_r (List.mem_of_getElem? (i := 2) rfl))))) (fa_c (me_s (me_l (me_r (me_r (List.mem_of_getElem? (i := 3) rfl))))) (fa_c (me_s (me_l (me_r (me_r (List.mem_of_getElem? (i := 4) rfl))))) (fa_c (me_s (me_l (me_r (me_r (List.mem_of_getElem? (i := 5) rfl))))) (fa_c (me_s (me_l (me_r (me_r (List.mem_of_getElem? (i := 6) rfl))))) (fa_c (me_s (me_l (me_r (me_r (List.mem_of_getElem? (i := 7) rfl))))) (fa_c (me_s (me_l (me_r (me_r (List.mem_of_getElem? (i := 8) rfl))))) (fa_c (me_s (me_l (me_r (me_r (List.mem_of_getElem? (i := 9) rfl))))) (fa_c (me_s (me_l (me_r (me_r (List.mem_of_getElem? (i := 10) rfl))))) (fa_c (me_s (me_l (me_r (me_r (List.mem_of_getElem? (i := 11) rfl))))) (fa_c (me_s (me_l (me_r (me_r (List.mem_of_getElem? (i := 12) rfl))))) (fa_c (me_s (me_l (me_r (me_r (List.mem_of_getElem? (i := 13) rfl))))) (fa_c (me_s (me_l (me_r (me_r (List.mem_of_getElem? (i := 14) rfl))))) fa_n)))))))))))))))))))))))) (fa_c (me_s (me_l (me_r (me_r (List.mem_of_getElem? (i := 15) rfl))))) (fa_c (me_s (me_l (me_r (me_r (List.mem_of_getElem? (i := 16) rfl))))) (fa_c (me_s (me_l (me_r (me_r (List.mem_of_getElem? (i := 17) rfl))))) (fa_c (me_s (me_l (me_r (me_r (List.mem_of_getElem? (i := 18) rfl))))) (fa_c (me_s (me_l (me_r (me_r (List.mem_of_getElem? (i := 19) rfl))))) (fa_c (me_s (me_l (me_r (me_r (List.mem_of_getElem? (i := 20) rfl))))) fa_n)))))))) (fun w h => (me_s (me_r h))))) (by decide +kernel)
set_option maxRecDepth 20000 in
theorem gX12_issue_X12_unitsOf : GoodIn wsX12_issue (wsV RX12 446 RX12 yX12_unitsOf wsX12_unitsOf) := goodIn_app (goodIn_sub (fa_c (me_s (me_l (me_l (List.mem_of_getElem? (i := 12) rfl)))) (fa_c (me_s (me_l (me_l (List.mem_of_getElem? (i := 13) rfl)))) (fa_c (me_s (me_l (me_l (List.mem_of_getElem? (i := 14) rfl)))) (fa_c (me_s (me_l (me_l (List.mem_of_getElem? (i := 6) rfl)))) fa_n)))) (by decide +kernel)) ggX12_issue_X12_unitsOf
theorem dX12_issue_62 : decode cX12_issue 62 = .ok (.invokevirtual 446, 3) := z_dd_182 (by decide +kernel)
theorem dX12_issue_65 : decode cX12_issue 65 = .ok (.istore_n 3, 1) := z_dd_62 (by decide +kernel)
theorem dX12_issue_66 : decode cX12_issue 66 = .ok (.aload_n 0, 1) := z_dd_42 (by decide +kernel)
theorem dX12_issue_67 : decode cX12_issue 67 = .ok (.getfield 106, 3) := z_dd_180 (by decide +kernel)
theorem dX12_issue_70 : decode cX12_issue 70 = .ok (.bipush 24, 2) := z_dd_16 (by decide +kernel)
theorem dX12_issue_72 : decode cX12_issue 72 = .ok (.iload_n 1, 1) := z_dd_27 (by decide +kernel)
theorem dX12_issue_73 : decode cX12_issue 73 = .ok (.imul, 1) := z_dd_104 (by decide +kernel)
theorem dX12_issue_74 : decode cX12_issue 74 = .ok (.iload_n 2, 1) := z_dd_28 (by decide +kernel)
theorem dX12_issue_75 : decode cX12_issue 75 = .ok (.iadd, 1) := z_dd_96 (by decide +kernel)
theorem dX12_issue_76 : decode cX12_issue 76 = .ok (.iload_n 3, 1) := z_dd_29 (by decide +kernel)
theorem dX12_issue_77 : decode cX12_issue 77 = .ok (.iconst 1, 1) := z_dd_4 (by decide +kernel)
theorem dX12_issue_78 : decode cX12_issue 78 = .ok (.iadd, 1) := z_dd_96 (by decide +kernel)
theorem dX12_issue_79 : decode cX12_issue 79 = .ok (.iastore, 1) := z_dd_79 (by decide +kernel)
theorem dX12_issue_80 : decode cX12_issue 80 = .ok (.aload_n 0, 1) := z_dd_42 (by decide +kernel)
theorem dX12_issue_81 : decode cX12_issue 81 = .ok (.dup, 1) := z_dd_89 (by decide +kernel)
theorem dX12_issue_82 : decode cX12_issue 82 = .ok (.getfield 449, 3) := z_dd_180 (by decide +kernel)
theorem dX12_issue_85 : decode cX12_issue 85 = .ok (.iconst 1, 1) := z_dd_4 (by decide +kernel)
theorem dX12_issue_86 : decode cX12_issue 86 = .ok (.iadd, 1) := z_dd_96 (by decide +kernel)
theorem dX12_issue_87 : decode cX12_issue 87 = .ok (.putfield 449, 3) := z_dd_181 (by decide +kernel)
theorem dX12_issue_90 : decode cX12_issue 90 = .ok (.iload_n 3, 1) := z_dd_29 (by decide +kernel)
theorem dX12_issue_91 : decode cX12_issue 91 = .ok (.ireturn, 1) := z_dd_172 (by decide +kernel)
theorem dX12_granted_0 : decode cX12_granted 0 = .ok (.aload_n 0, 1) := z_dd_42 (by decide +kernel)
theorem dX12_granted_1 : decode cX12_granted 1 = .ok (.getfield 205, 3) := z_dd_180 (by decide +kernel)
theorem dX12_granted_4 : decode cX12_granted 4 = .ok (.iload_n 1, 1) := z_dd_27 (by decide +kernel)
theorem dX12_granted_5 : decode cX12_granted 5 = .ok (.iaload, 1) := z_dd_46 (by decide +kernel)
theorem dX12_granted_6 : decode cX12_granted 6 = .ok (.bipush 30, 2) := z_dd_16 (by decide +kernel)
theorem dX12_granted_8 : decode cX12_granted 8 = .ok (.idiv, 1) := z_dd_108 (by decide +kernel)
theorem dX12_granted_9 : decode cX12_granted 9 = .ok (.istore_n 2, 1) := z_dd_61 (by decide +kernel)
theorem dX12_granted_10 : decode cX12_granted 10 = .ok (.aload_n 0, 1) := z_dd_42 (by decide +kernel)
theorem dX12_granted_11 : decode cX12_granted 11 = .ok (.aload_n 0, 1) := z_dd_42 (by decide +kernel)
theorem dX12_granted_12 : decode cX12_granted 12 = .ok (.getfield 193, 3) := z_dd_180 (by decide +kernel)
theorem dX12_granted_15 : decode cX12_granted 15 = .ok (.iload_n 1, 1) := z_dd_27 (by decide +kernel)
theorem dX12_granted_16 : decode cX12_granted 16 = .ok (.iaload, 1) := z_dd_46 (by decide +kernel)
theorem dX12_granted_17 : decode cX12_granted 17 = .ok (.aload_n 0, 1) := z_dd_42 (by decide +kernel)
theorem dX12_granted_18 : decode cX12_granted 18 = .ok (.aload_n 0, 1) := z_dd_42 (by decide +kernel)
theorem dX12_granted_19 : decode cX12_granted 19 = .ok (.getfield 193, 3) := z_dd_180 (by decide +kernel)
theorem dX12_granted_22 : decode cX12_granted 22 = .ok (.iload_n 1, 1) := z_dd_27 (by decide +kernel)
theorem dX12_granted_23 : decode cX12_granted 23 = .ok (.iaload, 1) := z_dd_46 (by decide +kernel)
theorem dX12_granted_24 : decode cX12_granted 24 = .ok (.aload_n 0, 1) := z_dd_42 (by decide +kernel)
theorem dX12_granted_25 : decode cX12_granted 25 = .ok (.getfield 205, 3) := z_dd_180 (by decide +kernel)
theorem dX12_granted_28 : decode cX12_granted 28 = .ok (.iload_n 1, 1) := z_dd_27 (by decide +kernel)
theorem dX12_granted_29 : decode cX12_granted 29 = .ok (.iaload, 1) := z_dd_46 (by decide +kernel)
theorem dX12_granted_30 : decode cX12_granted 30 = .ok (.aload_n 0, 1) := z_dd_42 (by decide +kernel)
theorem dX12_granted_31 : decode cX12_granted 31 = .ok (.getfield 211, 3) := z_dd_180 (by decide +kernel)
theorem dX12_granted_34 : decode cX12_granted 34 = .ok (.iload_n 1, 1) := z_dd_27 (by decide +kernel)
theorem dX12_granted_35 : decode cX12_granted 35 = .ok (.iaload, 1) := z_dd_46 (by decide +kernel)
set_option maxRecDepth 20000 in
theorem ggX12_granted_X12_kindOn : GoodIn wsX12_granted wsX12_kindOn := goodIn_sub (fa_c (me_s (me_l (me_l (List.mem_of_getElem? (i := 10) rfl)))) (fa_a (fa_c (me_s (me_l (me_l (List.mem_of_getElem? (i := 11) rfl)))) (fa_c (me_s (me_l (me_l (List.mem_of_getElem? (i := 12) rfl)))) (fa_c (me_s (me_l (me_l (List.mem_of_getElem? (i := 13) rfl)))) (fa_c (me_s (me_l (me_l (List.mem_of_getElem? (i := 14) rfl)))) (fa_c (me_s (me_l (me_l (List.mem_of_getElem? (i := 15) rfl)))) (fa_c (me_s (me_l (me_l (List.mem_of_getElem? (i := 16) rfl)))) fa_n)))))) (fun w h => (me_s (me_r h))))) (by decide +kernel)
set_option maxRecDepth 20000 in
theorem gX12_granted_X12_kindOn : GoodIn wsX12_granted (wsV RX12 249 RX12 yX12_kindOn wsX12_kindOn) := goodIn_app (goodIn_sub (fa_c (me_s (me_l (me_l (List.mem_of_getElem? (i := 6) rfl)))) (fa_c (me_s (me_l (me_l (List.mem_of_getElem? (i := 7) rfl)))) (fa_c (me_s (me_l (me_l (List.mem_of_getElem? (i := 8) rfl)))) (fa_c (me_s (me_l (me_l (List.mem_of_getElem? (i := 9) rfl)))) fa_n)))) (by decide +kernel)) ggX12_granted_X12_kindOn
theorem dX12_granted_36 : decode cX12_granted 36 = .ok (.invokevirtual 249, 3) := z_dd_182 (by decide +kernel)
theorem dX12_granted_39 : decode cX12_granted 39 = .ok (.iload_n 2, 1) := z_dd_28 (by decide +kernel)
theorem dX12_granted_40 : decode cX12_granted 40 = .ok (.aload_n 0, 1) := z_dd_42 (by decide +kernel)
theorem dX12_granted_41 : decode cX12_granted 41 = .ok (.getfield 196, 3) := z_dd_180 (by decide +kernel)
theorem dX12_granted_44 : decode cX12_granted 44 = .ok (.iload_n 1, 1) := z_dd_27 (by decide +kernel)
theorem dX12_granted_45 : decode cX12_granted 45 = .ok (.iaload, 1) := z_dd_46 (by decide +kernel)
theorem dX12_granted_46 : decode cX12_granted 46 = .ok (.aload_n 0, 1) := z_dd_42 (by decide +kernel)
theorem dX12_granted_47 : decode cX12_granted 47 = .ok (.getfield 199, 3) := z_dd_180 (by decide +kernel)
theorem dX12_granted_50 : decode cX12_granted 50 = .ok (.iload_n 1, 1) := z_dd_27 (by decide +kernel)
theorem dX12_granted_51 : decode cX12_granted 51 = .ok (.iaload, 1) := z_dd_46 (by decide +kernel)
theorem dX12_granted_52 : decode cX12_granted 52 = .ok (.aload_n 0, 1) := z_dd_42 (by decide +kernel)
theorem dX12_granted_53 : decode cX12_granted 53 = .ok (.getfield 202, 3) := z_dd_180 (by decide +kernel)
theorem dX12_granted_56 : decode cX12_granted 56 = .ok (.iload_n 1, 1) := z_dd_27 (by decide +kernel)
theorem dX12_granted_57 : decode cX12_granted 57 = .ok (.iaload, 1) := z_dd_46 (by decide +kernel)
set_option maxRecDepth 20000 in
theorem ggX12_granted_X12_asked : GoodIn wsX12_granted wsX12_asked := goodIn_sub (fa_c (me_s (me_l (me_l (List.mem_of_getElem? (i := 20) rfl)))) (fa_a (fa_c (me_s (me_l (me_l (List.mem_of_getElem? (i := 21) rfl)))) (fa_c (me_s (me_l (me_l (List.mem_of_getElem? (i := 22) rfl)))) (fa_c (me_s (me_l (me_l (List.mem_of_getElem? (i := 23) rfl)))) fa_n))) (fun w h => (me_s (me_r h))))) (by decide +kernel)
set_option maxRecDepth 20000 in
theorem gX12_granted_X12_asked : GoodIn wsX12_granted (wsV RX12 439 RX12 yX12_asked wsX12_asked) := goodIn_app (goodIn_sub (fa_c (me_s (me_l (me_l (List.mem_of_getElem? (i := 17) rfl)))) (fa_c (me_s (me_l (me_l (List.mem_of_getElem? (i := 18) rfl)))) (fa_c (me_s (me_l (me_l (List.mem_of_getElem? (i := 19) rfl)))) (fa_c (me_s (me_l (me_l (List.mem_of_getElem? (i := 9) rfl)))) fa_n)))) (by decide +kernel)) ggX12_granted_X12_asked
theorem dX12_granted_58 : decode cX12_granted 58 = .ok (.invokevirtual 439, 3) := z_dd_182 (by decide +kernel)
theorem dX12_granted_61 : decode cX12_granted 61 = .ok (.aload_n 0, 1) := z_dd_42 (by decide +kernel)
theorem dX12_granted_62 : decode cX12_granted 62 = .ok (.aload_n 0, 1) := z_dd_42 (by decide +kernel)
theorem dX12_granted_63 : decode cX12_granted 63 = .ok (.iload_n 2, 1) := z_dd_28 (by decide +kernel)
theorem dX12_granted_64 : decode cX12_granted 64 = .ok (.aload_n 0, 1) := z_dd_42 (by decide +kernel)
theorem dX12_granted_65 : decode cX12_granted 65 = .ok (.getfield 211, 3) := z_dd_180 (by decide +kernel)
theorem dX12_granted_68 : decode cX12_granted 68 = .ok (.iload_n 1, 1) := z_dd_27 (by decide +kernel)
theorem dX12_granted_69 : decode cX12_granted 69 = .ok (.iaload, 1) := z_dd_46 (by decide +kernel)
set_option maxRecDepth 20000 in
theorem ggX12_granted_X12_inForce : GoodIn wsX12_granted wsX12_inForce := goodIn_sub (fa_c (me_s (me_l (me_r (me_l (List.mem_of_getElem? (i := 3) rfl))))) (fa_a (fa_c (me_s (me_l (me_r (me_l (List.mem_of_getElem? (i := 4) rfl))))) (fa_c (me_s (me_l (me_r (me_l (List.mem_of_getElem? (i := 5) rfl))))) (fa_c (me_s (me_l (me_r (me_l (List.mem_of_getElem? (i := 6) rfl))))) fa_n))) (fun w h => (me_s (me_r h))))) (by decide +kernel)
set_option maxRecDepth 20000 in
theorem gX12_granted_X12_inForce : GoodIn wsX12_granted (wsV RX12 417 RX12 yX12_inForce wsX12_inForce) := goodIn_app (goodIn_sub (fa_c (me_s (me_l (me_r (me_l (List.mem_of_getElem? (i := 0) rfl))))) (fa_c (me_s (me_l (me_r (me_l (List.mem_of_getElem? (i := 1) rfl))))) (fa_c (me_s (me_l (me_r (me_l (List.mem_of_getElem? (i := 2) rfl))))) (fa_c (me_s (me_l (me_l (List.mem_of_getElem? (i := 9) rfl)))) fa_n)))) (by decide +kernel)) ggX12_granted_X12_inForce
theorem dX12_granted_70 : decode cX12_granted 70 = .ok (.invokevirtual 417, 3) := z_dd_182 (by decide +kernel)
theorem dX12_granted_73 : decode cX12_granted 73 = .ok (.iconst 1, 1) := z_dd_4 (by decide +kernel)
set_option maxRecDepth 20000 in
theorem ggX12_granted_X12_first : GoodIn wsX12_granted wsX12_first := goodIn_sub (fa_c (me_s (me_l (me_r (me_l (List.mem_of_getElem? (i := 10) rfl))))) (fa_a (fa_a (fa_c (me_s (me_l (me_r (me_l (List.mem_of_getElem? (i := 11) rfl))))) (fa_c (me_s (me_l (me_r (me_l (List.mem_of_getElem? (i := 12) rfl))))) (fa_c (me_s (me_l (me_r (me_l (List.mem_of_getElem? (i := 13) rfl))))) (fa_c (me_s (me_l (me_r (me_l (List.mem_of_getElem? (i := 14) rfl))))) (fa_c (me_s (me_l (me_r (me_l (List.mem_of_getElem? (i := 15) rfl))))) (fa_c (me_s (me_l (me_r (me_l (List.mem_of_getElem? (i := 16) rfl))))) (fa_c (me_s (me_l (me_r (me_l (List.mem_of_getElem? (i := 17) rfl))))) (fa_c (me_s (me_l (me_r (me_l (List.mem_of_getElem? (i := 18) rfl))))) (fa_c (me_s (me_l (me_r (me_l (List.mem_of_getElem? (i := 19) rfl))))) (fa_c (me_s (me_l (me_l (List.mem_of_getElem? (i := 9) rfl)))) (fa_c (me_s (me_l (me_r (me_l (List.mem_of_getElem? (i := 20) rfl))))) (fa_c (me_s (me_l (me_r (me_l (List.mem_of_getElem? (i := 21) rfl))))) (fa_c (me_s (me_l (me_r (me_l (List.mem_of_getElem? (i := 22) rfl))))) (fa_c (me_s (me_l (me_r (me_l (List.mem_of_getElem? (i := 23) rfl))))) (fa_c (me_s (me_l (me_r (me_r (List.mem_of_getElem? (i := 0) rfl))))) (fa_c (me_s (me_l (me_r (me_r (List.mem_of_getElem? (i := 1) rfl))))) (fa_c (me_s (me_l (me_r (me_r (List.mem_of_getElem? (i := 2) rfl))))) (fa_c (me_s (me_l (me_r (me_r (List.mem_of_getElem? (i := 3) rfl))))) (fa_c (me_s (me_l (me_r (me_r (List.mem_of_getElem? (i := 4) rfl))))) (fa_c (me_s (me_l (me_r (me_r (List.mem_of_getElem? (i := 5) rfl))))) (fa_c (me_s (me_l (me_r (me_r (List.mem_of_getElem? (i := 6) rfl))))) (fa_c (me_s (me_l (me_l (List.mem_of_getElem? (i := 21) rfl)))) (fa_c (me_s (me_l (me_r (me_r (List.mem_of_getElem? (i := 7) rfl))))) (fa_c (me_s (me_l (me_r (me_r (List.mem_of_getElem? (i := 8) rfl))))) fa_n)))))))))))))))))))))))) (fa_c (me_s (me_l (me_r (me_r (List.mem_of_getElem? (i := 9) rfl))))) (fa_c (me_s (me_l (me_r (me_r (List.mem_of_getElem? (i := 10) rfl))))) (fa_c (me_s (me_l (me_r (me_r (List.mem_of_getElem? (i := 11) rfl))))) fa_n)))) (fun w h => (me_s (me_r h))))) (by decide +kernel)
set_option maxRecDepth 20000 in
theorem gX12_granted_X12_first : GoodIn wsX12_granted (wsV RX12 443 RX12 yX12_first wsX12_first) := goodIn_app (goodIn_sub (fa_c (me_s (me_l (me_r (me_l (List.mem_of_getElem? (i := 7) rfl))))) (fa_c (me_s (me_l (me_r (me_l (List.mem_of_getElem? (i := 8) rfl))))) (fa_c (me_s (me_l (me_r (me_l (List.mem_of_getElem? (i := 9) rfl))))) (fa_c (me_s (me_l (me_l (List.mem_of_getElem? (i := 9) rfl)))) fa_n)))) (by decide +kernel)) ggX12_granted_X12_first
theorem dX12_granted_74 : decode cX12_granted 74 = .ok (.invokevirtual 443, 3) := z_dd_182 (by decide +kernel)
theorem dX12_granted_77 : decode cX12_granted 77 = .ok (.ireturn, 1) := z_dd_172 (by decide +kernel)
theorem dX12_ask_8 : decode cX12_ask 8 = .ok (.iload_n 2, 1) := z_dd_28 (by decide +kernel)
theorem dX12_ask_9 : decode cX12_ask 9 = .ok (.iconst 1, 1) := z_dd_4 (by decide +kernel)
theorem dX12_ask_10 : decode cX12_ask 10 = .ok (.sipush 500, 3) := z_dd_17 (by decide +kernel)
set_option maxRecDepth 20000 in
theorem ggX12_ask_X12_within : GoodIn wsX12_ask wsX12_within := goodIn_sub (fa_c (me_s (me_l (me_l (List.mem_of_getElem? (i := 19) rfl)))) fa_n) (by decide +kernel)
set_option maxRecDepth 20000 in
theorem gX12_ask_X12_within : GoodIn wsX12_ask (va_wsS RX12 235 yX12_within wsX12_within) := goodIn_app (goodIn_sub (fa_c (me_s (me_l (me_l (List.mem_of_getElem? (i := 17) rfl)))) (fa_c (me_s (me_l (me_l (List.mem_of_getElem? (i := 18) rfl)))) (fa_c (me_s (me_l (me_l (List.mem_of_getElem? (i := 14) rfl)))) fa_n))) (by decide +kernel)) ggX12_ask_X12_within
theorem dX12_ask_13 : decode cX12_ask 13 = .ok (.invokestatic 235, 3) := z_dd_184 (by decide +kernel)
theorem dX12_ask_16 : decode cX12_ask 16 = .ok (.ifCond .eq 71, 3) := z_dd_153 (by decide +kernel)
theorem dX12_ask_19 : decode cX12_ask 19 = .ok (.iload_n 3, 1) := z_dd_29 (by decide +kernel)
theorem dX12_ask_20 : decode cX12_ask 20 = .ok (.iconst 1, 1) := z_dd_4 (by decide +kernel)
theorem dX12_ask_21 : decode cX12_ask 21 = .ok (.bipush 8, 2) := z_dd_16 (by decide +kernel)
theorem dX12_ask_23 : decode cX12_ask 23 = .ok (.invokestatic 235, 3) := z_dd_184 (by decide +kernel)
theorem dX12_ask_26 : decode cX12_ask 26 = .ok (.ifCond .eq 61, 3) := z_dd_153 (by decide +kernel)
theorem dX12_ask_29 : decode cX12_ask 29 = .ok (.iload 4, 2) := z_dd_21 (by decide +kernel)
theorem dX12_ask_31 : decode cX12_ask 31 = .ok (.iconst 0, 1) := z_dd_3 (by decide +kernel)
theorem dX12_ask_32 : decode cX12_ask 32 = .ok (.iconst 4, 1) := z_dd_7 (by decide +kernel)
theorem dX12_ask_33 : decode cX12_ask 33 = .ok (.invokestatic 235, 3) := z_dd_184 (by decide +kernel)
theorem dX12_ask_36 : decode cX12_ask 36 = .ok (.ifCond .eq 51, 3) := z_dd_153 (by decide +kernel)
theorem dX12_ask_39 : decode cX12_ask 39 = .ok (.iload 5, 2) := z_dd_21 (by decide +kernel)
theorem dX12_ask_41 : decode cX12_ask 41 = .ok (.aload_n 0, 1) := z_dd_42 (by decide +kernel)
theorem dX12_ask_42 : decode cX12_ask 42 = .ok (.getfield 232, 3) := z_dd_180 (by decide +kernel)
theorem dX12_ask_45 : decode cX12_ask 45 = .ok (.sipush 719, 3) := z_dd_17 (by decide +kernel)
theorem dX12_ask_48 : decode cX12_ask 48 = .ok (.invokestatic 235, 3) := z_dd_184 (by decide +kernel)
theorem dX12_ask_51 : decode cX12_ask 51 = .ok (.ifCond .eq 36, 3) := z_dd_153 (by decide +kernel)
theorem dX12_ask_54 : decode cX12_ask 54 = .ok (.iload 6, 2) := z_dd_21 (by decide +kernel)
theorem dX12_ask_56 : decode cX12_ask 56 = .ok (.iconst 0, 1) := z_dd_3 (by decide +kernel)
theorem dX12_ask_57 : decode cX12_ask 57 = .ok (.bipush 99, 2) := z_dd_16 (by decide +kernel)
theorem dX12_ask_59 : decode cX12_ask 59 = .ok (.invokestatic 235, 3) := z_dd_184 (by decide +kernel)
theorem dX12_ask_62 : decode cX12_ask 62 = .ok (.ifCond .eq 25, 3) := z_dd_153 (by decide +kernel)
theorem dX12_ask_65 : decode cX12_ask 65 = .ok (.iload 6, 2) := z_dd_21 (by decide +kernel)
theorem dX12_ask_67 : decode cX12_ask 67 = .ok (.bipush 10, 2) := z_dd_16 (by decide +kernel)
theorem dX12_ask_69 : decode cX12_ask 69 = .ok (.idiv, 1) := z_dd_108 (by decide +kernel)
theorem dX12_ask_70 : decode cX12_ask 70 = .ok (.iload 6, 2) := z_dd_21 (by decide +kernel)
theorem dX12_ask_72 : decode cX12_ask 72 = .ok (.bipush 10, 2) := z_dd_16 (by decide +kernel)
theorem dX12_ask_74 : decode cX12_ask 74 = .ok (.irem, 1) := z_dd_112 (by decide +kernel)
theorem dX12_ask_75 : decode cX12_ask 75 = .ok (.if_icmp .eq 12, 3) := z_dd_159 (by decide +kernel)
theorem dX12_ask_78 : decode cX12_ask 78 = .ok (.aload_n 0, 1) := z_dd_42 (by decide +kernel)
theorem dX12_ask_79 : decode cX12_ask 79 = .ok (.getfield 505, 3) := z_dd_180 (by decide +kernel)
theorem dX12_ask_82 : decode cX12_ask 82 = .ok (.bipush 60, 2) := z_dd_16 (by decide +kernel)
theorem dX12_ask_84 : decode cX12_ask 84 = .ok (.if_icmp .ne 5, 3) := z_dd_160 (by decide +kernel)
theorem dX12_ask_89 : decode cX12_ask 89 = .ok (.aload_n 0, 1) := z_dd_42 (by decide +kernel)
theorem dX12_ask_90 : decode cX12_ask 90 = .ok (.getfield 505, 3) := z_dd_180 (by decide +kernel)
theorem dX12_ask_93 : decode cX12_ask 93 = .ok (.istore 7, 2) := z_dd_54 (by decide +kernel)
theorem dX12_ask_95 : decode cX12_ask 95 = .ok (.aload_n 0, 1) := z_dd_42 (by decide +kernel)
theorem dX12_ask_96 : decode cX12_ask 96 = .ok (.getfield 193, 3) := z_dd_180 (by decide +kernel)
theorem dX12_ask_99 : decode cX12_ask 99 = .ok (.iload 7, 2) := z_dd_21 (by decide +kernel)
theorem dX12_ask_101 : decode cX12_ask 101 = .ok (.iload_n 1, 1) := z_dd_27 (by decide +kernel)
theorem dX12_ask_102 : decode cX12_ask 102 = .ok (.iastore, 1) := z_dd_79 (by decide +kernel)
theorem dX12_ask_103 : decode cX12_ask 103 = .ok (.aload_n 0, 1) := z_dd_42 (by decide +kernel)
theorem dX12_ask_104 : decode cX12_ask 104 = .ok (.getfield 196, 3) := z_dd_180 (by decide +kernel)
theorem dX12_ask_107 : decode cX12_ask 107 = .ok (.iload 7, 2) := z_dd_21 (by decide +kernel)
theorem dX12_ask_109 : decode cX12_ask 109 = .ok (.iload_n 2, 1) := z_dd_28 (by decide +kernel)
theorem dX12_ask_110 : decode cX12_ask 110 = .ok (.iastore, 1) := z_dd_79 (by decide +kernel)
theorem dX12_ask_111 : decode cX12_ask 111 = .ok (.aload_n 0, 1) := z_dd_42 (by decide +kernel)
theorem dX12_ask_112 : decode cX12_ask 112 = .ok (.getfield 199, 3) := z_dd_180 (by decide +kernel)
theorem dX12_ask_115 : decode cX12_ask 115 = .ok (.iload 7, 2) := z_dd_21 (by decide +kernel)
theorem dX12_ask_117 : decode cX12_ask 117 = .ok (.iload_n 3, 1) := z_dd_29 (by decide +kernel)
theorem dX12_ask_118 : decode cX12_ask 118 = .ok (.iastore, 1) := z_dd_79 (by decide +kernel)
theorem dX12_ask_119 : decode cX12_ask 119 = .ok (.aload_n 0, 1) := z_dd_42 (by decide +kernel)
theorem dX12_ask_120 : decode cX12_ask 120 = .ok (.getfield 202, 3) := z_dd_180 (by decide +kernel)
theorem dX12_ask_123 : decode cX12_ask 123 = .ok (.iload 7, 2) := z_dd_21 (by decide +kernel)
theorem dX12_ask_125 : decode cX12_ask 125 = .ok (.iload 4, 2) := z_dd_21 (by decide +kernel)
theorem dX12_ask_127 : decode cX12_ask 127 = .ok (.iastore, 1) := z_dd_79 (by decide +kernel)
theorem dX12_ask_128 : decode cX12_ask 128 = .ok (.aload_n 0, 1) := z_dd_42 (by decide +kernel)
theorem dX12_ask_129 : decode cX12_ask 129 = .ok (.getfield 205, 3) := z_dd_180 (by decide +kernel)
theorem dX12_ask_132 : decode cX12_ask 132 = .ok (.iload 7, 2) := z_dd_21 (by decide +kernel)
theorem dX12_ask_134 : decode cX12_ask 134 = .ok (.iload 5, 2) := z_dd_21 (by decide +kernel)
theorem dX12_ask_136 : decode cX12_ask 136 = .ok (.iastore, 1) := z_dd_79 (by decide +kernel)
theorem dX12_ask_137 : decode cX12_ask 137 = .ok (.aload_n 0, 1) := z_dd_42 (by decide +kernel)
theorem dX12_ask_138 : decode cX12_ask 138 = .ok (.getfield 208, 3) := z_dd_180 (by decide +kernel)
theorem dX12_ask_141 : decode cX12_ask 141 = .ok (.iload 7, 2) := z_dd_21 (by decide +kernel)
theorem dX12_ask_143 : decode cX12_ask 143 = .ok (.iload 6, 2) := z_dd_21 (by decide +kernel)
theorem dX12_ask_145 : decode cX12_ask 145 = .ok (.iastore, 1) := z_dd_79 (by decide +kernel)
theorem dX12_ask_146 : decode cX12_ask 146 = .ok (.aload_n 0, 1) := z_dd_42 (by decide +kernel)
theorem dX12_ask_147 : decode cX12_ask 147 = .ok (.getfield 211, 3) := z_dd_180 (by decide +kernel)
theorem dX12_ask_150 : decode cX12_ask 150 = .ok (.iload 7, 2) := z_dd_21 (by decide +kernel)
theorem dX12_ask_152 : decode cX12_ask 152 = .ok (.aload_n 0, 1) := z_dd_42 (by decide +kernel)
theorem dX12_ask_153 : decode cX12_ask 153 = .ok (.getfield 232, 3) := z_dd_180 (by decide +kernel)
theorem dX12_ask_156 : decode cX12_ask 156 = .ok (.iastore, 1) := z_dd_79 (by decide +kernel)
theorem dX12_ask_157 : decode cX12_ask 157 = .ok (.aload_n 0, 1) := z_dd_42 (by decide +kernel)
theorem dX12_ask_158 : decode cX12_ask 158 = .ok (.getfield 214, 3) := z_dd_180 (by decide +kernel)
theorem dX12_ask_161 : decode cX12_ask 161 = .ok (.iload 7, 2) := z_dd_21 (by decide +kernel)
theorem dX12_ask_163 : decode cX12_ask 163 = .ok (.aload_n 0, 1) := z_dd_42 (by decide +kernel)
theorem dX12_ask_164 : decode cX12_ask 164 = .ok (.iload 7, 2) := z_dd_21 (by decide +kernel)
set_option maxRecDepth 20000 in
theorem ggX12_ask_X12_granted : GoodIn wsX12_ask wsX12_granted := goodIn_sub (fa_c (me_s (me_l (me_l (List.mem_of_getElem? (i := 23) rfl)))) (fa_a (fa_a (fa_c (me_s (me_l (me_l (List.mem_of_getElem? (i := 6) rfl)))) (fa_c (me_s (me_l (me_l (List.mem_of_getElem? (i := 2) rfl)))) (fa_c (me_s (me_l (me_l (List.mem_of_getElem? (i := 8) rfl)))) (fa_c (me_s (me_l (me_l (List.mem_of_getElem? (i := 3) rfl)))) (fa_c (me_s (me_l (me_l (List.mem_of_getElem? (i := 4) rfl)))) (fa_c (me_s (me_l (me_l (List.mem_of_getElem? (i := 5) rfl)))) (fa_c (me_s (me_l (me_r (me_l (List.mem_of_getElem? (i := 0) rfl))))) (fa_c (me_s (me_l (me_r (me_l (List.mem_of_getElem? (i := 1) rfl))))) (fa_c (me_s (me_l (me_r (me_l (List.mem_of_getElem? (i := 2) rfl))))) (fa_c (me_s (me_l (me_l (List.mem_of_getElem? (i := 14) rfl)))) (fa_c (me_s (me_l (me_r (me_l (List.mem_of_getElem? (i := 3) rfl))))) (fa_c (me_s (me_l (me_r (me_l (List.mem_of_getElem? (i := 4) rfl))))) (fa_c (me_s (me_l (me_r (me_l (List.mem_of_getElem? (i := 5) rfl))))) (fa_c (me_s (me_l (me_r (me_l (List.mem_of_getElem? (i := 6) rfl))))) (fa_c (me_s (me_l (me_r (me_l (List.mem_of_getElem? (i := 7) rfl))))) (fa_c (me_s (me_l (me_r (me_l (List.mem_of_getElem? (i := 8) rfl))))) (fa_c (me_s (me_l (me_r (me_l (List.mem_of_getElem? (i := 9) rfl))))) (fa_c (me_s (me_l (me_r (me_l (List.mem_of_getElem? (i := 10) rfl))))) (fa_c (me_s (me_l (me_r (me_l (List.mem_of_getElem? (i := 11) rfl))))) (fa_c (me_s (me_l (me_r (me_l (List.mem_of_getElem? (i := 12) rfl))))) (fa_c (me_s (me_l (me_r (me_l (List.mem_of_getElem? (i := 13) rfl))))) (fa_c (me_s (me_l (me_r (me_l (List.mem_of_getElem? (i := 14) rfl))))) (fa_c (me_s (me_l (me_r (me_l (List.mem_of_getElem? (i := 15) rfl))))) (fa_c (me_s (me_l (me_r (me_l (List.mem_of_getElem? (i := 16) rfl))))) fa_n)))))))))))))))))))))))) (fa_a (fa_c (me_s (me_l (me_r (me_l (List.mem_of_getElem? (i := 17) rfl))))) (fa_c (me_s (me_l (me_r (me_l (List.mem_of_getElem? (i := 18) rfl))))) (fa_c (me_s (me_l (me_r (me_l (List.mem_of_getElem? (i := 19) rfl))))) (fa_c (me_s (me_l (me_r (me_l (List.mem_of_getElem? (i := 20) rfl))))) (fa_c (me_s (me_l (me_r (me_l (List.mem_of_getElem? (i := 21) rfl))))) (fa_c (me_s (me_l (me_r (me_l (List.mem_of_getElem? (i := 22) rfl))))) (fa_c (me_s (me_l (me_r (me_l (List.mem_of_getElem? (i := 23) rfl))))) (fa_c (me_s (me_l (me_r (me_r (me_l (List.mem_of_getElem? (i := 0) rfl)))))) (fa_c (me_s (me_l (me_r (me_r (me_l (List.mem_of_getElem? (i := 1) rfl)))))) (fa_c (me_s (me_l (me_r (me_r (me_l (List.mem_of_getElem? (i := 2) rfl)))))) (fa_c (me_s (me_l (me_r (me_r (me_l (List.mem_of_getElem? (i := 3) rfl)))))) (fa_c (me_s (me_l (me_r (me_r (me_l (List.mem_of_getElem? (i := 4) rfl)))))) (fa_c (me_s (me_l (me_r (me_r (me_l (List.mem_of_getElem? (i := 5) rfl)))))) (fa_c (me_s (me_l (me_r (me_r (me_l (List.mem_of_getElem? (i := 6) rfl)))))) (fa_c (me_s (me_l (me_r (me_r (me_l (List.mem_of_getElem? (i := 7) rfl)))))) (fa_c (me_s (me_l (me_r (me_r (me_l (List.mem_of_getElem? (i := 8) rfl)))))) (fa_c (me_s (me_l (me_r (me_r (me_l (List.mem_of_getElem? (i := 9) rfl)))))) (fa_c (me_s (me_l (me_r (me_r (me_l (List.mem_of_getElem? (i := 10) rfl)))))) (fa_c (me_s (me_l (me_r (me_r (me_l (List.mem_of_getElem? (i := 11) rfl)))))) (fa_c (me_s (me_l (me_r (me_r (me_l (List.mem_of_getElem? (i := 12) rfl)))))) (fa_c (me_s (me_l (me_r (me_r (me_l (List.mem_of_getElem? (i := 13) rfl)))))) (fa_c (me_s (me_l (me_r (me_r (me_l (List.mem_of_getElem? (i := 14) rfl)))))) (fa_c (me_s (me_l (me_r (me_r (me_l (List.mem_of_getElem? (i := 15) rfl)))))) (fa_c (me_s (me_l (me_r (me_r (me_l (List.mem_of_getElem? (i := 16) rfl)))))) fa_n)))))))))))))))))))))))) (fa_c (me_s (me_l (me_r (me_r (me_l (List.mem_of_getElem? (i := 17) rfl)))))) (fa_c (me_s (me_l (me_r (me_r (me_l (List.mem_of_getElem? (i := 18) rfl)))))) (fa_c (me_s (me_l (me_r (me_r (me_l (List.mem_of_getElem? (i := 19) rfl)))))) (fa_c (me_s (me_l (me_r (me_r (me_l (List.mem_of_getElem? (i := 20) rfl)))))) (fa_c (me_s (me_l (me_r (me_r (me_l (List.mem_of_getElem? (i := 21) rfl)))))) (fa_c (me_s (me_l (me_r (me_r (me_l (List.mem_of_getElem? (i := 22) rfl)))))) (fa_c (me_s (me_l (me_r (me_r (me_l (List.mem_of_getElem? (i := 23) rfl)))))) (fa_c (me_s (me_l (me_r (me_r (me_r (List.mem_of_getElem? (i := 0) rfl)))))) (fa_c (me_s (me_l (me_r (me_r (me_r (List.mem_of_getElem? (i := 1) rfl)))))) (fa_c (me_s (me_l (me_r (me_r (me_r (List.mem_of_getElem? (i := 2) rfl)))))) (fa_c (me_s (me_l (me_r (me_r (me_r (List.mem_of_getElem? (i := 3) rfl)))))) (fa_c (me_s (me_l (me_r (me_r (me_r (List.mem_of_getElem? (i := 4) rfl)))))) fa_n)))))))))))))) (fun w h => (me_s (me_r h))))) (by decide +kernel)
set_option maxRecDepth 20000 in
theorem gX12_ask_X12_granted : GoodIn wsX12_ask (wsV RX12 508 RX12 yX12_granted wsX12_granted) := goodIn_app (goodIn_sub (fa_c (me_s (me_l (me_l (List.mem_of_getElem? (i := 20) rfl)))) (fa_c (me_s (me_l (me_l (List.mem_of_getElem? (i := 21) rfl)))) (fa_c (me_s (me_l (me_l (List.mem_of_getElem? (i := 22) rfl)))) (fa_c (me_s (me_l (me_l (List.mem_of_getElem? (i := 14) rfl)))) fa_n)))) (by decide +kernel)) ggX12_ask_X12_granted
theorem dX12_ask_166 : decode cX12_ask 166 = .ok (.invokevirtual 508, 3) := z_dd_182 (by decide +kernel)
theorem dX12_ask_169 : decode cX12_ask 169 = .ok (.iastore, 1) := z_dd_79 (by decide +kernel)
theorem dX12_ask_170 : decode cX12_ask 170 = .ok (.aload_n 0, 1) := z_dd_42 (by decide +kernel)
theorem dX12_ask_171 : decode cX12_ask 171 = .ok (.getfield 217, 3) := z_dd_180 (by decide +kernel)
theorem dX12_ask_174 : decode cX12_ask 174 = .ok (.iload 7, 2) := z_dd_21 (by decide +kernel)
theorem dX12_ask_176 : decode cX12_ask 176 = .ok (.aload_n 0, 1) := z_dd_42 (by decide +kernel)
theorem dX12_ask_177 : decode cX12_ask 177 = .ok (.getfield 214, 3) := z_dd_180 (by decide +kernel)
theorem dX12_ask_180 : decode cX12_ask 180 = .ok (.iload 7, 2) := z_dd_21 (by decide +kernel)
theorem dX12_ask_182 : decode cX12_ask 182 = .ok (.iaload, 1) := z_dd_46 (by decide +kernel)
theorem dX12_ask_183 : decode cX12_ask 183 = .ok (.iastore, 1) := z_dd_79 (by decide +kernel)
theorem dX12_ask_184 : decode cX12_ask 184 = .ok (.aload_n 0, 1) := z_dd_42 (by decide +kernel)
theorem dX12_ask_185 : decode cX12_ask 185 = .ok (.dup, 1) := z_dd_89 (by decide +kernel)
theorem dX12_ask_186 : decode cX12_ask 186 = .ok (.getfield 505, 3) := z_dd_180 (by decide +kernel)
theorem dX12_ask_189 : decode cX12_ask 189 = .ok (.iconst 1, 1) := z_dd_4 (by decide +kernel)
theorem dX12_ask_190 : decode cX12_ask 190 = .ok (.iadd, 1) := z_dd_96 (by decide +kernel)
theorem dX12_ask_191 : decode cX12_ask 191 = .ok (.putfield 505, 3) := z_dd_181 (by decide +kernel)
theorem dX12_ask_194 : decode cX12_ask 194 = .ok (.iload 7, 2) := z_dd_21 (by decide +kernel)
theorem dX12_ask_196 : decode cX12_ask 196 = .ok (.ireturn, 1) := z_dd_172 (by decide +kernel)
theorem dX12_appeal_12 : decode cX12_appeal 12 = .ok (.iload_n 2, 1) := z_dd_28 (by decide +kernel)
theorem dX12_appeal_13 : decode cX12_appeal 13 = .ok (.iconst 0, 1) := z_dd_3 (by decide +kernel)
theorem dX12_appeal_14 : decode cX12_appeal 14 = .ok (.iconst 4, 1) := z_dd_7 (by decide +kernel)
set_option maxRecDepth 20000 in
theorem ggX12_appeal_X12_within : GoodIn wsX12_appeal wsX12_within := goodIn_sub (fa_c (me_s (me_l (me_l (List.mem_of_getElem? (i := 6) rfl)))) fa_n) (by decide +kernel)
set_option maxRecDepth 20000 in
theorem gX12_appeal_X12_within : GoodIn wsX12_appeal (va_wsS RX12 235 yX12_within wsX12_within) := goodIn_app (goodIn_sub (fa_c (me_s (me_l (me_l (List.mem_of_getElem? (i := 3) rfl)))) (fa_c (me_s (me_l (me_l (List.mem_of_getElem? (i := 4) rfl)))) (fa_c (me_s (me_l (me_l (List.mem_of_getElem? (i := 5) rfl)))) fa_n))) (by decide +kernel)) ggX12_appeal_X12_within
theorem dX12_appeal_15 : decode cX12_appeal 15 = .ok (.invokestatic 235, 3) := z_dd_184 (by decide +kernel)
theorem dX12_appeal_18 : decode cX12_appeal 18 = .ok (.ifCond .ne 5, 3) := z_dd_154 (by decide +kernel)
theorem dX12_appeal_23 : decode cX12_appeal 23 = .ok (.aload_n 0, 1) := z_dd_42 (by decide +kernel)
theorem dX12_appeal_24 : decode cX12_appeal 24 = .ok (.getfield 202, 3) := z_dd_180 (by decide +kernel)
theorem dX12_appeal_27 : decode cX12_appeal 27 = .ok (.iload_n 1, 1) := z_dd_27 (by decide +kernel)
theorem dX12_appeal_28 : decode cX12_appeal 28 = .ok (.iload_n 2, 1) := z_dd_28 (by decide +kernel)
theorem dX12_appeal_29 : decode cX12_appeal 29 = .ok (.iastore, 1) := z_dd_79 (by decide +kernel)
theorem dX12_appeal_30 : decode cX12_appeal 30 = .ok (.aload_n 0, 1) := z_dd_42 (by decide +kernel)
theorem dX12_appeal_31 : decode cX12_appeal 31 = .ok (.getfield 214, 3) := z_dd_180 (by decide +kernel)
theorem dX12_appeal_34 : decode cX12_appeal 34 = .ok (.iload_n 1, 1) := z_dd_27 (by decide +kernel)
theorem dX12_appeal_35 : decode cX12_appeal 35 = .ok (.aload_n 0, 1) := z_dd_42 (by decide +kernel)
theorem dX12_appeal_36 : decode cX12_appeal 36 = .ok (.iload_n 1, 1) := z_dd_27 (by decide +kernel)
set_option maxRecDepth 20000 in
theorem ggX12_appeal_X12_granted : GoodIn wsX12_appeal wsX12_granted := goodIn_sub (fa_c (me_s (me_l (me_l (List.mem_of_getElem? (i := 10) rfl)))) (fa_a (fa_a (fa_c (me_s (me_l (me_l (List.mem_of_getElem? (i := 11) rfl)))) (fa_c (me_s (me_l (me_l (List.mem_of_getElem? (i := 12) rfl)))) (fa_c (me_s (me_l (me_l (List.mem_of_getElem? (i := 13) rfl)))) (fa_c (me_s (me_l (me_l (List.mem_of_getElem? (i := 14) rfl)))) (fa_c (me_s (me_l (me_l (List.mem_of_getElem? (i := 15) rfl)))) (fa_c (me_s (me_l (me_l (List.mem_of_getElem? (i := 1) rfl)))) (fa_c (me_s (me_l (me_l (List.mem_of_getElem? (i := 16) rfl)))) (fa_c (me_s (me_l (me_l (List.mem_of_getElem? (i := 17) rfl)))) (fa_c (me_s (me_l (me_l (List.mem_of_getElem? (i := 18) rfl)))) (fa_c (me_s (me_l (me_l (List.mem_of_getElem? (i := 5) rfl)))) (fa_c (me_s (me_l (me_l (List.mem_of_getElem? (i := 19) rfl)))) (fa_c (me_s (me_l (me_l (List.mem_of_getElem? (i := 20) rfl)))) (fa_c (me_s (me_l (me_l (List.mem_of_getElem? (i := 21) rfl)))) (fa_c (me_s (me_l (me_l (List.mem_of_getElem? (i := 22) rfl)))) (fa_c (me_s (me_l (me_l (List.mem_of_getElem? (i := 23) rfl)))) (fa_c (me_s (me_l (me_r (me_l (List.mem_of_getElem? (i := 0) rfl))))) (fa_c (me_s (me_l (me_r (me_l (List.mem_of_getElem? (i := 1) rfl))))) (fa_c (me_s (me_l (me_r (me_l (List.mem_of_getElem? (i := 2) rfl))))) (fa_c (me_s (me_l (me_r (me_l (List.mem_of_getElem? (i := 3) rfl))))) (fa_c (me_s (me_l (me_r (me_l (List.mem_of_getElem? (i := 4) rfl))))) (fa_c (me_s (me_l (me_r (me_l (List.mem_of_getElem? (i := 5) rfl))))) (fa_c (me_s (me_l (me_r (me_l (List.mem_of_getElem? (i := 6) rfl))))) (fa_c (me_s (me_l (me_r (me_l (List.mem_of_getElem? (i := 7) rfl))))) (fa_c (me_s (me_l (me_r (me_l (List.mem_of_getElem? (i := 8) rfl))))) fa_n)))))))))))))))))))))))) (fa_a (fa_c (me_s (me_l (me_r (me_l (List.mem_of_getElem? (i := 9) rfl))))) (fa_c (me_s (me_l (me_r (me_l (List.mem_of_getElem? (i := 10) rfl))))) (fa_c (me_s (me_l (me_r (me_l (List.mem_of_getElem? (i := 11) rfl))))) (fa_c (me_s (me_l (me_r (me_l (List.mem_of_getElem? (i := 12) rfl))))) (fa_c (me_s (me_l (me_r (me_l (List.mem_of_getElem? (i := 13) rfl))))) (fa_c (me_s (me_l (me_r (me_l (List.mem_of_getElem? (i := 14) rfl))))) (fa_c (me_s (me_l (me_r (me_l (List.mem_of_getElem? (i := 15) rfl))))) (fa_c (me_s (me_l (me_r (me_l (List.mem_of_getElem? (i := 16) rfl))))) (fa_c (me_s (me_l (me_r (me_l (List.mem_of_getElem? (i := 17) rfl))))) (fa_c (me_s (me_l (me_r (me_l (List.mem_of_getElem? (i := 18) rfl))))) (fa_c (me_s (me_l (me_r (me_l (List.mem_of_getElem? (i := 19) rfl))))) (fa_c (me_s (me_l (me_r (me_l (List.mem_of_getElem? (i := 20) rfl))))) (fa_c (me_s (me_l (me_r (me_l (List.mem_of_getElem? (i := 21) rfl))))) (fa_c (me_s (me_l (me_r (me_l (List.mem_of_getElem? (i := 22) rfl))))) (fa_c (me_s (me_l (me_r (me_l (List.mem_of_getElem? (i := 23) rfl))))) (fa_c (me_s (me_l (me_r (me_r (List.mem_of_getElem? (i := 0) rfl))))) (fa_c (me_s (me_l (me_r (me_r (List.mem_of_getElem? (i := 1) rfl))))) (fa_c (me_s (me_l (me_r (me_r (List.mem_of_getElem? (i := 2) rfl))))) (fa_c (me_s (me_l (me_r (me_r (List.mem_of_getElem? (i := 3) rfl))))) (fa_c (me_s (me_l (me_r (me_r (List.mem_of_getElem? (i := 4) rfl))))) (fa_c (me_s (me_l (me_r (me_r (List.mem_of_getElem? (i := 5) rfl))))) (fa_c (me_s (me_l (me_r (me_r (List.mem_of_getElem? (i := 6) rfl))))) (fa_c (me_s (me_l (me_r (me_r (List.mem_of_getElem? (i := 7) rfl))))) (fa_c (me_s (me_l (me_r (me_r (List.mem_of_getElem? (i := 8) rfl))))) fa_n)))))))))))))))))))))))) (fa_c (me_s (me_l (me_r (me_r (List.mem_of_getElem? (i := 9) rfl))))) (fa_c (me_s (me_l (me_r (me_r (List.mem_of_getElem? (i := 10) rfl))))) (fa_c (me_s (me_l (me_r (me_r (List.mem_of_getElem? (i := 11) rfl))))) (fa_c (me_s (me_l (me_r (me_r (List.mem_of_getElem? (i := 12) rfl))))) (fa_c (me_s (me_l (me_r (me_r (List.mem_of_getElem? (i := 13) rfl))))) (fa_c (me_s (me_l (me_r (me_r (List.mem_of_getElem? (i := 14) rfl))))) (fa_c (me_s (me_l (me_r (me_r (List.mem_of_getElem? (i := 15) rfl))))) (fa_c (me_s (me_l (me_r (me_r (List.mem_of_getElem? (i := 16) rfl))))) (fa_c (me_s (me_l (me_r (me_r (List.mem_of_getElem? (i := 17) rfl))))) (fa_c (me_s (me_l (me_r (me_r (List.mem_of_getElem? (i := 18) rfl))))) (fa_c (me_s (me_l (me_r (me_r (List.mem_of_getElem? (i := 19) rfl))))) (fa_c (me_s (me_l (me_r (me_r (List.mem_of_getElem? (i := 20) rfl))))) fa_n)))))))))))))) (fun w h => (me_s (me_r h))))) (by decide +kernel)
set_option maxRecDepth 20000 in
theorem gX12_appeal_X12_granted : GoodIn wsX12_appeal (wsV RX12 508 RX12 yX12_granted wsX12_granted) := goodIn_app (goodIn_sub (fa_c (me_s (me_l (me_l (List.mem_of_getElem? (i := 7) rfl)))) (fa_c (me_s (me_l (me_l (List.mem_of_getElem? (i := 8) rfl)))) (fa_c (me_s (me_l (me_l (List.mem_of_getElem? (i := 9) rfl)))) (fa_c (me_s (me_l (me_l (List.mem_of_getElem? (i := 5) rfl)))) fa_n)))) (by decide +kernel)) ggX12_appeal_X12_granted
theorem dX12_appeal_37 : decode cX12_appeal 37 = .ok (.invokevirtual 508, 3) := z_dd_182 (by decide +kernel)
theorem dX12_appeal_40 : decode cX12_appeal 40 = .ok (.iastore, 1) := z_dd_79 (by decide +kernel)
theorem dX12_appeal_41 : decode cX12_appeal 41 = .ok (.aload_n 0, 1) := z_dd_42 (by decide +kernel)
theorem dX12_appeal_42 : decode cX12_appeal 42 = .ok (.getfield 214, 3) := z_dd_180 (by decide +kernel)
theorem dX12_appeal_45 : decode cX12_appeal 45 = .ok (.iload_n 1, 1) := z_dd_27 (by decide +kernel)
theorem dX12_appeal_46 : decode cX12_appeal 46 = .ok (.iaload, 1) := z_dd_46 (by decide +kernel)
theorem dX12_appeal_47 : decode cX12_appeal 47 = .ok (.ireturn, 1) := z_dd_172 (by decide +kernel)
theorem dX12_foretold_0 : decode cX12_foretold 0 = .ok (.aload_n 0, 1) := z_dd_42 (by decide +kernel)
theorem dX12_foretold_1 : decode cX12_foretold 1 = .ok (.getfield 232, 3) := z_dd_180 (by decide +kernel)
theorem dX12_foretold_4 : decode cX12_foretold 4 = .ok (.bipush 30, 2) := z_dd_16 (by decide +kernel)
theorem dX12_foretold_6 : decode cX12_foretold 6 = .ok (.idiv, 1) := z_dd_108 (by decide +kernel)
theorem dX12_foretold_7 : decode cX12_foretold 7 = .ok (.istore_n 3, 1) := z_dd_62 (by decide +kernel)
theorem dX12_foretold_8 : decode cX12_foretold 8 = .ok (.iload_n 1, 1) := z_dd_27 (by decide +kernel)
theorem dX12_foretold_9 : decode cX12_foretold 9 = .ok (.iconst 1, 1) := z_dd_4 (by decide +kernel)
theorem dX12_foretold_10 : decode cX12_foretold 10 = .ok (.bipush 12, 2) := z_dd_16 (by decide +kernel)
set_option maxRecDepth 20000 in
theorem ggX12_foretold_X12_within : GoodIn wsX12_foretold wsX12_within := goodIn_sub (fa_c (me_s (me_l (me_l (List.mem_of_getElem? (i := 13) rfl)))) fa_n) (by decide +kernel)
set_option maxRecDepth 20000 in
theorem gX12_foretold_X12_within : GoodIn wsX12_foretold (va_wsS RX12 235 yX12_within wsX12_within) := goodIn_app (goodIn_sub (fa_c (me_s (me_l (me_l (List.mem_of_getElem? (i := 10) rfl)))) (fa_c (me_s (me_l (me_l (List.mem_of_getElem? (i := 11) rfl)))) (fa_c (me_s (me_l (me_l (List.mem_of_getElem? (i := 12) rfl)))) fa_n))) (by decide +kernel)) ggX12_foretold_X12_within
theorem dX12_foretold_12 : decode cX12_foretold 12 = .ok (.invokestatic 235, 3) := z_dd_184 (by decide +kernel)
theorem dX12_foretold_15 : decode cX12_foretold 15 = .ok (.ifCond .eq 13, 3) := z_dd_153 (by decide +kernel)
theorem dX12_foretold_18 : decode cX12_foretold 18 = .ok (.iload_n 3, 1) := z_dd_29 (by decide +kernel)
theorem dX12_foretold_19 : decode cX12_foretold 19 = .ok (.iload_n 1, 1) := z_dd_27 (by decide +kernel)
theorem dX12_foretold_20 : decode cX12_foretold 20 = .ok (.iadd, 1) := z_dd_96 (by decide +kernel)
theorem dX12_foretold_21 : decode cX12_foretold 21 = .ok (.iconst 1, 1) := z_dd_4 (by decide +kernel)
theorem dX12_foretold_22 : decode cX12_foretold 22 = .ok (.isub, 1) := z_dd_100 (by decide +kernel)
theorem dX12_foretold_23 : decode cX12_foretold 23 = .ok (.bipush 23, 2) := z_dd_16 (by decide +kernel)
theorem dX12_foretold_25 : decode cX12_foretold 25 = .ok (.if_icmp .le 7, 3) := z_dd_164 (by decide +kernel)
theorem dX12_foretold_32 : decode cX12_foretold 32 = .ok (.lconst 0, 1) := z_dd_9 (by decide +kernel)
theorem dX12_foretold_33 : decode cX12_foretold 33 = .ok (.lstore 4, 2) := z_dd_55 (by decide +kernel)
theorem dX12_foretold_35 : decode cX12_foretold 35 = .ok (.iload_n 3, 1) := z_dd_29 (by decide +kernel)
theorem dX12_foretold_36 : decode cX12_foretold 36 = .ok (.istore 6, 2) := z_dd_54 (by decide +kernel)
theorem dX12_foretold_38 : decode cX12_foretold 38 = .ok (.iload 6, 2) := z_dd_21 (by decide +kernel)
theorem dX12_foretold_40 : decode cX12_foretold 40 = .ok (.iload_n 3, 1) := z_dd_29 (by decide +kernel)
theorem dX12_foretold_41 : decode cX12_foretold 41 = .ok (.iload_n 1, 1) := z_dd_27 (by decide +kernel)
theorem dX12_foretold_42 : decode cX12_foretold 42 = .ok (.iadd, 1) := z_dd_96 (by decide +kernel)
theorem dX12_foretold_43 : decode cX12_foretold 43 = .ok (.if_icmp .ge 83, 3) := z_dd_162 (by decide +kernel)
theorem dX12_foretold_126 : decode cX12_foretold 126 = .ok (.iconst 0, 1) := z_dd_3 (by decide +kernel)
theorem dX12_foretold_127 : decode cX12_foretold 127 = .ok (.istore 6, 2) := z_dd_54 (by decide +kernel)
theorem dX12_foretold_129 : decode cX12_foretold 129 = .ok (.iconst 0, 1) := z_dd_3 (by decide +kernel)
theorem dX12_foretold_130 : decode cX12_foretold 130 = .ok (.istore 7, 2) := z_dd_54 (by decide +kernel)
theorem dX12_foretold_132 : decode cX12_foretold 132 = .ok (.iload 7, 2) := z_dd_21 (by decide +kernel)
theorem dX12_foretold_134 : decode cX12_foretold 134 = .ok (.aload_n 0, 1) := z_dd_42 (by decide +kernel)
theorem dX12_foretold_135 : decode cX12_foretold 135 = .ok (.getfield 493, 3) := z_dd_180 (by decide +kernel)
theorem dX12_foretold_138 : decode cX12_foretold 138 = .ok (.if_icmp .ge 21, 3) := z_dd_162 (by decide +kernel)
theorem dX12_foretold_159 : decode cX12_foretold 159 = .ok (.ldc2_w 525, 3) := z_dd_20 (by decide +kernel)
theorem dX12_foretold_162 : decode cX12_foretold 162 = .ok (.iload 6, 2) := z_dd_21 (by decide +kernel)
theorem dX12_foretold_164 : decode cX12_foretold 164 = .ok (.i2l, 1) := z_dd_133 (by decide +kernel)
theorem dX12_foretold_165 : decode cX12_foretold 165 = .ok (.lmul, 1) := z_dd_105 (by decide +kernel)
theorem dX12_foretold_166 : decode cX12_foretold 166 = .ok (.lload 4, 2) := z_dd_22 (by decide +kernel)
theorem dX12_foretold_168 : decode cX12_foretold 168 = .ok (.ldc2_w 527, 3) := z_dd_20 (by decide +kernel)
theorem dX12_foretold_171 : decode cX12_foretold 171 = .ok (.ladd, 1) := z_dd_97 (by decide +kernel)
theorem dX12_foretold_172 : decode cX12_foretold 172 = .ok (.ldc2_w 529, 3) := z_dd_20 (by decide +kernel)
theorem dX12_foretold_175 : decode cX12_foretold 175 = .ok (.ldiv, 1) := z_dd_109 (by decide +kernel)
theorem dX12_foretold_176 : decode cX12_foretold 176 = .ok (.lsub, 1) := z_dd_101 (by decide +kernel)
theorem dX12_foretold_177 : decode cX12_foretold 177 = .ok (.lstore 7, 2) := z_dd_55 (by decide +kernel)
theorem dX12_foretold_179 : decode cX12_foretold 179 = .ok (.lload 7, 2) := z_dd_22 (by decide +kernel)
theorem dX12_foretold_181 : decode cX12_foretold 181 = .ok (.ldc2_w 531, 3) := z_dd_20 (by decide +kernel)
theorem dX12_foretold_184 : decode cX12_foretold 184 = .ok (.lcmp, 1) := z_dd_148 (by decide +kernel)
theorem dX12_foretold_185 : decode cX12_foretold 185 = .ok (.ifCond .ge 9, 3) := z_dd_156 (by decide +kernel)
theorem dX12_foretold_194 : decode cX12_foretold 194 = .ok (.lload 7, 2) := z_dd_22 (by decide +kernel)
theorem dX12_foretold_196 : decode cX12_foretold 196 = .ok (.l2i, 1) := z_dd_136 (by decide +kernel)
theorem dX12_foretold_197 : decode cX12_foretold 197 = .ok (.ireturn, 1) := z_dd_172 (by decide +kernel)
theorem dX12_foretold_188 : decode cX12_foretold 188 = .ok (.ldc_w 533, 3) := z_dd_19 (by decide +kernel)
theorem dX12_foretold_191 : decode cX12_foretold 191 = .ok (.goto 6, 3) := z_dd_167 (by decide +kernel)
theorem dX12_foretold_141 : decode cX12_foretold 141 = .ok (.iload 6, 2) := z_dd_21 (by decide +kernel)
theorem dX12_foretold_143 : decode cX12_foretold 143 = .ok (.aload_n 0, 1) := z_dd_42 (by decide +kernel)
theorem dX12_foretold_144 : decode cX12_foretold 144 = .ok (.getfield 172, 3) := z_dd_180 (by decide +kernel)
theorem dX12_foretold_147 : decode cX12_foretold 147 = .ok (.iload 7, 2) := z_dd_21 (by decide +kernel)
theorem dX12_foretold_149 : decode cX12_foretold 149 = .ok (.iaload, 1) := z_dd_46 (by decide +kernel)
theorem dX12_foretold_150 : decode cX12_foretold 150 = .ok (.iadd, 1) := z_dd_96 (by decide +kernel)
theorem dX12_foretold_151 : decode cX12_foretold 151 = .ok (.istore 6, 2) := z_dd_54 (by decide +kernel)
theorem dX12_foretold_153 : decode cX12_foretold 153 = .ok (.iinc 7 1, 3) := z_dd_132 (by decide +kernel)
theorem dX12_foretold_156 : decode cX12_foretold 156 = .ok (.goto (-24), 3) := z_dd_167 (by decide +kernel)
theorem dX12_foretold_46 : decode cX12_foretold 46 = .ok (.iconst 0, 1) := z_dd_3 (by decide +kernel)
theorem dX12_foretold_47 : decode cX12_foretold 47 = .ok (.istore 7, 2) := z_dd_54 (by decide +kernel)
theorem dX12_foretold_49 : decode cX12_foretold 49 = .ok (.iload 7, 2) := z_dd_21 (by decide +kernel)
theorem dX12_foretold_51 : decode cX12_foretold 51 = .ok (.aload_n 0, 1) := z_dd_42 (by decide +kernel)
theorem dX12_foretold_52 : decode cX12_foretold 52 = .ok (.getfield 229, 3) := z_dd_180 (by decide +kernel)
theorem dX12_foretold_55 : decode cX12_foretold 55 = .ok (.if_icmp .ge 65, 3) := z_dd_162 (by decide +kernel)
theorem dX12_foretold_120 : decode cX12_foretold 120 = .ok (.iinc 6 1, 3) := z_dd_132 (by decide +kernel)
theorem dX12_foretold_123 : decode cX12_foretold 123 = .ok (.goto (-85), 3) := z_dd_167 (by decide +kernel)
theorem dX12_foretold_58 : decode cX12_foretold 58 = .ok (.iload_n 2, 1) := z_dd_28 (by decide +kernel)
theorem dX12_foretold_59 : decode cX12_foretold 59 = .ok (.ifCond .ne 24, 3) := z_dd_154 (by decide +kernel)
theorem dX12_foretold_83 : decode cX12_foretold 83 = .ok (.lload 4, 2) := z_dd_22 (by decide +kernel)
theorem dX12_foretold_85 : decode cX12_foretold 85 = .ok (.aload_n 0, 1) := z_dd_42 (by decide +kernel)
theorem dX12_foretold_86 : decode cX12_foretold 86 = .ok (.iload 7, 2) := z_dd_21 (by decide +kernel)
theorem dX12_foretold_88 : decode cX12_foretold 88 = .ok (.iload 6, 2) := z_dd_21 (by decide +kernel)
theorem dX12_foretold_90 : decode cX12_foretold 90 = .ok (.aload_n 0, 1) := z_dd_42 (by decide +kernel)
theorem dX12_foretold_91 : decode cX12_foretold 91 = .ok (.getfield 232, 3) := z_dd_180 (by decide +kernel)
set_option maxRecDepth 20000 in
theorem ggX12_foretold_X12_unitsOf : GoodIn wsX12_foretold wsX12_unitsOf := goodIn_sub (fa_c (me_s (me_l (me_r (me_l (List.mem_of_getElem? (i := 3) rfl))))) (fa_a (fa_a (fa_c (me_s (me_l (me_r (me_l (List.mem_of_getElem? (i := 4) rfl))))) (fa_c (me_s (me_l (me_r (me_l (List.mem_of_getElem? (i := 5) rfl))))) (fa_c (me_s (me_l (me_r (me_l (List.mem_of_getElem? (i := 6) rfl))))) (fa_c (me_s (me_l (me_l (List.mem_of_getElem? (i := 14) rfl)))) (fa_c (me_s (me_l (me_l (List.mem_of_getElem? (i := 15) rfl)))) (fa_c (me_s (me_l (me_l (List.mem_of_getElem? (i := 16) rfl)))) (fa_c (me_s (me_l (me_l (List.mem_of_getElem? (i := 12) rfl)))) (fa_c (me_s (me_l (me_l (List.mem_of_getElem? (i := 17) rfl)))) (fa_c (me_s (me_l (me_l (List.mem_of_getElem? (i := 18) rfl)))) (fa_c (me_s (me_l (me_l (List.mem_of_getElem? (i := 19) rfl)))) (fa_c (me_s (me_l (me_l (List.mem_of_getElem? (i := 20) rfl)))) (fa_c (me_s (me_l (me_l (List.mem_of_getElem? (i := 21) rfl)))) (fa_c (me_s (me_l (me_l (List.mem_of_getElem? (i := 22) rfl)))) (fa_c (me_s (me_l (me_l (List.mem_of_getElem? (i := 23) rfl)))) (fa_c (me_s (me_l (me_r (me_l (List.mem_of_getElem? (i := 7) rfl))))) (fa_c (me_s (me_l (me_r (me_l (List.mem_of_getElem? (i := 8) rfl))))) (fa_c (me_s (me_l (me_r (me_l (List.mem_of_getElem? (i := 9) rfl))))) (fa_c (me_s (me_l (me_r (me_l (List.mem_of_getElem? (i := 10) rfl))))) (fa_c (me_s (me_l (me_r (me_l (List.mem_of_getElem? (i := 11) rfl))))) (fa_c (me_s (me_l (me_r (me_l (List.mem_of_getElem? (i := 12) rfl))))) (fa_c (me_s (me_l (me_r (me_l (List.mem_of_getElem? (i := 13) rfl))))) (fa_c (me_s (me_l (me_r (me_l (List.mem_of_getElem? (i := 14) rfl))))) (fa_c (me_s (me_l (me_r (me_l (List.mem_of_getElem? (i := 15) rfl))))) (fa_c (me_s (me_l (me_r (me_l (List.mem_of_getElem? (i := 16) rfl))))) fa_n)))))))))))))))))))))))) (fa_a (fa_c (me_s (me_l (me_r (me_l (List.mem_of_getElem? (i := 17) rfl))))) (fa_c (me_s (me_l (me_r (me_l (List.mem_of_getElem? (i := 18) rfl))))) (fa_c (me_s (me_l (me_r (me_l (List.mem_of_getElem? (i := 19) rfl))))) (fa_c (me_s (me_l (me_r (me_l (List.mem_of_getElem? (i := 20) rfl))))) (fa_c (me_s (me_l (me_r (me_l (List.mem_of_getElem? (i := 21) rfl))))) (fa_c (me_s (me_l (me_r (me_l (List.mem_of_getElem? (i := 22) rfl))))) (fa_c (me_s (me_l (me_r (me_l (List.mem_of_getElem? (i := 23) rfl))))) (fa_c (me_s (me_l (me_r (me_r (me_l (List.mem_of_getElem? (i := 0) rfl)))))) (fa_c (me_s (me_l (me_r (me_r (me_l (List.mem_of_getElem? (i := 1) rfl)))))) (fa_c (me_s (me_l (me_r (me_r (me_l (List.mem_of_getElem? (i := 2) rfl)))))) (fa_c (me_s (me_l (me_r (me_r (me_l (List.mem_of_getElem? (i := 3) rfl)))))) (fa_c (me_s (me_l (me_r (me_r (me_l (List.mem_of_getElem? (i := 4) rfl)))))) (fa_c (me_s (me_l (me_r (me_r (me_l (List.mem_of_getElem? (i := 5) rfl)))))) (fa_c (me_s (me_l (me_r (me_r (me_l (List.mem_of_getElem? (i := 6) rfl)))))) (fa_c (me_s (me_l (me_r (me_r (me_l (List.mem_of_getElem? (i := 7) rfl)))))) (fa_c (me_s (me_l (me_r (me_r (me_l (List.mem_of_getElem? (i := 8) rfl)))))) (fa_c (me_s (me_l (me_r (me_r (me_l (List.mem_of_getElem? (i := 9) rfl)))))) (fa_c (me_s (me_l (me_r (me_r (me_l (List.mem_of_getElem? (i := 10) rfl)))))) (fa_c (me_s (me_l (me_r (me_r (me_l (List.mem_of_getElem? (i := 11) rfl)))))) (fa_c (me_s (me_l (me_r (me_r (me_l (List.mem_of_getElem? (i := 12) rfl)))))) (fa_c (me_s (me_l (me_r (me_r (me_l (List.mem_of_getElem? (i := 13) rfl)))))) (fa_c (me_s (me_l (me_r (me_r (me_l (List.mem_of_getElem? (i := 14) rfl)))))) (fa_c (me_s (me_l (me_r (me_r (me_l (List.mem_of_getElem? (i := 15) rfl)))))) (fa_c (me_s (me_l (me_r (me_r (me_l (List.mem_of_getElem? (i := 16) rfl)))))) fa_n)))))))))))))))))))))))) (fa_c (me_s (me_l (me_r (me_r (me_l (List.mem_of_getElem? (i := 17) rfl)))))) (fa_c (me_s (me_l (me_r (me_r (me_l (List.mem_of_getElem? (i := 18) rfl)))))) (fa_c (me_s (me_l (me_r (me_r (me_l (List.mem_of_getElem? (i := 19) rfl)))))) (fa_c (me_s (me_l (me_r (me_r (me_l (List.mem_of_getElem? (i := 20) rfl)))))) (fa_c (me_s (me_l (me_r (me_r (me_l (List.mem_of_getElem? (i := 21) rfl)))))) (fa_c (me_s (me_l (me_r (me_r (me_l (List.mem_of_getElem? (i := 22) rfl)))))) fa_n)))))))) (fun w h => (me_s (me_r h))))) (by decide +kernel)
set_option maxRecDepth 20000 in
theorem gX12_foretold_X12_unitsOf : GoodIn wsX12_foretold (wsV RX12 446 RX12 yX12_unitsOf wsX12_unitsOf) := goodIn_app (goodIn_sub (fa_c (me_s (me_l (me_r (me_l (List.mem_of_getElem? (i := 0) rfl))))) (fa_c (me_s (me_l (me_r (me_l (List.mem_of_getElem? (i := 1) rfl))))) (fa_c (me_s (me_l (me_r (me_l (List.mem_of_getElem? (i := 2) rfl))))) (fa_c (me_s (me_l (me_l (List.mem_of_getElem? (i := 12) rfl)))) fa_n)))) (by decide +kernel)) ggX12_foretold_X12_unitsOf
theorem dX12_foretold_94 : decode cX12_foretold 94 = .ok (.invokevirtual 446, 3) := z_dd_182 (by decide +kernel)
theorem dX12_foretold_97 : decode cX12_foretold 97 = .ok (.i2l, 1) := z_dd_133 (by decide +kernel)
theorem dX12_foretold_98 : decode cX12_foretold 98 = .ok (.aload_n 0, 1) := z_dd_42 (by decide +kernel)
theorem dX12_foretold_99 : decode cX12_foretold 99 = .ok (.iload 6, 2) := z_dd_21 (by decide +kernel)
theorem dX12_foretold_101 : decode cX12_foretold 101 = .ok (.aload_n 0, 1) := z_dd_42 (by decide +kernel)
theorem dX12_foretold_102 : decode cX12_foretold 102 = .ok (.getfield 232, 3) := z_dd_180 (by decide +kernel)
theorem dX12_foretold_105 : decode cX12_foretold 105 = .ok (.iconst 3, 1) := z_dd_6 (by decide +kernel)
set_option maxRecDepth 20000 in
theorem ggX12_foretold_X12_number : GoodIn wsX12_foretold wsX12_number := goodIn_sub (fa_c (me_s (me_l (me_r (me_r (me_r (List.mem_of_getElem? (i := 2) rfl)))))) (fa_a (fa_c (me_s (me_l (me_r (me_l (List.mem_of_getElem? (i := 4) rfl))))) (fa_c (me_s (me_l (me_r (me_l (List.mem_of_getElem? (i := 5) rfl))))) (fa_c (me_s (me_l (me_r (me_l (List.mem_of_getElem? (i := 6) rfl))))) (fa_c (me_s (me_l (me_r (me_r (me_r (List.mem_of_getElem? (i := 3) rfl)))))) (fa_c (me_s (me_l (me_r (me_l (List.mem_of_getElem? (i := 14) rfl))))) (fa_c (me_s (me_l (me_r (me_l (List.mem_of_getElem? (i := 15) rfl))))) (fa_c (me_s (me_l (me_r (me_l (List.mem_of_getElem? (i := 16) rfl))))) (fa_c (me_s (me_l (me_l (List.mem_of_getElem? (i := 12) rfl)))) (fa_c (me_s (me_l (me_r (me_l (List.mem_of_getElem? (i := 17) rfl))))) (fa_c (me_s (me_l (me_r (me_l (List.mem_of_getElem? (i := 18) rfl))))) (fa_c (me_s (me_l (me_r (me_l (List.mem_of_getElem? (i := 19) rfl))))) (fa_c (me_s (me_l (me_r (me_l (List.mem_of_getElem? (i := 20) rfl))))) fa_n)))))))))))) (fun w h => (me_s (me_r h))))) (by decide +kernel)
set_option maxRecDepth 20000 in
theorem gX12_foretold_X12_number : GoodIn wsX12_foretold (wsV RX12 420 RX12 yX12_number wsX12_number) := goodIn_app (goodIn_sub (fa_c (me_s (me_l (me_r (me_r (me_l (List.mem_of_getElem? (i := 23) rfl)))))) (fa_c (me_s (me_l (me_r (me_r (me_r (List.mem_of_getElem? (i := 0) rfl)))))) (fa_c (me_s (me_l (me_r (me_r (me_r (List.mem_of_getElem? (i := 1) rfl)))))) (fa_c (me_s (me_l (me_l (List.mem_of_getElem? (i := 12) rfl)))) fa_n)))) (by decide +kernel)) ggX12_foretold_X12_number
theorem dX12_foretold_106 : decode cX12_foretold 106 = .ok (.invokevirtual 420, 3) := z_dd_182 (by decide +kernel)
theorem dX12_foretold_109 : decode cX12_foretold 109 = .ok (.i2l, 1) := z_dd_133 (by decide +kernel)
theorem dX12_foretold_110 : decode cX12_foretold 110 = .ok (.lmul, 1) := z_dd_105 (by decide +kernel)
theorem dX12_foretold_111 : decode cX12_foretold 111 = .ok (.ladd, 1) := z_dd_97 (by decide +kernel)
theorem dX12_foretold_112 : decode cX12_foretold 112 = .ok (.lstore 4, 2) := z_dd_55 (by decide +kernel)
theorem dX12_foretold_114 : decode cX12_foretold 114 = .ok (.iinc 7 1, 3) := z_dd_132 (by decide +kernel)
theorem dX12_foretold_117 : decode cX12_foretold 117 = .ok (.goto (-68), 3) := z_dd_167 (by decide +kernel)
theorem dX12_foretold_62 : decode cX12_foretold 62 = .ok (.aload_n 0, 1) := z_dd_42 (by decide +kernel)
theorem dX12_foretold_63 : decode cX12_foretold 63 = .ok (.iload 7, 2) := z_dd_21 (by decide +kernel)
theorem dX12_foretold_65 : decode cX12_foretold 65 = .ok (.bipush 30, 2) := z_dd_16 (by decide +kernel)
theorem dX12_foretold_67 : decode cX12_foretold 67 = .ok (.iload 6, 2) := z_dd_21 (by decide +kernel)
theorem dX12_foretold_69 : decode cX12_foretold 69 = .ok (.imul, 1) := z_dd_104 (by decide +kernel)
theorem dX12_foretold_70 : decode cX12_foretold 70 = .ok (.aload_n 0, 1) := z_dd_42 (by decide +kernel)
theorem dX12_foretold_71 : decode cX12_foretold 71 = .ok (.getfield 232, 3) := z_dd_180 (by decide +kernel)
set_option maxRecDepth 20000 in
theorem ggX12_foretold_X12_kindOn : GoodIn wsX12_foretold wsX12_kindOn := goodIn_sub (fa_c (me_s (me_l (me_l (List.mem_of_getElem? (i := 17) rfl)))) (fa_a (fa_c (me_s (me_l (me_l (List.mem_of_getElem? (i := 18) rfl)))) (fa_c (me_s (me_l (me_l (List.mem_of_getElem? (i := 19) rfl)))) (fa_c (me_s (me_l (me_l (List.mem_of_getElem? (i := 20) rfl)))) (fa_c (me_s (me_l (me_l (List.mem_of_getElem? (i := 21) rfl)))) (fa_c (me_s (me_l (me_l (List.mem_of_getElem? (i := 22) rfl)))) (fa_c (me_s (me_l (me_l (List.mem_of_getElem? (i := 23) rfl)))) fa_n)))))) (fun w h => (me_s (me_r h))))) (by decide +kernel)
set_option maxRecDepth 20000 in
theorem gX12_foretold_X12_kindOn : GoodIn wsX12_foretold (wsV RX12 249 RX12 yX12_kindOn wsX12_kindOn) := goodIn_app (goodIn_sub (fa_c (me_s (me_l (me_l (List.mem_of_getElem? (i := 14) rfl)))) (fa_c (me_s (me_l (me_l (List.mem_of_getElem? (i := 15) rfl)))) (fa_c (me_s (me_l (me_l (List.mem_of_getElem? (i := 16) rfl)))) (fa_c (me_s (me_l (me_l (List.mem_of_getElem? (i := 12) rfl)))) fa_n)))) (by decide +kernel)) ggX12_foretold_X12_kindOn
theorem dX12_foretold_74 : decode cX12_foretold 74 = .ok (.invokevirtual 249, 3) := z_dd_182 (by decide +kernel)
theorem dX12_foretold_77 : decode cX12_foretold 77 = .ok (.ifCond .ne 6, 3) := z_dd_154 (by decide +kernel)
theorem dX12_foretold_80 : decode cX12_foretold 80 = .ok (.goto 34, 3) := z_dd_167 (by decide +kernel)
theorem dX12_foretold_28 : decode cX12_foretold 28 = .ok (.ldc_w 482, 3) := z_dd_19 (by decide +kernel)
theorem dX12_foretold_31 : decode cX12_foretold 31 = .ok (.ireturn, 1) := z_dd_172 (by decide +kernel)
theorem z_wr_c {L : z_L} {c k : Nat} (hL : L.all (fun e => e.1 != c && e.1 != 1000) = true) : z_wr L c k = false := by
  cases hq : z_wr L c k with
  | false => rfl
  | true =>
    exfalso
    unfold z_wr at hq
    rw [List.any_eq_true] at hq
    obtain ⟨e, he, h2⟩ := hq
    rw [List.all_eq_true] at hL
    have h3 := hL e he
    simp only [z_ce, Bool.and_eq_true, Bool.or_eq_true, beq_iff_eq, decide_eq_true_eq, bne_iff_ne, ne_eq] at h2 h3
    omega
/-- the nodes: whose parts may be looked up -/
noncomputable def z_Nd (I : z_I) : Prop := ∀ n, ((I 21 n).toInt ≤ 1 ∨ (0 ≤ (I 22 n).toInt ∧ (I 22 n).toInt ≤ 6199)) ∧ (¬ (I 21 n).toInt = 1 ∨ (0 ≤ (I 22 n).toInt ∧ (I 22 n).toInt ≤ 6)) ∧ ((I 21 n).toInt ≤ 1 ∨ (I 21 n).toInt = 11 ∨ (0 ≤ (I 23 n).toInt ∧ (I 23 n).toInt ≤ 6199))
theorem z_Nd_n {a j : Nat} {I K : z_I} {v : Int32} (h : z_Nd I) (ha : 21 ≠ a ∧ 22 ≠ a ∧ 23 ≠ a) (e : K = z_up I a j v) : z_Nd K := fun n => by
  rw [e, z_up_n ha.1, z_up_n ha.2.1, z_up_n ha.2.2]
  exact h n
theorem z_Nd_fr {L : z_L} {I K : z_I} (h : z_Nd I) (hf : z_fr L K I) (hL : (L.all (fun e => e.1 != 21 && e.1 != 1000) && L.all (fun e => e.1 != 22 && e.1 != 1000) && L.all (fun e => e.1 != 23 && e.1 != 1000)) = true) : z_Nd K := fun n => by
  simp only [Bool.and_eq_true] at hL
  rw [hf 21 n (z_wr_c hL.1.1), hf 22 n (z_wr_c hL.1.2), hf 23 n (z_wr_c hL.2)]
  exact h n
/-- what statements of the words 0 and 1 reckon -/
noncomputable def z_Ex (I : z_I) : Prop := ∀ n, (I 15 n).toInt < 0 ∨ 1 < (I 15 n).toInt ∨ (0 ≤ (I 17 n).toInt ∧ (I 17 n).toInt ≤ 6199)
theorem z_Ex_n {a j : Nat} {I K : z_I} {v : Int32} (h : z_Ex I) (ha : 15 ≠ a ∧ 17 ≠ a) (e : K = z_up I a j v) : z_Ex K := fun n => by
  rw [e, z_up_n ha.1, z_up_n ha.2]
  exact h n
theorem z_Ex_fr {L : z_L} {I K : z_I} (h : z_Ex I) (hf : z_fr L K I) (hL : (L.all (fun e => e.1 != 15 && e.1 != 1000) && L.all (fun e => e.1 != 17 && e.1 != 1000)) = true) : z_Ex K := fun n => by
  simp only [Bool.and_eq_true] at hL
  rw [hf 15 n (z_wr_c hL.1), hf 17 n (z_wr_c hL.2)]
  exact h n
theorem z_cmp0 {z : Int32} {x : Int64} (e : z = lg_cmp x 0) (h : x = 0) : z.toInt = 0 := by
  rw [e, h]
  decide
theorem z_tbits {x y z : Int32} (e : z = x &&& y) (ey : y = x - 1) (h : 0 < x.toInt) : 0 ≤ z.toInt ∧ z.toInt < x.toInt := by
  have hx := Int32.toInt_lt x
  have ty : y.toInt = x.toInt - 1 := z_tsub (m := 1) ey rfl (by decide) (by omega) (by omega)
  have h1 : ∀ a : Int32, 0 ≤ a.toInt → (a.toBitVec.toNat : Int) = a.toInt := fun a ha => by
    have : a.toInt = a.toBitVec.toInt := rfl
    rw [this] at ha ⊢
    rw [BitVec.toInt_eq_toNat_cond] at ha ⊢
    split
    · rfl
    · rename_i q
      rw [if_neg q] at ha
      have := a.toBitVec.isLt
      omega
  have hz : z.toBitVec.toNat = x.toBitVec.toNat &&& y.toBitVec.toNat := by
    rw [e]
    rfl
  have h2 : z.toBitVec.toNat ≤ y.toBitVec.toNat := by
    rw [hz]
    exact Nat.and_le_right
  have h3 := h1 x (by omega)
  have h4 := h1 y (by omega)
  have h5 : z.toInt = (z.toBitVec.toNat : Int) := by
    have : z.toInt = z.toBitVec.toInt := rfl
    rw [this, BitVec.toInt_eq_toNat_cond]
    split
    · rfl
    · omega
  omega
set_option maxHeartbeats 8000000 in
set_option maxRecDepth 100000 in
theorem sx_X12_bits (l : Launch) (G : z_G) (ad : Nat → Nat) (I : z_I) (J : z_J) (a1 : Int32) (q1 : 0 ≤ a1.toInt ∧ a1.toInt ≤ 2147483647) : z_M l yX12_bits wsX12_bits { frames := 1, cells := 0, slots := 0, locals := 12 } [.int a1] G (shM, ad, I, J, PM ad) (fun r u1 => u1 = (shM, ad, I, J, PM ad)) 0 0 := by
  intro sz
  refine z_headQ (cc := cX12_bits) (maxL := 3) (ret := (some .int)) (by decide) rfl (Nat.le_of_ble_eq_true rfl) ?_
  intro p e s m below meth c0 ls hIn hK hsz hW hl
  obtain ⟨hx, hb, hr, hml, hown, hts, hlocks, hname⟩ := hIn
  subst hsz
  have hown : s.vm.findClass RX12 = some m.cls := hown
  have hA : ∀ q : Nat, s.heap.size ≤ q → z_A (shM, ad, I, J, PM ad) s.heap.size q := fun q h => Or.inr h
  generalize hAe : z_A (shM, ad, I, J, PM ad) s.heap.size = A at *
  have hS : va_S A s.heap s.heap [] := va_S.rf
  have hl : lv_has ls 3 [(0, .int a1)] := hl
  refine lv_iconst (v := 0) hx hb dX12_bits_0 (by decide) ?_
  refine lv_istore_n (lv' := [(1, .int 0), (0, .int a1)]) hx hb dX12_bits_1 rfl hl (by decide) rfl (fun ls hl => ?_)
  refine lv_iload_n hx hb dX12_bits_2 rfl (lv_at hl 1 rfl) ?_
  refine lv_istore_n (lv' := [(2, .int a1), (1, .int 0), (0, .int a1)]) hx hb dX12_bits_3 rfl hl (by decide) rfl (fun ls hl => ?_)
  have lp1 : ∀ (f : Nat) (y2 : Int32) (y3 : Int32) (H : Heap) (locs : List Loc) (ls : Array Slot), (y2.toInt + 2147483648 < (f : Int)) → (0 ≤ y2.toInt) → (y2.toInt ≤ a1.toInt) → z_W G A (shM, ad, I, J, PM ad) H → va_S A s.heap H locs → lv_has ls 3 [(2, .int y2), (1, .int y3), (0, .int a1)] → W p l e (headSpec wsX12_bits { frames := 1, cells := 0, slots := 0, locals := 12 }).room s m ([.int a1] : List Value).toArray below meth c0 H locs 0 0 (MQ below (va_Qi (fun (r : Int32) (u1 : z_U) => u1 = (shM, ad, I, J, PM ad)) (z_B G A) A) ([.int a1] : List Value).toArray s 0 0 A) (F0 m 4 ls []) := by
    intro f
    induction f with
    | zero => intro y2 y3 H locs ls lp1m lp1l2 lp1z hW hS hl; exact absurd lp1m (by have := Int32.toInt_lt y2; have := Int32.le_toInt y2; omega)
    | succ f lp1ih =>
      intro y2 y3 H locs ls lp1m lp1l2 lp1z hW hS hl
      refine lv_iload_n hx hb dX12_bits_4 rfl (lv_at hl 0 rfl) ?_
      refine lv_if_eq (tgt := 20) hx hb dX12_bits_5 (by decide) (fun c4 => ?_) (fun c4 => ?_)
      · have g5 := z_f_eq rfl z_l0 c4
        have b6 := Int32.toInt_lt y2
        refine lv_iload_n hx hb dX12_bits_20 rfl (lv_at hl 1 rfl) ?_
        exact z_iret hx hb hr hK hS (Nat.le_of_ble_eq_true rfl) (Nat.le_of_ble_eq_true rfl) hlocks dX12_bits_21 (shM, ad, I, J, PM ad) hW rfl
      · have g7 := z_f_ne rfl z_l0 c4
        have b8 := Int32.toInt_lt y2
        obtain ⟨x9, ex9⟩ : ∃ y : Int32, y = y3 + 1 := ⟨_, rfl⟩
        refine lv_iinc (v := x9) (lv' := [(1, .int x9), (2, .int y2), (0, .int a1)]) hx hb dX12_bits_8 hl (k := 1) rfl (by rw [ex9]; rfl) (by decide) rfl (fun ls hl => ?_)
        refine lv_iload_n hx hb dX12_bits_11 rfl (lv_at hl 1 rfl) ?_
        refine lv_iload_n hx hb dX12_bits_12 rfl (lv_at hl 1 rfl) ?_
        refine lv_iconst (v := 1) hx hb dX12_bits_13 (by decide) ?_
        refine lv_isub hx hb dX12_bits_14 ?_
        refine lv_topi (fun x10 ex10 => ?_)
        have tx10 : x10.toInt = y2.toInt - 1 := z_tsub ex10 rfl z_l1 (by have := Int32.le_toInt y2; have := Int32.toInt_lt y2; omega) (by have := Int32.le_toInt y2; have := Int32.toInt_lt y2; omega)
        refine lv_iand hx hb dX12_bits_15 ?_
        refine lv_topi (fun x11 ex11 => ?_)
        have tx11 := z_tbits ex11 ex10 (by omega)
        refine lv_istore_n (lv' := [(2, .int x11), (1, .int x9), (0, .int a1)]) hx hb dX12_bits_16 rfl hl (by decide) rfl (fun ls hl => ?_)
        refine lv_goto (tgt := 4) hx hb dX12_bits_17 (by decide) ?_
        exact lp1ih x11 x9 _ _ _ (by omega) (by omega) (by omega) hW hS (lv_sub hl [0, 1, 2] rfl)
  exact lp1 4294967296 a1 (0) _ _ _ (z_m0d _) (by omega) (by omega) hW hS (lv_sub hl [0, 1, 2] rfl)
noncomputable def L_X12_pool : z_L := [(68, 999)]
theorem zj_X12_pool_X12 : ∀ w ∈ wsX120, w ∈ wsX12_pool := fun w h => (List.mem_cons_of_mem _ (List.mem_append_right _ h))
set_option maxHeartbeats 8000000 in
set_option maxRecDepth 100000 in
theorem sx_X12_pool (l : Launch) (G : z_G) (ad : Nat → Nat) (I : z_I) (J : z_J) (hma : z_ima I) (hmj : z_imj I) (hApl : z_rg 68 0 59 I) (hAjw : z_rg 59 0 29 I) (a1 : Int32) (a2 : Int32) (a3 : Int32) : z_M l yX12_pool wsX12_pool { frames := 2, cells := 0, slots := 0, locals := 34 } [.ref (ad 0), .int a1, .int a2, .int a3] G (shM, ad, I, J, PM ad) (fun r u1 => ∃ (I1 : z_I) (J1 : z_J), u1 = (shM, ad, I1, J1, PM ad) ∧ z_ima I1 ∧ z_imj I1 ∧ z_rg 68 0 59 I1 ∧ z_rg 59 0 29 I1 ∧ z_fr L_X12_pool I1 I) 0 0 := by
  intro sz
  refine z_headQ (cc := cX12_pool) (maxL := 12) (ret := (some .int)) (by decide) rfl (Nat.le_of_ble_eq_true rfl) ?_
  intro p e s m below meth c0 ls hIn hK hsz hW hl
  obtain ⟨hx, hb, hr, hml, hown, hts, hlocks, hname⟩ := hIn
  subst hsz
  have hown : s.vm.findClass RX12 = some m.cls := hown
  have hA : ∀ q : Nat, s.heap.size ≤ q → z_A (shM, ad, I, J, PM ad) s.heap.size q := fun q h => Or.inr h
  generalize hAe : z_A (shM, ad, I, J, PM ad) s.heap.size = A at *
  have hS : va_S A s.heap s.heap [] := va_S.rf
  have hl : lv_has ls 12 [(0, .ref (ad 0)), (1, .int a1), (2, .int a2), (3, .int a3)] := hl
  refine lv_iload_n hx hb dX12_pool_0 rfl (lv_at hl 3 rfl) ?_
  refine lv_iconst (v := 0) hx hb dX12_pool_1 (by decide) ?_
  refine lv_iconst (v := 3) hx hb dX12_pool_2 (by decide) ?_
  refine z_ci hW hS hA (va_runS (As := [.int a3, .int 0, .int 3]) (rest := []) ⟨hx, hb, hml, hown, hts⟩ (sx_X12_within l G ad I J  a3 0 3 _) (va_cwS 3 hts gX12_pool_X12_within rfl rfl rfl hy_X12_within.2 ⟨Nat.le_of_ble_eq_true rfl, Nat.le_of_ble_eq_true rfl⟩) (z_preS hK hW) rfl rfl hl.1 rfl (lv_room (Nat.le_of_ble_eq_true rfl)) dX12_pool_3 ⟨Nat.le_of_ble_eq_true rfl, Nat.le_of_ble_eq_true rfl⟩) (fun r u1 H locs hp hW hS => ?_)
  obtain ⟨e9, hp⟩ := hp
  rw [e9] at hW
  rcases hp with ⟨rfl, h1, h2⟩ | rfl
  · have h1 := z_t_le z_l0 rfl h1
    have h2 := z_t_le rfl z_l3 h2
    refine lv_if_ne (tgt := 11) hx hb dX12_pool_6 (by decide) (fun c3 => ?_) (fun c3 => absurd c3 (by decide))
    refine lv_iconst (v := 0) hx hb dX12_pool_11 (by decide) ?_
    refine lv_istore (lv' := [(4, .int 0), (0, .ref (ad 0)), (1, .int a1), (2, .int a2), (3, .int a3)]) hx hb dX12_pool_12 hl (by decide) rfl (fun ls hl => ?_)
    refine lv_iconst (v := 0) hx hb dX12_pool_14 (by decide) ?_
    refine lv_istore (lv' := [(5, .int 0), (4, .int 0), (0, .ref (ad 0)), (1, .int a1), (2, .int a2), (3, .int a3)]) hx hb dX12_pool_15 hl (by decide) rfl (fun ls hl => ?_)
    refine lv_iconst (v := 0) hx hb dX12_pool_17 (by decide) ?_
    refine lv_istore (lv' := [(6, .int 0), (5, .int 0), (4, .int 0), (0, .ref (ad 0)), (1, .int a1), (2, .int a2), (3, .int a3)]) hx hb dX12_pool_18 hl (by decide) rfl (fun ls hl => ?_)
    have lp4 : ∀ (f : Nat) (y5 : Int32) (y6 : Int32) (y7 : Int32) (I8 : z_I) (J9 : z_J) (H : Heap) (locs : List Loc) (ls : Array Slot), (2147483647 < y5.toInt + (f : Int)) → (0 ≤ y5.toInt) → (0 ≤ y7.toInt) → (y7.toInt ≤ 12) → (z_ima I8) → (z_imj I8) → (z_rg 68 0 59 I8) → (z_rg 59 0 29 I8) → (z_fr L_X12_pool I8 I) → z_W G A (shM, ad, I8, J9, PM ad) H → va_S A s.heap H locs → lv_has ls 12 [(6, .int y5), (5, .int y6), (4, .int y7), (0, .ref (ad 0)), (1, .int a1), (2, .int a2), (3, .int a3)] → W p l e (headSpec wsX12_pool { frames := 2, cells := 0, slots := 0, locals := 34 }).room s m ([.ref (ad 0), .int a1, .int a2, .int a3] : List Value).toArray below meth c0 H locs 0 0 (MQ below (va_Qi (fun (r : Int32) (u1 : z_U) => ∃ (I1 : z_I) (J1 : z_J), u1 = (shM, ad, I1, J1, PM ad) ∧ z_ima I1 ∧ z_imj I1 ∧ z_rg 68 0 59 I1 ∧ z_rg 59 0 29 I1 ∧ z_fr L_X12_pool I1 I) (z_B G A) A) ([.ref (ad 0), .int a1, .int a2, .int a3] : List Value).toArray s 0 0 A) (F0 m 20 ls []) := by
      intro f
      induction f with
      | zero => intro y5 y6 y7 I8 J9 H locs ls lp4m lp4l6 lp4l4 lp4u4 lp4ma lp4mj lp4Apl lp4Ajw lp4fr hW hS hl; exact absurd lp4m (by have := Int32.toInt_lt y5; have := Int32.le_toInt y5; omega)
      | succ f lp4ih =>
        intro y5 y6 y7 I8 J9 H locs ls lp4m lp4l6 lp4l4 lp4u4 lp4ma lp4mj lp4Apl lp4Ajw lp4fr hW hS hl
        refine lv_iload hx hb dX12_pool_20 (lv_at hl 0 rfl) ?_
        refine lv_aload_n hx hb dX12_pool_22 rfl (lv_at hl 3 rfl) ?_
        have r10 : 0 ≤ (I8 0 83).toInt ∧ (I8 0 83).toInt ≤ 60 := lp4mj
        refine z_get (T := TX12) (N := 96) (ci := 12) (i := 0) (v := .int (I8 0 83)) hx hb hts zj_X12_pool_X12 hown hK hW rfl rfl 83 (by decide) (hts (.fieldLink RX12 505 "PetrolBoardModel" "journeys" "I") (me_s (me_l (List.mem_of_getElem? (i := 0) rfl)))) (fun _ h => h) rfl dX12_pool_23 ?_
        refine lv_icmp_ge (tgt := 91) hx hb dX12_pool_26 (by decide) (fun c11 => ?_) (fun c11 => ?_)
        · have g12 := z_f_ge rfl rfl c11
          have b13 := Int32.toInt_lt y5
          refine lv_iload hx hb dX12_pool_91 (lv_at hl 2 rfl) ?_
          refine lv_if_ne (tgt := 98) hx hb dX12_pool_93 (by decide) (fun c14 => ?_) (fun c14 => ?_)
          · have g15 := z_f_ne rfl z_l0 c14
            refine lv_iconst (v := (-1)) hx hb dX12_pool_98 (by decide) ?_
            refine lv_istore (lv' := [(6, .int (-1)), (5, .int y6), (4, .int y7), (0, .ref (ad 0)), (1, .int a1), (2, .int a2), (3, .int a3)]) hx hb dX12_pool_99 hl (by decide) rfl (fun ls hl => ?_)
            refine lv_iconst (v := 0) hx hb dX12_pool_101 (by decide) ?_
            refine lv_istore (lv' := [(7, .int 0), (6, .int (-1)), (5, .int y6), (4, .int y7), (0, .ref (ad 0)), (1, .int a1), (2, .int a2), (3, .int a3)]) hx hb dX12_pool_102 hl (by decide) rfl (fun ls hl => ?_)
            refine lv_iconst (v := 1) hx hb dX12_pool_104 (by decide) ?_
            refine lv_istore (lv' := [(8, .int 1), (7, .int 0), (6, .int (-1)), (5, .int y6), (4, .int y7), (0, .ref (ad 0)), (1, .int a1), (2, .int a2), (3, .int a3)]) hx hb dX12_pool_105 hl (by decide) rfl (fun ls hl => ?_)
            have lp16 : ∀ (f : Nat) (y17 : Int32) (y18 : Int32) (y19 : Int32) (H : Heap) (locs : List Loc) (ls : Array Slot), (2147483647 < y17.toInt + (f : Int)) → (1 ≤ y17.toInt) → z_W G A (shM, ad, I8, J9, PM ad) H → va_S A s.heap H locs → lv_has ls 12 [(8, .int y17), (7, .int y18), (6, .int y19), (5, .int y6), (4, .int y7), (0, .ref (ad 0)), (1, .int a1), (2, .int a2), (3, .int a3)] → W p l e (headSpec wsX12_pool { frames := 2, cells := 0, slots := 0, locals := 34 }).room s m ([.ref (ad 0), .int a1, .int a2, .int a3] : List Value).toArray below meth c0 H locs 0 0 (MQ below (va_Qi (fun (r : Int32) (u1 : z_U) => ∃ (I1 : z_I) (J1 : z_J), u1 = (shM, ad, I1, J1, PM ad) ∧ z_ima I1 ∧ z_imj I1 ∧ z_rg 68 0 59 I1 ∧ z_rg 59 0 29 I1 ∧ z_fr L_X12_pool I1 I) (z_B G A) A) ([.ref (ad 0), .int a1, .int a2, .int a3] : List Value).toArray s 0 0 A) (F0 m 107 ls []) := by
              intro f
              induction f with
              | zero => intro y17 y18 y19 H locs ls lp16m lp16l8 hW hS hl; exact absurd lp16m (by have := Int32.toInt_lt y17; have := Int32.le_toInt y17; omega)
              | succ f lp16ih =>
                intro y17 y18 y19 H locs ls lp16m lp16l8 hW hS hl
                refine lv_iload hx hb dX12_pool_107 (lv_at hl 0 rfl) ?_
                refine lv_iconst (v := 1) hx hb dX12_pool_109 (by decide) ?_
                refine lv_iload hx hb dX12_pool_110 (lv_at hl 4 rfl) ?_
                refine lv_ishl hx hb dX12_pool_112 ?_
                refine lv_topi (fun x20 ex20 => ?_)
                refine lv_icmp_ge (tgt := 270) hx hb dX12_pool_113 (by decide) (fun c21 => ?_) (fun c21 => ?_)
                · have g22 := z_f_ge rfl rfl c21
                  have b23 := Int32.toInt_lt y17
                  have b24 := Int32.toInt_lt x20
                  refine lv_iload hx hb dX12_pool_270 (lv_at hl 2 rfl) ?_
                  refine lv_if_ge (tgt := 277) hx hb dX12_pool_272 (by decide) (fun c25 => ?_) (fun c25 => ?_)
                  · have g26 := z_f_ge rfl z_l0 c25
                    have b27 := Int32.toInt_lt y19
                    refine lv_iload_n hx hb dX12_pool_277 rfl (lv_at hl 8 rfl) ?_
                    refine lv_if_ne (tgt := 289) hx hb dX12_pool_278 (by decide) (fun c28 => ?_) (fun c28 => ?_)
                    · have g29 := z_f_ne rfl z_l0 c28
                      refine lv_iload_n hx hb dX12_pool_289 rfl (lv_at hl 8 rfl) ?_
                      refine lv_iconst (v := 1) hx hb dX12_pool_290 (by decide) ?_
                      refine lv_icmp_ne (tgt := 299) hx hb dX12_pool_291 (by decide) (fun c30 => ?_) (fun c30 => ?_)
                      · have g31 := z_f_ne rfl z_l1 c30
                        refine lv_iload_n hx hb dX12_pool_299 rfl (lv_at hl 8 rfl) ?_
                        refine lv_iconst (v := 2) hx hb dX12_pool_300 (by decide) ?_
                        refine lv_icmp_ne (tgt := 309) hx hb dX12_pool_301 (by decide) (fun c32 => ?_) (fun c32 => ?_)
                        · have g33 := z_f_ne rfl z_l2 c32
                          refine lv_iload hx hb dX12_pool_309 (lv_at hl 3 rfl) ?_
                          exact z_iret hx hb hr hK hS (Nat.le_of_ble_eq_true rfl) (Nat.le_of_ble_eq_true rfl) hlocks dX12_pool_311 (shM, ad, I8, J9, PM ad) hW ⟨I8, J9, rfl, ⟨(by show 0 ≤ (I8 0 0).toInt ∧ (I8 0 0).toInt ≤ 719; exact lp4ma.1), (by show 0 ≤ (I8 0 1).toInt ∧ (I8 0 1).toInt ≤ 30; exact lp4ma.2.1), (by show 0 ≤ (I8 0 2).toInt ∧ (I8 0 2).toInt ≤ 200; exact lp4ma.2.2)⟩, (by show 0 ≤ (I8 0 83).toInt ∧ (I8 0 83).toInt ≤ 60; exact lp4mj), lp4Apl, lp4Ajw, lp4fr⟩
                        · have g34 := z_f_eq rfl z_l2 c32
                          refine lv_iload hx hb dX12_pool_304 (lv_at hl 2 rfl) ?_
                          refine lv_goto (tgt := 311) hx hb dX12_pool_306 (by decide) ?_
                          exact z_iret hx hb hr hK hS (Nat.le_of_ble_eq_true rfl) (Nat.le_of_ble_eq_true rfl) hlocks dX12_pool_311 (shM, ad, I8, J9, PM ad) hW ⟨I8, J9, rfl, ⟨(by show 0 ≤ (I8 0 0).toInt ∧ (I8 0 0).toInt ≤ 719; exact lp4ma.1), (by show 0 ≤ (I8 0 1).toInt ∧ (I8 0 1).toInt ≤ 30; exact lp4ma.2.1), (by show 0 ≤ (I8 0 2).toInt ∧ (I8 0 2).toInt ≤ 200; exact lp4ma.2.2)⟩, (by show 0 ≤ (I8 0 83).toInt ∧ (I8 0 83).toInt ≤ 60; exact lp4mj), lp4Apl, lp4Ajw, lp4fr⟩
                      · have g35 := z_f_eq rfl z_l1 c30
                        refine lv_iload hx hb dX12_pool_294 (lv_at hl 1 rfl) ?_
                        refine lv_goto (tgt := 311) hx hb dX12_pool_296 (by decide) ?_
                        exact z_iret hx hb hr hK hS (Nat.le_of_ble_eq_true rfl) (Nat.le_of_ble_eq_true rfl) hlocks dX12_pool_311 (shM, ad, I8, J9, PM ad) hW ⟨I8, J9, rfl, ⟨(by show 0 ≤ (I8 0 0).toInt ∧ (I8 0 0).toInt ≤ 719; exact lp4ma.1), (by show 0 ≤ (I8 0 1).toInt ∧ (I8 0 1).toInt ≤ 30; exact lp4ma.2.1), (by show 0 ≤ (I8 0 2).toInt ∧ (I8 0 2).toInt ≤ 200; exact lp4ma.2.2)⟩, (by show 0 ≤ (I8 0 83).toInt ∧ (I8 0 83).toInt ≤ 60; exact lp4mj), lp4Apl, lp4Ajw, lp4fr⟩
                    · have g36 := z_f_eq rfl z_l0 c28
                      refine lv_iload hx hb dX12_pool_281 (lv_at hl 2 rfl) ?_
                      refine z_ci hW hS hA (va_runS (As := [.int y19]) (rest := []) ⟨hx, hb, hml, hown, hts⟩ (sx_X12_bits l G ad I8 J9  y19 (by first | omega | decide) _) (va_cwS 1 hts gX12_pool_X12_bits rfl rfl rfl hy_X12_bits.2 ⟨Nat.le_of_ble_eq_true rfl, Nat.le_of_ble_eq_true rfl⟩) (z_preS hK hW) rfl rfl hl.1 rfl (lv_room (Nat.le_of_ble_eq_true rfl)) dX12_pool_283 ⟨Nat.le_of_ble_eq_true rfl, Nat.le_of_ble_eq_true rfl⟩) (fun r u1 H locs hp hW hS => ?_)
                      rw [hp] at hW
                      refine lv_topi (fun x37 ex37 => ?_)
                      refine lv_goto (tgt := 311) hx hb dX12_pool_286 (by decide) ?_
                      exact z_iret hx hb hr hK hS (Nat.le_of_ble_eq_true rfl) (Nat.le_of_ble_eq_true rfl) hlocks dX12_pool_311 (shM, ad, I8, J9, PM ad) hW ⟨I8, J9, rfl, ⟨(by show 0 ≤ (I8 0 0).toInt ∧ (I8 0 0).toInt ≤ 719; exact lp4ma.1), (by show 0 ≤ (I8 0 1).toInt ∧ (I8 0 1).toInt ≤ 30; exact lp4ma.2.1), (by show 0 ≤ (I8 0 2).toInt ∧ (I8 0 2).toInt ≤ 200; exact lp4ma.2.2)⟩, (by show 0 ≤ (I8 0 83).toInt ∧ (I8 0 83).toInt ≤ 60; exact lp4mj), lp4Apl, lp4Ajw, lp4fr⟩
                  · have g38 := z_f_nge rfl z_l0 c25
                    have b39 := Int32.toInt_lt y19
                    refine lv_iconst (v := (-1)) hx hb dX12_pool_275 (by decide) ?_
                    exact z_iret hx hb hr hK hS (Nat.le_of_ble_eq_true rfl) (Nat.le_of_ble_eq_true rfl) hlocks dX12_pool_276 (shM, ad, I8, J9, PM ad) hW ⟨I8, J9, rfl, ⟨(by show 0 ≤ (I8 0 0).toInt ∧ (I8 0 0).toInt ≤ 719; exact lp4ma.1), (by show 0 ≤ (I8 0 1).toInt ∧ (I8 0 1).toInt ≤ 30; exact lp4ma.2.1), (by show 0 ≤ (I8 0 2).toInt ∧ (I8 0 2).toInt ≤ 200; exact lp4ma.2.2)⟩, (by show 0 ≤ (I8 0 83).toInt ∧ (I8 0 83).toInt ≤ 60; exact lp4mj), lp4Apl, lp4Ajw, lp4fr⟩
                · have g40 := z_f_nge rfl rfl c21
                  have b41 := Int32.toInt_lt y17
                  have b42 := Int32.toInt_lt x20
                  refine lv_iconst (v := 0) hx hb dX12_pool_116 (by decide) ?_
                  refine lv_istore (lv' := [(9, .int 0), (8, .int y17), (7, .int y18), (6, .int y19), (5, .int y6), (4, .int y7), (0, .ref (ad 0)), (1, .int a1), (2, .int a2), (3, .int a3)]) hx hb dX12_pool_117 hl (by decide) rfl (fun ls hl => ?_)
                  refine lv_iconst (v := 0) hx hb dX12_pool_119 (by decide) ?_
                  refine lv_istore (lv' := [(10, .int 0), (9, .int 0), (8, .int y17), (7, .int y18), (6, .int y19), (5, .int y6), (4, .int y7), (0, .ref (ad 0)), (1, .int a1), (2, .int a2), (3, .int a3)]) hx hb dX12_pool_120 hl (by decide) rfl (fun ls hl => ?_)
                  refine lv_iconst (v := 0) hx hb dX12_pool_122 (by decide) ?_
                  refine lv_istore (lv' := [(11, .int 0), (10, .int 0), (9, .int 0), (8, .int y17), (7, .int y18), (6, .int y19), (5, .int y6), (4, .int y7), (0, .ref (ad 0)), (1, .int a1), (2, .int a2), (3, .int a3)]) hx hb dX12_pool_123 hl (by decide) rfl (fun ls hl => ?_)
                  have lp43 : ∀ (f : Nat) (y44 : Int32) (y45 : Int32) (y46 : Int32) (H : Heap) (locs : List Loc) (ls : Array Slot), (2147483647 < y44.toInt + (f : Int)) → (0 ≤ y44.toInt) → z_W G A (shM, ad, I8, J9, PM ad) H → va_S A s.heap H locs → lv_has ls 12 [(11, .int y44), (10, .int y45), (9, .int y46), (8, .int y17), (7, .int y18), (6, .int y19), (5, .int y6), (4, .int y7), (0, .ref (ad 0)), (1, .int a1), (2, .int a2), (3, .int a3)] → W p l e (headSpec wsX12_pool { frames := 2, cells := 0, slots := 0, locals := 34 }).room s m ([.ref (ad 0), .int a1, .int a2, .int a3] : List Value).toArray below meth c0 H locs 0 0 (MQ below (va_Qi (fun (r : Int32) (u1 : z_U) => ∃ (I1 : z_I) (J1 : z_J), u1 = (shM, ad, I1, J1, PM ad) ∧ z_ima I1 ∧ z_imj I1 ∧ z_rg 68 0 59 I1 ∧ z_rg 59 0 29 I1 ∧ z_fr L_X12_pool I1 I) (z_B G A) A) ([.ref (ad 0), .int a1, .int a2, .int a3] : List Value).toArray s 0 0 A) (F0 m 125 ls []) := by
                    intro f
                    induction f with
                    | zero => intro y44 y45 y46 H locs ls lp43m lp43l11 hW hS hl; exact absurd lp43m (by have := Int32.toInt_lt y44; have := Int32.le_toInt y44; omega)
                    | succ f lp43ih =>
                      intro y44 y45 y46 H locs ls lp43m lp43l11 hW hS hl
                      refine lv_iload hx hb dX12_pool_125 (lv_at hl 0 rfl) ?_
                      refine lv_iload hx hb dX12_pool_127 (lv_at hl 7 rfl) ?_
                      refine lv_icmp_ge (tgt := 208) hx hb dX12_pool_129 (by decide) (fun c47 => ?_) (fun c47 => ?_)
                      · have g48 := z_f_ge rfl rfl c47
                        have b49 := Int32.toInt_lt y44
                        refine lv_iload hx hb dX12_pool_208 (lv_at hl 2 rfl) ?_
                        refine lv_iload hx hb dX12_pool_210 (lv_at hl 6 rfl) ?_
                        refine lv_icmp_lt (tgt := 264) hx hb dX12_pool_212 (by decide) (fun c50 => ?_) (fun c50 => ?_)
                        · have g51 := z_f_lt rfl rfl c50
                          have b52 := Int32.toInt_lt y46
                          have b53 := Int32.toInt_lt y6
                          obtain ⟨x54, ex54⟩ : ∃ y : Int32, y = y17 + 1 := ⟨_, rfl⟩
                          have tx54 : x54.toInt = y17.toInt + 1 := z_tadd ex54 rfl z_l1 (by omega) (by omega)
                          refine lv_iinc (v := x54) (lv' := [(8, .int x54), (11, .int y44), (10, .int y45), (9, .int y46), (7, .int y18), (6, .int y19), (5, .int y6), (4, .int y7), (0, .ref (ad 0)), (1, .int a1), (2, .int a2), (3, .int a3)]) hx hb dX12_pool_264 hl (k := 3) rfl (by rw [ex54]; rfl) (by decide) rfl (fun ls hl => ?_)
                          refine lv_goto (tgt := 107) hx hb dX12_pool_267 (by decide) ?_
                          exact lp16ih x54 y18 y19 _ _ _ (by omega) (by omega) hW hS (lv_sub hl [0, 4, 5, 6, 7, 8, 9, 10, 11] rfl)
                        · have g55 := z_f_nlt rfl rfl c50
                          have b56 := Int32.toInt_lt y46
                          have b57 := Int32.toInt_lt y6
                          refine lv_iload hx hb dX12_pool_215 (lv_at hl 5 rfl) ?_
                          refine lv_if_lt (tgt := 256) hx hb dX12_pool_217 (by decide) (fun c58 => ?_) (fun c58 => ?_)
                          · have g59 := z_f_lt rfl z_l0 c58
                            have b60 := Int32.toInt_lt y19
                            refine lv_iload hx hb dX12_pool_256 (lv_at hl 3 rfl) ?_
                            refine lv_istore (lv' := [(6, .int y17), (11, .int y44), (10, .int y45), (9, .int y46), (8, .int y17), (7, .int y18), (5, .int y6), (4, .int y7), (0, .ref (ad 0)), (1, .int a1), (2, .int a2), (3, .int a3)]) hx hb dX12_pool_258 hl (by decide) rfl (fun ls hl => ?_)
                            refine lv_iload hx hb dX12_pool_260 (lv_at hl 2 rfl) ?_
                            refine lv_istore (lv' := [(7, .int y45), (6, .int y17), (11, .int y44), (10, .int y45), (9, .int y46), (8, .int y17), (5, .int y6), (4, .int y7), (0, .ref (ad 0)), (1, .int a1), (2, .int a2), (3, .int a3)]) hx hb dX12_pool_262 hl (by decide) rfl (fun ls hl => ?_)
                            obtain ⟨x61, ex61⟩ : ∃ y : Int32, y = y17 + 1 := ⟨_, rfl⟩
                            have tx61 : x61.toInt = y17.toInt + 1 := z_tadd ex61 rfl z_l1 (by omega) (by omega)
                            refine lv_iinc (v := x61) (lv' := [(8, .int x61), (7, .int y45), (6, .int y17), (11, .int y44), (10, .int y45), (9, .int y46), (5, .int y6), (4, .int y7), (0, .ref (ad 0)), (1, .int a1), (2, .int a2), (3, .int a3)]) hx hb dX12_pool_264 hl (k := 5) rfl (by rw [ex61]; rfl) (by decide) rfl (fun ls hl => ?_)
                            refine lv_goto (tgt := 107) hx hb dX12_pool_267 (by decide) ?_
                            exact lp16ih x61 y45 y17 _ _ _ (by omega) (by omega) hW hS (lv_sub hl [0, 1, 2, 6, 7, 8, 9, 10, 11] rfl)
                          · have g62 := z_f_nlt rfl z_l0 c58
                            have b63 := Int32.toInt_lt y19
                            refine lv_iload hx hb dX12_pool_220 (lv_at hl 3 rfl) ?_
                            refine z_ci hW hS hA (va_runS (As := [.int y17]) (rest := []) ⟨hx, hb, hml, hown, hts⟩ (sx_X12_bits l G ad I8 J9  y17 (by first | omega | decide) _) (va_cwS 1 hts gX12_pool_X12_bits rfl rfl rfl hy_X12_bits.2 ⟨Nat.le_of_ble_eq_true rfl, Nat.le_of_ble_eq_true rfl⟩) (z_preS hK hW) rfl rfl hl.1 rfl (lv_room (Nat.le_of_ble_eq_true rfl)) dX12_pool_222 ⟨Nat.le_of_ble_eq_true rfl, Nat.le_of_ble_eq_true rfl⟩) (fun r u1 H locs hp hW hS => ?_)
                            rw [hp] at hW
                            refine lv_topi (fun x64 ex64 => ?_)
                            refine lv_iload hx hb dX12_pool_225 (lv_at hl 5 rfl) ?_
                            refine z_ci hW hS hA (va_runS (As := [.int y19]) (rest := [.int x64]) ⟨hx, hb, hml, hown, hts⟩ (sx_X12_bits l G ad I8 J9  y19 (by first | omega | decide) _) (va_cwS 1 hts gX12_pool_X12_bits rfl rfl rfl hy_X12_bits.2 ⟨Nat.le_of_ble_eq_true rfl, Nat.le_of_ble_eq_true rfl⟩) (z_preS hK hW) rfl rfl hl.1 rfl (lv_room (Nat.le_of_ble_eq_true rfl)) dX12_pool_227 ⟨Nat.le_of_ble_eq_true rfl, Nat.le_of_ble_eq_true rfl⟩) (fun r u1 H locs hp hW hS => ?_)
                            rw [hp] at hW
                            refine lv_topi (fun x65 ex65 => ?_)
                            refine lv_icmp_gt (tgt := 264) hx hb dX12_pool_230 (by decide) (fun c66 => ?_) (fun c66 => ?_)
                            · have g67 := z_f_gt rfl rfl c66
                              have b68 := Int32.toInt_lt x64
                              have b69 := Int32.toInt_lt x65
                              obtain ⟨x70, ex70⟩ : ∃ y : Int32, y = y17 + 1 := ⟨_, rfl⟩
                              have tx70 : x70.toInt = y17.toInt + 1 := z_tadd ex70 rfl z_l1 (by omega) (by omega)
                              refine lv_iinc (v := x70) (lv' := [(8, .int x70), (11, .int y44), (10, .int y45), (9, .int y46), (7, .int y18), (6, .int y19), (5, .int y6), (4, .int y7), (0, .ref (ad 0)), (1, .int a1), (2, .int a2), (3, .int a3)]) hx hb dX12_pool_264 hl (k := 3) rfl (by rw [ex70]; rfl) (by decide) rfl (fun ls hl => ?_)
                              refine lv_goto (tgt := 107) hx hb dX12_pool_267 (by decide) ?_
                              exact lp16ih x70 y18 y19 _ _ _ (by omega) (by omega) hW hS (lv_sub hl [0, 4, 5, 6, 7, 8, 9, 10, 11] rfl)
                            · have g71 := z_f_ngt rfl rfl c66
                              have b72 := Int32.toInt_lt x64
                              have b73 := Int32.toInt_lt x65
                              refine lv_iload hx hb dX12_pool_233 (lv_at hl 3 rfl) ?_
                              refine z_ci hW hS hA (va_runS (As := [.int y17]) (rest := []) ⟨hx, hb, hml, hown, hts⟩ (sx_X12_bits l G ad I8 J9  y17 (by first | omega | decide) _) (va_cwS 1 hts gX12_pool_X12_bits rfl rfl rfl hy_X12_bits.2 ⟨Nat.le_of_ble_eq_true rfl, Nat.le_of_ble_eq_true rfl⟩) (z_preS hK hW) rfl rfl hl.1 rfl (lv_room (Nat.le_of_ble_eq_true rfl)) dX12_pool_235 ⟨Nat.le_of_ble_eq_true rfl, Nat.le_of_ble_eq_true rfl⟩) (fun r u1 H locs hp hW hS => ?_)
                              rw [hp] at hW
                              refine lv_topi (fun x74 ex74 => ?_)
                              refine lv_iload hx hb dX12_pool_238 (lv_at hl 5 rfl) ?_
                              refine z_ci hW hS hA (va_runS (As := [.int y19]) (rest := [.int x74]) ⟨hx, hb, hml, hown, hts⟩ (sx_X12_bits l G ad I8 J9  y19 (by first | omega | decide) _) (va_cwS 1 hts gX12_pool_X12_bits rfl rfl rfl hy_X12_bits.2 ⟨Nat.le_of_ble_eq_true rfl, Nat.le_of_ble_eq_true rfl⟩) (z_preS hK hW) rfl rfl hl.1 rfl (lv_room (Nat.le_of_ble_eq_true rfl)) dX12_pool_240 ⟨Nat.le_of_ble_eq_true rfl, Nat.le_of_ble_eq_true rfl⟩) (fun r u1 H locs hp hW hS => ?_)
                              rw [hp] at hW
                              refine lv_topi (fun x75 ex75 => ?_)
                              refine lv_icmp_ne (tgt := 256) hx hb dX12_pool_243 (by decide) (fun c76 => ?_) (fun c76 => ?_)
                              · have g77 := z_f_ne rfl rfl c76
                                have b78 := Int32.toInt_lt x74
                                have b79 := Int32.toInt_lt x75
                                refine lv_iload hx hb dX12_pool_256 (lv_at hl 3 rfl) ?_
                                refine lv_istore (lv' := [(6, .int y17), (11, .int y44), (10, .int y45), (9, .int y46), (8, .int y17), (7, .int y18), (5, .int y6), (4, .int y7), (0, .ref (ad 0)), (1, .int a1), (2, .int a2), (3, .int a3)]) hx hb dX12_pool_258 hl (by decide) rfl (fun ls hl => ?_)
                                refine lv_iload hx hb dX12_pool_260 (lv_at hl 2 rfl) ?_
                                refine lv_istore (lv' := [(7, .int y45), (6, .int y17), (11, .int y44), (10, .int y45), (9, .int y46), (8, .int y17), (5, .int y6), (4, .int y7), (0, .ref (ad 0)), (1, .int a1), (2, .int a2), (3, .int a3)]) hx hb dX12_pool_262 hl (by decide) rfl (fun ls hl => ?_)
                                obtain ⟨x80, ex80⟩ : ∃ y : Int32, y = y17 + 1 := ⟨_, rfl⟩
                                have tx80 : x80.toInt = y17.toInt + 1 := z_tadd ex80 rfl z_l1 (by omega) (by omega)
                                refine lv_iinc (v := x80) (lv' := [(8, .int x80), (7, .int y45), (6, .int y17), (11, .int y44), (10, .int y45), (9, .int y46), (5, .int y6), (4, .int y7), (0, .ref (ad 0)), (1, .int a1), (2, .int a2), (3, .int a3)]) hx hb dX12_pool_264 hl (k := 5) rfl (by rw [ex80]; rfl) (by decide) rfl (fun ls hl => ?_)
                                refine lv_goto (tgt := 107) hx hb dX12_pool_267 (by decide) ?_
                                exact lp16ih x80 y45 y17 _ _ _ (by omega) (by omega) hW hS (lv_sub hl [0, 1, 2, 6, 7, 8, 9, 10, 11] rfl)
                              · have g81 := z_f_eq rfl rfl c76
                                have b82 := Int32.toInt_lt x74
                                have b83 := Int32.toInt_lt x75
                                refine lv_iload hx hb dX12_pool_246 (lv_at hl 1 rfl) ?_
                                refine lv_iload hx hb dX12_pool_248 (lv_at hl 4 rfl) ?_
                                refine lv_icmp_lt (tgt := 256) hx hb dX12_pool_250 (by decide) (fun c84 => ?_) (fun c84 => ?_)
                                · have g85 := z_f_lt rfl rfl c84
                                  have b86 := Int32.toInt_lt y45
                                  have b87 := Int32.toInt_lt y18
                                  refine lv_iload hx hb dX12_pool_256 (lv_at hl 3 rfl) ?_
                                  refine lv_istore (lv' := [(6, .int y17), (11, .int y44), (10, .int y45), (9, .int y46), (8, .int y17), (7, .int y18), (5, .int y6), (4, .int y7), (0, .ref (ad 0)), (1, .int a1), (2, .int a2), (3, .int a3)]) hx hb dX12_pool_258 hl (by decide) rfl (fun ls hl => ?_)
                                  refine lv_iload hx hb dX12_pool_260 (lv_at hl 2 rfl) ?_
                                  refine lv_istore (lv' := [(7, .int y45), (6, .int y17), (11, .int y44), (10, .int y45), (9, .int y46), (8, .int y17), (5, .int y6), (4, .int y7), (0, .ref (ad 0)), (1, .int a1), (2, .int a2), (3, .int a3)]) hx hb dX12_pool_262 hl (by decide) rfl (fun ls hl => ?_)
                                  obtain ⟨x88, ex88⟩ : ∃ y : Int32, y = y17 + 1 := ⟨_, rfl⟩
                                  have tx88 : x88.toInt = y17.toInt + 1 := z_tadd ex88 rfl z_l1 (by omega) (by omega)
                                  refine lv_iinc (v := x88) (lv' := [(8, .int x88), (7, .int y45), (6, .int y17), (11, .int y44), (10, .int y45), (9, .int y46), (5, .int y6), (4, .int y7), (0, .ref (ad 0)), (1, .int a1), (2, .int a2), (3, .int a3)]) hx hb dX12_pool_264 hl (k := 5) rfl (by rw [ex88]; rfl) (by decide) rfl (fun ls hl => ?_)
                                  refine lv_goto (tgt := 107) hx hb dX12_pool_267 (by decide) ?_
                                  exact lp16ih x88 y45 y17 _ _ _ (by omega) (by omega) hW hS (lv_sub hl [0, 1, 2, 6, 7, 8, 9, 10, 11] rfl)
                                · have g89 := z_f_nlt rfl rfl c84
                                  have b90 := Int32.toInt_lt y45
                                  have b91 := Int32.toInt_lt y18
                                  refine lv_goto (tgt := 264) hx hb dX12_pool_253 (by decide) ?_
                                  obtain ⟨x92, ex92⟩ : ∃ y : Int32, y = y17 + 1 := ⟨_, rfl⟩
                                  have tx92 : x92.toInt = y17.toInt + 1 := z_tadd ex92 rfl z_l1 (by omega) (by omega)
                                  refine lv_iinc (v := x92) (lv' := [(8, .int x92), (11, .int y44), (10, .int y45), (9, .int y46), (7, .int y18), (6, .int y19), (5, .int y6), (4, .int y7), (0, .ref (ad 0)), (1, .int a1), (2, .int a2), (3, .int a3)]) hx hb dX12_pool_264 hl (k := 3) rfl (by rw [ex92]; rfl) (by decide) rfl (fun ls hl => ?_)
                                  refine lv_goto (tgt := 107) hx hb dX12_pool_267 (by decide) ?_
                                  exact lp16ih x92 y18 y19 _ _ _ (by omega) (by omega) hW hS (lv_sub hl [0, 4, 5, 6, 7, 8, 9, 10, 11] rfl)
                      · have g93 := z_f_nge rfl rfl c47
                        have b94 := Int32.toInt_lt y44
                        refine lv_iload hx hb dX12_pool_132 (lv_at hl 3 rfl) ?_
                        refine lv_iload hx hb dX12_pool_134 (lv_at hl 0 rfl) ?_
                        refine lv_ishr hx hb dX12_pool_136 ?_
                        refine lv_topi (fun x95 ex95 => ?_)
                        refine lv_iconst (v := 1) hx hb dX12_pool_137 (by decide) ?_
                        refine lv_iand hx hb dX12_pool_138 ?_
                        refine lv_topi (fun x96 ex96 => ?_)
                        refine lv_if_ne (tgt := 145) hx hb dX12_pool_139 (by decide) (fun c97 => ?_) (fun c97 => ?_)
                        · have g98 := z_f_ne rfl z_l0 c97
                          have b99 := Int32.toInt_lt x96
                          refine lv_iload hx hb dX12_pool_145 (lv_at hl 2 rfl) ?_
                          refine lv_aload_n hx hb dX12_pool_147 rfl (lv_at hl 8 rfl) ?_
                          refine z_get (T := TX12) (N := 96) (ci := 12) (i := 0) (v := .ref (ad 3)) hx hb hts zj_X12_pool_X12 hown hK hW rfl rfl 5 (by decide) (hts (.fieldLink RX12 16 "PetrolBoardModel" "seatsOf" "[I") (me_s (me_l (List.mem_of_getElem? (i := 5) rfl)))) (fun _ h => h) rfl dX12_pool_148 ?_
                          refine lv_aload_n hx hb dX12_pool_151 rfl (lv_at hl 8 rfl) ?_
                          refine z_get (T := TX12) (N := 96) (ci := 12) (i := 0) (v := .ref (ad 59)) hx hb hts zj_X12_pool_X12 hown hK hW rfl rfl 84 (by decide) (hts (.fieldLink RX12 193 "PetrolBoardModel" "jWho" "[I") (me_s (me_l (List.mem_of_getElem? (i := 6) rfl)))) (fun _ h => h) rfl dX12_pool_152 ?_
                          refine lv_aload_n hx hb dX12_pool_155 rfl (lv_at hl 8 rfl) ?_
                          refine z_get (T := TX12) (N := 96) (ci := 12) (i := 0) (v := .ref (ad 68)) hx hb hts zj_X12_pool_X12 hown hK hW rfl rfl 93 (by decide) (hts (.fieldLink RX12 220 "PetrolBoardModel" "pool" "[I") (me_s (me_l (List.mem_of_getElem? (i := 3) rfl)))) (fun _ h => h) rfl dX12_pool_156 ?_
                          refine lv_iload hx hb dX12_pool_159 (lv_at hl 0 rfl) ?_
                          refine z_iald (i := 68) hx hb hK hW rfl (z_ix rfl (by omega) (by omega)) dX12_pool_161 ?_
                          refine lv_topi (fun x100 ex100 => ?_)
                          have h101 : 0 ≤ x100.toInt ∧ x100.toInt ≤ 59 := by rw [ex100]; exact lp4Apl _
                          refine z_iald (i := 59) hx hb hK hW rfl (z_ix rfl (by omega) (by omega)) dX12_pool_162 ?_
                          refine lv_topi (fun x102 ex102 => ?_)
                          have h103 : 0 ≤ x102.toInt ∧ x102.toInt ≤ 29 := by rw [ex102]; exact lp4Ajw _
                          refine z_iald (i := 3) hx hb hK hW rfl (z_ix rfl (by omega) (by omega)) dX12_pool_163 ?_
                          refine lv_topi (fun x104 ex104 => ?_)
                          refine lv_iadd hx hb dX12_pool_164 ?_
                          refine lv_topi (fun x105 ex105 => ?_)
                          refine lv_istore (lv' := [(9, .int x105), (11, .int y44), (10, .int y45), (8, .int y17), (7, .int y18), (6, .int y19), (5, .int y6), (4, .int y7), (0, .ref (ad 0)), (1, .int a1), (2, .int a2), (3, .int a3)]) hx hb dX12_pool_165 hl (by decide) rfl (fun ls hl => ?_)
                          refine lv_iload hx hb dX12_pool_167 (lv_at hl 2 rfl) ?_
                          refine lv_aload_n hx hb dX12_pool_169 rfl (lv_at hl 8 rfl) ?_
                          refine z_get (T := TX12) (N := 96) (ci := 12) (i := 0) (v := .ref (ad 60)) hx hb hts zj_X12_pool_X12 hown hK hW rfl rfl 85 (by decide) (hts (.fieldLink RX12 196 "PetrolBoardModel" "jMiles" "[I") (me_s (me_l (List.mem_of_getElem? (i := 7) rfl)))) (fun _ h => h) rfl dX12_pool_170 ?_
                          refine lv_aload_n hx hb dX12_pool_173 rfl (lv_at hl 8 rfl) ?_
                          refine z_get (T := TX12) (N := 96) (ci := 12) (i := 0) (v := .ref (ad 68)) hx hb hts zj_X12_pool_X12 hown hK hW rfl rfl 93 (by decide) (hts (.fieldLink RX12 220 "PetrolBoardModel" "pool" "[I") (me_s (me_l (List.mem_of_getElem? (i := 3) rfl)))) (fun _ h => h) rfl dX12_pool_174 ?_
                          refine lv_iload hx hb dX12_pool_177 (lv_at hl 1 rfl) ?_
                          refine z_iald (i := 68) hx hb hK hW rfl (z_ix rfl (by omega) (by omega)) dX12_pool_179 ?_
                          refine z_topi (v := x100) ex100.symm ?_
                          refine z_iald (i := 60) hx hb hK hW rfl (z_ix rfl (by omega) (by omega)) dX12_pool_180 ?_
                          refine lv_topi (fun x106 ex106 => ?_)
                          refine lv_aload_n hx hb dX12_pool_181 rfl (lv_at hl 8 rfl) ?_
                          refine z_get (T := TX12) (N := 96) (ci := 12) (i := 0) (v := .ref (ad 1)) hx hb hts zj_X12_pool_X12 hown hK hW rfl rfl 3 (by decide) (hts (.fieldLink RX12 7 "PetrolBoardModel" "sizeOf" "[I") (me_s (me_l (List.mem_of_getElem? (i := 8) rfl)))) (fun _ h => h) rfl dX12_pool_182 ?_
                          refine lv_aload_n hx hb dX12_pool_185 rfl (lv_at hl 8 rfl) ?_
                          refine z_get (T := TX12) (N := 96) (ci := 12) (i := 0) (v := .ref (ad 59)) hx hb hts zj_X12_pool_X12 hown hK hW rfl rfl 84 (by decide) (hts (.fieldLink RX12 193 "PetrolBoardModel" "jWho" "[I") (me_s (me_l (List.mem_of_getElem? (i := 6) rfl)))) (fun _ h => h) rfl dX12_pool_186 ?_
                          refine lv_aload_n hx hb dX12_pool_189 rfl (lv_at hl 8 rfl) ?_
                          refine z_get (T := TX12) (N := 96) (ci := 12) (i := 0) (v := .ref (ad 68)) hx hb hts zj_X12_pool_X12 hown hK hW rfl rfl 93 (by decide) (hts (.fieldLink RX12 220 "PetrolBoardModel" "pool" "[I") (me_s (me_l (List.mem_of_getElem? (i := 3) rfl)))) (fun _ h => h) rfl dX12_pool_190 ?_
                          refine lv_iload hx hb dX12_pool_193 (lv_at hl 1 rfl) ?_
                          refine z_iald (i := 68) hx hb hK hW rfl (z_ix rfl (by omega) (by omega)) dX12_pool_195 ?_
                          refine z_topi (v := x100) ex100.symm ?_
                          refine z_iald (i := 59) hx hb hK hW rfl (z_ix rfl (by omega) (by omega)) dX12_pool_196 ?_
                          refine z_topi (v := x102) ex102.symm ?_
                          refine z_iald (i := 1) hx hb hK hW rfl (z_ix rfl (by omega) (by omega)) dX12_pool_197 ?_
                          refine lv_topi (fun x107 ex107 => ?_)
                          refine lv_imul hx hb dX12_pool_198 ?_
                          refine lv_topi (fun x108 ex108 => ?_)
                          refine lv_iadd hx hb dX12_pool_199 ?_
                          refine lv_topi (fun x109 ex109 => ?_)
                          refine lv_istore (lv' := [(10, .int x109), (9, .int x105), (11, .int y44), (8, .int y17), (7, .int y18), (6, .int y19), (5, .int y6), (4, .int y7), (0, .ref (ad 0)), (1, .int a1), (2, .int a2), (3, .int a3)]) hx hb dX12_pool_200 hl (by decide) rfl (fun ls hl => ?_)
                          obtain ⟨x110, ex110⟩ : ∃ y : Int32, y = y44 + 1 := ⟨_, rfl⟩
                          have tx110 : x110.toInt = y44.toInt + 1 := z_tadd ex110 rfl z_l1 (by omega) (by omega)
                          refine lv_iinc (v := x110) (lv' := [(11, .int x110), (10, .int x109), (9, .int x105), (8, .int y17), (7, .int y18), (6, .int y19), (5, .int y6), (4, .int y7), (0, .ref (ad 0)), (1, .int a1), (2, .int a2), (3, .int a3)]) hx hb dX12_pool_202 hl (k := 2) rfl (by rw [ex110]; rfl) (by decide) rfl (fun ls hl => ?_)
                          refine lv_goto (tgt := 125) hx hb dX12_pool_205 (by decide) ?_
                          exact lp43ih x110 x109 x105 _ _ _ (by omega) (by omega) hW hS (lv_sub hl [0, 1, 2, 3, 4, 5, 6, 7, 8, 9, 10, 11] rfl)
                        · have g111 := z_f_eq rfl z_l0 c97
                          have b112 := Int32.toInt_lt x96
                          refine lv_goto (tgt := 202) hx hb dX12_pool_142 (by decide) ?_
                          obtain ⟨x113, ex113⟩ : ∃ y : Int32, y = y44 + 1 := ⟨_, rfl⟩
                          have tx113 : x113.toInt = y44.toInt + 1 := z_tadd ex113 rfl z_l1 (by omega) (by omega)
                          refine lv_iinc (v := x113) (lv' := [(11, .int x113), (10, .int y45), (9, .int y46), (8, .int y17), (7, .int y18), (6, .int y19), (5, .int y6), (4, .int y7), (0, .ref (ad 0)), (1, .int a1), (2, .int a2), (3, .int a3)]) hx hb dX12_pool_202 hl (k := 0) rfl (by rw [ex113]; rfl) (by decide) rfl (fun ls hl => ?_)
                          refine lv_goto (tgt := 125) hx hb dX12_pool_205 (by decide) ?_
                          exact lp43ih x113 y45 y46 _ _ _ (by omega) (by omega) hW hS (lv_sub hl [0, 1, 2, 3, 4, 5, 6, 7, 8, 9, 10, 11] rfl)
                  exact lp43 4294967296 (0) (0) (0) _ _ _ (z_m0u _) (by rw [z_l0]; omega) hW hS (lv_sub hl [0, 1, 2, 3, 4, 5, 6, 7, 8, 9, 10, 11] rfl)
            exact lp16 4294967296 (1) (0) ((-1)) _ _ _ (z_m0u _) (by rw [z_l1]; omega) hW hS (lv_sub hl [0, 1, 2, 3, 4, 5, 6, 7, 8] rfl)
          · have g114 := z_f_eq rfl z_l0 c14
            refine lv_iconst (v := (-1)) hx hb dX12_pool_96 (by decide) ?_
            exact z_iret hx hb hr hK hS (Nat.le_of_ble_eq_true rfl) (Nat.le_of_ble_eq_true rfl) hlocks dX12_pool_97 (shM, ad, I8, J9, PM ad) hW ⟨I8, J9, rfl, ⟨(by show 0 ≤ (I8 0 0).toInt ∧ (I8 0 0).toInt ≤ 719; exact lp4ma.1), (by show 0 ≤ (I8 0 1).toInt ∧ (I8 0 1).toInt ≤ 30; exact lp4ma.2.1), (by show 0 ≤ (I8 0 2).toInt ∧ (I8 0 2).toInt ≤ 200; exact lp4ma.2.2)⟩, (by show 0 ≤ (I8 0 83).toInt ∧ (I8 0 83).toInt ≤ 60; exact lp4mj), lp4Apl, lp4Ajw, lp4fr⟩
        · have g115 := z_f_nge rfl rfl c11
          have b116 := Int32.toInt_lt y5
          refine lv_iload hx hb dX12_pool_29 (lv_at hl 2 rfl) ?_
          refine lv_bipush (v := 12) hx hb dX12_pool_31 (by decide) ?_
          refine lv_icmp_ge (tgt := 91) hx hb dX12_pool_33 (by decide) (fun c117 => ?_) (fun c117 => ?_)
          · have g118 := z_f_ge rfl z_l12 c117
            refine lv_iload hx hb dX12_pool_91 (lv_at hl 2 rfl) ?_
            refine lv_if_ne (tgt := 98) hx hb dX12_pool_93 (by decide) (fun c119 => ?_) (fun c119 => (by have g := z_f_eq rfl z_l0 c119; omega))
            have g120 := z_f_ne rfl z_l0 c119
            refine lv_iconst (v := (-1)) hx hb dX12_pool_98 (by decide) ?_
            refine lv_istore (lv' := [(6, .int (-1)), (5, .int y6), (4, .int y7), (0, .ref (ad 0)), (1, .int a1), (2, .int a2), (3, .int a3)]) hx hb dX12_pool_99 hl (by decide) rfl (fun ls hl => ?_)
            refine lv_iconst (v := 0) hx hb dX12_pool_101 (by decide) ?_
            refine lv_istore (lv' := [(7, .int 0), (6, .int (-1)), (5, .int y6), (4, .int y7), (0, .ref (ad 0)), (1, .int a1), (2, .int a2), (3, .int a3)]) hx hb dX12_pool_102 hl (by decide) rfl (fun ls hl => ?_)
            refine lv_iconst (v := 1) hx hb dX12_pool_104 (by decide) ?_
            refine lv_istore (lv' := [(8, .int 1), (7, .int 0), (6, .int (-1)), (5, .int y6), (4, .int y7), (0, .ref (ad 0)), (1, .int a1), (2, .int a2), (3, .int a3)]) hx hb dX12_pool_105 hl (by decide) rfl (fun ls hl => ?_)
            have lp121 : ∀ (f : Nat) (y122 : Int32) (y123 : Int32) (y124 : Int32) (H : Heap) (locs : List Loc) (ls : Array Slot), (2147483647 < y122.toInt + (f : Int)) → (1 ≤ y122.toInt) → z_W G A (shM, ad, I8, J9, PM ad) H → va_S A s.heap H locs → lv_has ls 12 [(8, .int y122), (7, .int y123), (6, .int y124), (5, .int y6), (4, .int y7), (0, .ref (ad 0)), (1, .int a1), (2, .int a2), (3, .int a3)] → W p l e (headSpec wsX12_pool { frames := 2, cells := 0, slots := 0, locals := 34 }).room s m ([.ref (ad 0), .int a1, .int a2, .int a3] : List Value).toArray below meth c0 H locs 0 0 (MQ below (va_Qi (fun (r : Int32) (u1 : z_U) => ∃ (I1 : z_I) (J1 : z_J), u1 = (shM, ad, I1, J1, PM ad) ∧ z_ima I1 ∧ z_imj I1 ∧ z_rg 68 0 59 I1 ∧ z_rg 59 0 29 I1 ∧ z_fr L_X12_pool I1 I) (z_B G A) A) ([.ref (ad 0), .int a1, .int a2, .int a3] : List Value).toArray s 0 0 A) (F0 m 107 ls []) := by
              intro f
              induction f with
              | zero => intro y122 y123 y124 H locs ls lp121m lp121l8 hW hS hl; exact absurd lp121m (by have := Int32.toInt_lt y122; have := Int32.le_toInt y122; omega)
              | succ f lp121ih =>
                intro y122 y123 y124 H locs ls lp121m lp121l8 hW hS hl
                refine lv_iload hx hb dX12_pool_107 (lv_at hl 0 rfl) ?_
                refine lv_iconst (v := 1) hx hb dX12_pool_109 (by decide) ?_
                refine lv_iload hx hb dX12_pool_110 (lv_at hl 4 rfl) ?_
                refine lv_ishl hx hb dX12_pool_112 ?_
                refine lv_topi (fun x125 ex125 => ?_)
                refine lv_icmp_ge (tgt := 270) hx hb dX12_pool_113 (by decide) (fun c126 => ?_) (fun c126 => ?_)
                · have g127 := z_f_ge rfl rfl c126
                  have b128 := Int32.toInt_lt y122
                  have b129 := Int32.toInt_lt x125
                  refine lv_iload hx hb dX12_pool_270 (lv_at hl 2 rfl) ?_
                  refine lv_if_ge (tgt := 277) hx hb dX12_pool_272 (by decide) (fun c130 => ?_) (fun c130 => ?_)
                  · have g131 := z_f_ge rfl z_l0 c130
                    have b132 := Int32.toInt_lt y124
                    refine lv_iload_n hx hb dX12_pool_277 rfl (lv_at hl 8 rfl) ?_
                    refine lv_if_ne (tgt := 289) hx hb dX12_pool_278 (by decide) (fun c133 => ?_) (fun c133 => ?_)
                    · have g134 := z_f_ne rfl z_l0 c133
                      refine lv_iload_n hx hb dX12_pool_289 rfl (lv_at hl 8 rfl) ?_
                      refine lv_iconst (v := 1) hx hb dX12_pool_290 (by decide) ?_
                      refine lv_icmp_ne (tgt := 299) hx hb dX12_pool_291 (by decide) (fun c135 => ?_) (fun c135 => ?_)
                      · have g136 := z_f_ne rfl z_l1 c135
                        refine lv_iload_n hx hb dX12_pool_299 rfl (lv_at hl 8 rfl) ?_
                        refine lv_iconst (v := 2) hx hb dX12_pool_300 (by decide) ?_
                        refine lv_icmp_ne (tgt := 309) hx hb dX12_pool_301 (by decide) (fun c137 => ?_) (fun c137 => ?_)
                        · have g138 := z_f_ne rfl z_l2 c137
                          refine lv_iload hx hb dX12_pool_309 (lv_at hl 3 rfl) ?_
                          exact z_iret hx hb hr hK hS (Nat.le_of_ble_eq_true rfl) (Nat.le_of_ble_eq_true rfl) hlocks dX12_pool_311 (shM, ad, I8, J9, PM ad) hW ⟨I8, J9, rfl, ⟨(by show 0 ≤ (I8 0 0).toInt ∧ (I8 0 0).toInt ≤ 719; exact lp4ma.1), (by show 0 ≤ (I8 0 1).toInt ∧ (I8 0 1).toInt ≤ 30; exact lp4ma.2.1), (by show 0 ≤ (I8 0 2).toInt ∧ (I8 0 2).toInt ≤ 200; exact lp4ma.2.2)⟩, (by show 0 ≤ (I8 0 83).toInt ∧ (I8 0 83).toInt ≤ 60; exact lp4mj), lp4Apl, lp4Ajw, lp4fr⟩
                        · have g139 := z_f_eq rfl z_l2 c137
                          refine lv_iload hx hb dX12_pool_304 (lv_at hl 2 rfl) ?_
                          refine lv_goto (tgt := 311) hx hb dX12_pool_306 (by decide) ?_
                          exact z_iret hx hb hr hK hS (Nat.le_of_ble_eq_true rfl) (Nat.le_of_ble_eq_true rfl) hlocks dX12_pool_311 (shM, ad, I8, J9, PM ad) hW ⟨I8, J9, rfl, ⟨(by show 0 ≤ (I8 0 0).toInt ∧ (I8 0 0).toInt ≤ 719; exact lp4ma.1), (by show 0 ≤ (I8 0 1).toInt ∧ (I8 0 1).toInt ≤ 30; exact lp4ma.2.1), (by show 0 ≤ (I8 0 2).toInt ∧ (I8 0 2).toInt ≤ 200; exact lp4ma.2.2)⟩, (by show 0 ≤ (I8 0 83).toInt ∧ (I8 0 83).toInt ≤ 60; exact lp4mj), lp4Apl, lp4Ajw, lp4fr⟩
                      · have g140 := z_f_eq rfl z_l1 c135
                        refine lv_iload hx hb dX12_pool_294 (lv_at hl 1 rfl) ?_
                        refine lv_goto (tgt := 311) hx hb dX12_pool_296 (by decide) ?_
                        exact z_iret hx hb hr hK hS (Nat.le_of_ble_eq_true rfl) (Nat.le_of_ble_eq_true rfl) hlocks dX12_pool_311 (shM, ad, I8, J9, PM ad) hW ⟨I8, J9, rfl, ⟨(by show 0 ≤ (I8 0 0).toInt ∧ (I8 0 0).toInt ≤ 719; exact lp4ma.1), (by show 0 ≤ (I8 0 1).toInt ∧ (I8 0 1).toInt ≤ 30; exact lp4ma.2.1), (by show 0 ≤ (I8 0 2).toInt ∧ (I8 0 2).toInt ≤ 200; exact lp4ma.2.2)⟩, (by show 0 ≤ (I8 0 83).toInt ∧ (I8 0 83).toInt ≤ 60; exact lp4mj), lp4Apl, lp4Ajw, lp4fr⟩
                    · have g141 := z_f_eq rfl z_l0 c133
                      refine lv_iload hx hb dX12_pool_281 (lv_at hl 2 rfl) ?_
                      refine z_ci hW hS hA (va_runS (As := [.int y124]) (rest := []) ⟨hx, hb, hml, hown, hts⟩ (sx_X12_bits l G ad I8 J9  y124 (by first | omega | decide) _) (va_cwS 1 hts gX12_pool_X12_bits rfl rfl rfl hy_X12_bits.2 ⟨Nat.le_of_ble_eq_true rfl, Nat.le_of_ble_eq_true rfl⟩) (z_preS hK hW) rfl rfl hl.1 rfl (lv_room (Nat.le_of_ble_eq_true rfl)) dX12_pool_283 ⟨Nat.le_of_ble_eq_true rfl, Nat.le_of_ble_eq_true rfl⟩) (fun r u1 H locs hp hW hS => ?_)
                      rw [hp] at hW
                      refine lv_topi (fun x142 ex142 => ?_)
                      refine lv_goto (tgt := 311) hx hb dX12_pool_286 (by decide) ?_
                      exact z_iret hx hb hr hK hS (Nat.le_of_ble_eq_true rfl) (Nat.le_of_ble_eq_true rfl) hlocks dX12_pool_311 (shM, ad, I8, J9, PM ad) hW ⟨I8, J9, rfl, ⟨(by show 0 ≤ (I8 0 0).toInt ∧ (I8 0 0).toInt ≤ 719; exact lp4ma.1), (by show 0 ≤ (I8 0 1).toInt ∧ (I8 0 1).toInt ≤ 30; exact lp4ma.2.1), (by show 0 ≤ (I8 0 2).toInt ∧ (I8 0 2).toInt ≤ 200; exact lp4ma.2.2)⟩, (by show 0 ≤ (I8 0 83).toInt ∧ (I8 0 83).toInt ≤ 60; exact lp4mj), lp4Apl, lp4Ajw, lp4fr⟩
                  · have g143 := z_f_nge rfl z_l0 c130
                    have b144 := Int32.toInt_lt y124
                    refine lv_iconst (v := (-1)) hx hb dX12_pool_275 (by decide) ?_
                    exact z_iret hx hb hr hK hS (Nat.le_of_ble_eq_true rfl) (Nat.le_of_ble_eq_true rfl) hlocks dX12_pool_276 (shM, ad, I8, J9, PM ad) hW ⟨I8, J9, rfl, ⟨(by show 0 ≤ (I8 0 0).toInt ∧ (I8 0 0).toInt ≤ 719; exact lp4ma.1), (by show 0 ≤ (I8 0 1).toInt ∧ (I8 0 1).toInt ≤ 30; exact lp4ma.2.1), (by show 0 ≤ (I8 0 2).toInt ∧ (I8 0 2).toInt ≤ 200; exact lp4ma.2.2)⟩, (by show 0 ≤ (I8 0 83).toInt ∧ (I8 0 83).toInt ≤ 60; exact lp4mj), lp4Apl, lp4Ajw, lp4fr⟩
                · have g145 := z_f_nge rfl rfl c126
                  have b146 := Int32.toInt_lt y122
                  have b147 := Int32.toInt_lt x125
                  refine lv_iconst (v := 0) hx hb dX12_pool_116 (by decide) ?_
                  refine lv_istore (lv' := [(9, .int 0), (8, .int y122), (7, .int y123), (6, .int y124), (5, .int y6), (4, .int y7), (0, .ref (ad 0)), (1, .int a1), (2, .int a2), (3, .int a3)]) hx hb dX12_pool_117 hl (by decide) rfl (fun ls hl => ?_)
                  refine lv_iconst (v := 0) hx hb dX12_pool_119 (by decide) ?_
                  refine lv_istore (lv' := [(10, .int 0), (9, .int 0), (8, .int y122), (7, .int y123), (6, .int y124), (5, .int y6), (4, .int y7), (0, .ref (ad 0)), (1, .int a1), (2, .int a2), (3, .int a3)]) hx hb dX12_pool_120 hl (by decide) rfl (fun ls hl => ?_)
                  refine lv_iconst (v := 0) hx hb dX12_pool_122 (by decide) ?_
                  refine lv_istore (lv' := [(11, .int 0), (10, .int 0), (9, .int 0), (8, .int y122), (7, .int y123), (6, .int y124), (5, .int y6), (4, .int y7), (0, .ref (ad 0)), (1, .int a1), (2, .int a2), (3, .int a3)]) hx hb dX12_pool_123 hl (by decide) rfl (fun ls hl => ?_)
                  have lp148 : ∀ (f : Nat) (y149 : Int32) (y150 : Int32) (y151 : Int32) (H : Heap) (locs : List Loc) (ls : Array Slot), (2147483647 < y149.toInt + (f : Int)) → (0 ≤ y149.toInt) → z_W G A (shM, ad, I8, J9, PM ad) H → va_S A s.heap H locs → lv_has ls 12 [(11, .int y149), (10, .int y150), (9, .int y151), (8, .int y122), (7, .int y123), (6, .int y124), (5, .int y6), (4, .int y7), (0, .ref (ad 0)), (1, .int a1), (2, .int a2), (3, .int a3)] → W p l e (headSpec wsX12_pool { frames := 2, cells := 0, slots := 0, locals := 34 }).room s m ([.ref (ad 0), .int a1, .int a2, .int a3] : List Value).toArray below meth c0 H locs 0 0 (MQ below (va_Qi (fun (r : Int32) (u1 : z_U) => ∃ (I1 : z_I) (J1 : z_J), u1 = (shM, ad, I1, J1, PM ad) ∧ z_ima I1 ∧ z_imj I1 ∧ z_rg 68 0 59 I1 ∧ z_rg 59 0 29 I1 ∧ z_fr L_X12_pool I1 I) (z_B G A) A) ([.ref (ad 0), .int a1, .int a2, .int a3] : List Value).toArray s 0 0 A) (F0 m 125 ls []) := by
                    intro f
                    induction f with
                    | zero => intro y149 y150 y151 H locs ls lp148m lp148l11 hW hS hl; exact absurd lp148m (by have := Int32.toInt_lt y149; have := Int32.le_toInt y149; omega)
                    | succ f lp148ih =>
                      intro y149 y150 y151 H locs ls lp148m lp148l11 hW hS hl
                      refine lv_iload hx hb dX12_pool_125 (lv_at hl 0 rfl) ?_
                      refine lv_iload hx hb dX12_pool_127 (lv_at hl 7 rfl) ?_
                      refine lv_icmp_ge (tgt := 208) hx hb dX12_pool_129 (by decide) (fun c152 => ?_) (fun c152 => ?_)
                      · have g153 := z_f_ge rfl rfl c152
                        have b154 := Int32.toInt_lt y149
                        refine lv_iload hx hb dX12_pool_208 (lv_at hl 2 rfl) ?_
                        refine lv_iload hx hb dX12_pool_210 (lv_at hl 6 rfl) ?_
                        refine lv_icmp_lt (tgt := 264) hx hb dX12_pool_212 (by decide) (fun c155 => ?_) (fun c155 => ?_)
                        · have g156 := z_f_lt rfl rfl c155
                          have b157 := Int32.toInt_lt y151
                          have b158 := Int32.toInt_lt y6
                          obtain ⟨x159, ex159⟩ : ∃ y : Int32, y = y122 + 1 := ⟨_, rfl⟩
                          have tx159 : x159.toInt = y122.toInt + 1 := z_tadd ex159 rfl z_l1 (by omega) (by omega)
                          refine lv_iinc (v := x159) (lv' := [(8, .int x159), (11, .int y149), (10, .int y150), (9, .int y151), (7, .int y123), (6, .int y124), (5, .int y6), (4, .int y7), (0, .ref (ad 0)), (1, .int a1), (2, .int a2), (3, .int a3)]) hx hb dX12_pool_264 hl (k := 3) rfl (by rw [ex159]; rfl) (by decide) rfl (fun ls hl => ?_)
                          refine lv_goto (tgt := 107) hx hb dX12_pool_267 (by decide) ?_
                          exact lp121ih x159 y123 y124 _ _ _ (by omega) (by omega) hW hS (lv_sub hl [0, 4, 5, 6, 7, 8, 9, 10, 11] rfl)
                        · have g160 := z_f_nlt rfl rfl c155
                          have b161 := Int32.toInt_lt y151
                          have b162 := Int32.toInt_lt y6
                          refine lv_iload hx hb dX12_pool_215 (lv_at hl 5 rfl) ?_
                          refine lv_if_lt (tgt := 256) hx hb dX12_pool_217 (by decide) (fun c163 => ?_) (fun c163 => ?_)
                          · have g164 := z_f_lt rfl z_l0 c163
                            have b165 := Int32.toInt_lt y124
                            refine lv_iload hx hb dX12_pool_256 (lv_at hl 3 rfl) ?_
                            refine lv_istore (lv' := [(6, .int y122), (11, .int y149), (10, .int y150), (9, .int y151), (8, .int y122), (7, .int y123), (5, .int y6), (4, .int y7), (0, .ref (ad 0)), (1, .int a1), (2, .int a2), (3, .int a3)]) hx hb dX12_pool_258 hl (by decide) rfl (fun ls hl => ?_)
                            refine lv_iload hx hb dX12_pool_260 (lv_at hl 2 rfl) ?_
                            refine lv_istore (lv' := [(7, .int y150), (6, .int y122), (11, .int y149), (10, .int y150), (9, .int y151), (8, .int y122), (5, .int y6), (4, .int y7), (0, .ref (ad 0)), (1, .int a1), (2, .int a2), (3, .int a3)]) hx hb dX12_pool_262 hl (by decide) rfl (fun ls hl => ?_)
                            obtain ⟨x166, ex166⟩ : ∃ y : Int32, y = y122 + 1 := ⟨_, rfl⟩
                            have tx166 : x166.toInt = y122.toInt + 1 := z_tadd ex166 rfl z_l1 (by omega) (by omega)
                            refine lv_iinc (v := x166) (lv' := [(8, .int x166), (7, .int y150), (6, .int y122), (11, .int y149), (10, .int y150), (9, .int y151), (5, .int y6), (4, .int y7), (0, .ref (ad 0)), (1, .int a1), (2, .int a2), (3, .int a3)]) hx hb dX12_pool_264 hl (k := 5) rfl (by rw [ex166]; rfl) (by decide) rfl (fun ls hl => ?_)
                            refine lv_goto (tgt := 107) hx hb dX12_pool_267 (by decide) ?_
                            exact lp121ih x166 y150 y122 _ _ _ (by omega) (by omega) hW hS (lv_sub hl [0, 1, 2, 6, 7, 8, 9, 10, 11] rfl)
                          · have g167 := z_f_nlt rfl z_l0 c163
                            have b168 := Int32.toInt_lt y124
                            refine lv_iload hx hb dX12_pool_220 (lv_at hl 3 rfl) ?_
                            refine z_ci hW hS hA (va_runS (As := [.int y122]) (rest := []) ⟨hx, hb, hml, hown, hts⟩ (sx_X12_bits l G ad I8 J9  y122 (by first | omega | decide) _) (va_cwS 1 hts gX12_pool_X12_bits rfl rfl rfl hy_X12_bits.2 ⟨Nat.le_of_ble_eq_true rfl, Nat.le_of_ble_eq_true rfl⟩) (z_preS hK hW) rfl rfl hl.1 rfl (lv_room (Nat.le_of_ble_eq_true rfl)) dX12_pool_222 ⟨Nat.le_of_ble_eq_true rfl, Nat.le_of_ble_eq_true rfl⟩) (fun r u1 H locs hp hW hS => ?_)
                            rw [hp] at hW
                            refine lv_topi (fun x169 ex169 => ?_)
                            refine lv_iload hx hb dX12_pool_225 (lv_at hl 5 rfl) ?_
                            refine z_ci hW hS hA (va_runS (As := [.int y124]) (rest := [.int x169]) ⟨hx, hb, hml, hown, hts⟩ (sx_X12_bits l G ad I8 J9  y124 (by first | omega | decide) _) (va_cwS 1 hts gX12_pool_X12_bits rfl rfl rfl hy_X12_bits.2 ⟨Nat.le_of_ble_eq_true rfl, Nat.le_of_ble_eq_true rfl⟩) (z_preS hK hW) rfl rfl hl.1 rfl (lv_room (Nat.le_of_ble_eq_true rfl)) dX12_pool_227 ⟨Nat.le_of_ble_eq_true rfl, Nat.le_of_ble_eq_true rfl⟩) (fun r u1 H locs hp hW hS => ?_)
                            rw [hp] at hW
                            refine lv_topi (fun x170 ex170 => ?_)
                            refine lv_icmp_gt (tgt := 264) hx hb dX12_pool_230 (by decide) (fun c171 => ?_) (fun c171 => ?_)
                            · have g172 := z_f_gt rfl rfl c171
                              have b173 := Int32.toInt_lt x169
                              have b174 := Int32.toInt_lt x170
                              obtain ⟨x175, ex175⟩ : ∃ y : Int32, y = y122 + 1 := ⟨_, rfl⟩
                              have tx175 : x175.toInt = y122.toInt + 1 := z_tadd ex175 rfl z_l1 (by omega) (by omega)
                              refine lv_iinc (v := x175) (lv' := [(8, .int x175), (11, .int y149), (10, .int y150), (9, .int y151), (7, .int y123), (6, .int y124), (5, .int y6), (4, .int y7), (0, .ref (ad 0)), (1, .int a1), (2, .int a2), (3, .int a3)]) hx hb dX12_pool_264 hl (k := 3) rfl (by rw [ex175]; rfl) (by decide) rfl (fun ls hl => ?_)
                              refine lv_goto (tgt := 107) hx hb dX12_pool_267 (by decide) ?_
                              exact lp121ih x175 y123 y124 _ _ _ (by omega) (by omega) hW hS (lv_sub hl [0, 4, 5, 6, 7, 8, 9, 10, 11] rfl)
                            · have g176 := z_f_ngt rfl rfl c171
                              have b177 := Int32.toInt_lt x169
                              have b178 := Int32.toInt_lt x170
                              refine lv_iload hx hb dX12_pool_233 (lv_at hl 3 rfl) ?_
                              refine z_ci hW hS hA (va_runS (As := [.int y122]) (rest := []) ⟨hx, hb, hml, hown, hts⟩ (sx_X12_bits l G ad I8 J9  y122 (by first | omega | decide) _) (va_cwS 1 hts gX12_pool_X12_bits rfl rfl rfl hy_X12_bits.2 ⟨Nat.le_of_ble_eq_true rfl, Nat.le_of_ble_eq_true rfl⟩) (z_preS hK hW) rfl rfl hl.1 rfl (lv_room (Nat.le_of_ble_eq_true rfl)) dX12_pool_235 ⟨Nat.le_of_ble_eq_true rfl, Nat.le_of_ble_eq_true rfl⟩) (fun r u1 H locs hp hW hS => ?_)
                              rw [hp] at hW
                              refine lv_topi (fun x179 ex179 => ?_)
                              refine lv_iload hx hb dX12_pool_238 (lv_at hl 5 rfl) ?_
                              refine z_ci hW hS hA (va_runS (As := [.int y124]) (rest := [.int x179]) ⟨hx, hb, hml, hown, hts⟩ (sx_X12_bits l G ad I8 J9  y124 (by first | omega | decide) _) (va_cwS 1 hts gX12_pool_X12_bits rfl rfl rfl hy_X12_bits.2 ⟨Nat.le_of_ble_eq_true rfl, Nat.le_of_ble_eq_true rfl⟩) (z_preS hK hW) rfl rfl hl.1 rfl (lv_room (Nat.le_of_ble_eq_true rfl)) dX12_pool_240 ⟨Nat.le_of_ble_eq_true rfl, Nat.le_of_ble_eq_true rfl⟩) (fun r u1 H locs hp hW hS => ?_)
                              rw [hp] at hW
                              refine lv_topi (fun x180 ex180 => ?_)
                              refine lv_icmp_ne (tgt := 256) hx hb dX12_pool_243 (by decide) (fun c181 => ?_) (fun c181 => ?_)
                              · have g182 := z_f_ne rfl rfl c181
                                have b183 := Int32.toInt_lt x179
                                have b184 := Int32.toInt_lt x180
                                refine lv_iload hx hb dX12_pool_256 (lv_at hl 3 rfl) ?_
                                refine lv_istore (lv' := [(6, .int y122), (11, .int y149), (10, .int y150), (9, .int y151), (8, .int y122), (7, .int y123), (5, .int y6), (4, .int y7), (0, .ref (ad 0)), (1, .int a1), (2, .int a2), (3, .int a3)]) hx hb dX12_pool_258 hl (by decide) rfl (fun ls hl => ?_)
                                refine lv_iload hx hb dX12_pool_260 (lv_at hl 2 rfl) ?_
                                refine lv_istore (lv' := [(7, .int y150), (6, .int y122), (11, .int y149), (10, .int y150), (9, .int y151), (8, .int y122), (5, .int y6), (4, .int y7), (0, .ref (ad 0)), (1, .int a1), (2, .int a2), (3, .int a3)]) hx hb dX12_pool_262 hl (by decide) rfl (fun ls hl => ?_)
                                obtain ⟨x185, ex185⟩ : ∃ y : Int32, y = y122 + 1 := ⟨_, rfl⟩
                                have tx185 : x185.toInt = y122.toInt + 1 := z_tadd ex185 rfl z_l1 (by omega) (by omega)
                                refine lv_iinc (v := x185) (lv' := [(8, .int x185), (7, .int y150), (6, .int y122), (11, .int y149), (10, .int y150), (9, .int y151), (5, .int y6), (4, .int y7), (0, .ref (ad 0)), (1, .int a1), (2, .int a2), (3, .int a3)]) hx hb dX12_pool_264 hl (k := 5) rfl (by rw [ex185]; rfl) (by decide) rfl (fun ls hl => ?_)
                                refine lv_goto (tgt := 107) hx hb dX12_pool_267 (by decide) ?_
                                exact lp121ih x185 y150 y122 _ _ _ (by omega) (by omega) hW hS (lv_sub hl [0, 1, 2, 6, 7, 8, 9, 10, 11] rfl)
                              · have g186 := z_f_eq rfl rfl c181
                                have b187 := Int32.toInt_lt x179
                                have b188 := Int32.toInt_lt x180
                                refine lv_iload hx hb dX12_pool_246 (lv_at hl 1 rfl) ?_
                                refine lv_iload hx hb dX12_pool_248 (lv_at hl 4 rfl) ?_
                                refine lv_icmp_lt (tgt := 256) hx hb dX12_pool_250 (by decide) (fun c189 => ?_) (fun c189 => ?_)
                                · have g190 := z_f_lt rfl rfl c189
                                  have b191 := Int32.toInt_lt y150
                                  have b192 := Int32.toInt_lt y123
                                  refine lv_iload hx hb dX12_pool_256 (lv_at hl 3 rfl) ?_
                                  refine lv_istore (lv' := [(6, .int y122), (11, .int y149), (10, .int y150), (9, .int y151), (8, .int y122), (7, .int y123), (5, .int y6), (4, .int y7), (0, .ref (ad 0)), (1, .int a1), (2, .int a2), (3, .int a3)]) hx hb dX12_pool_258 hl (by decide) rfl (fun ls hl => ?_)
                                  refine lv_iload hx hb dX12_pool_260 (lv_at hl 2 rfl) ?_
                                  refine lv_istore (lv' := [(7, .int y150), (6, .int y122), (11, .int y149), (10, .int y150), (9, .int y151), (8, .int y122), (5, .int y6), (4, .int y7), (0, .ref (ad 0)), (1, .int a1), (2, .int a2), (3, .int a3)]) hx hb dX12_pool_262 hl (by decide) rfl (fun ls hl => ?_)
                                  obtain ⟨x193, ex193⟩ : ∃ y : Int32, y = y122 + 1 := ⟨_, rfl⟩
                                  have tx193 : x193.toInt = y122.toInt + 1 := z_tadd ex193 rfl z_l1 (by omega) (by omega)
                                  refine lv_iinc (v := x193) (lv' := [(8, .int x193), (7, .int y150), (6, .int y122), (11, .int y149), (10, .int y150), (9, .int y151), (5, .int y6), (4, .int y7), (0, .ref (ad 0)), (1, .int a1), (2, .int a2), (3, .int a3)]) hx hb dX12_pool_264 hl (k := 5) rfl (by rw [ex193]; rfl) (by decide) rfl (fun ls hl => ?_)
                                  refine lv_goto (tgt := 107) hx hb dX12_pool_267 (by decide) ?_
                                  exact lp121ih x193 y150 y122 _ _ _ (by omega) (by omega) hW hS (lv_sub hl [0, 1, 2, 6, 7, 8, 9, 10, 11] rfl)
                                · have g194 := z_f_nlt rfl rfl c189
                                  have b195 := Int32.toInt_lt y150
                                  have b196 := Int32.toInt_lt y123
                                  refine lv_goto (tgt := 264) hx hb dX12_pool_253 (by decide) ?_
                                  obtain ⟨x197, ex197⟩ : ∃ y : Int32, y = y122 + 1 := ⟨_, rfl⟩
                                  have tx197 : x197.toInt = y122.toInt + 1 := z_tadd ex197 rfl z_l1 (by omega) (by omega)
                                  refine lv_iinc (v := x197) (lv' := [(8, .int x197), (11, .int y149), (10, .int y150), (9, .int y151), (7, .int y123), (6, .int y124), (5, .int y6), (4, .int y7), (0, .ref (ad 0)), (1, .int a1), (2, .int a2), (3, .int a3)]) hx hb dX12_pool_264 hl (k := 3) rfl (by rw [ex197]; rfl) (by decide) rfl (fun ls hl => ?_)
                                  refine lv_goto (tgt := 107) hx hb dX12_pool_267 (by decide) ?_
                                  exact lp121ih x197 y123 y124 _ _ _ (by omega) (by omega) hW hS (lv_sub hl [0, 4, 5, 6, 7, 8, 9, 10, 11] rfl)
                      · have g198 := z_f_nge rfl rfl c152
                        have b199 := Int32.toInt_lt y149
                        refine lv_iload hx hb dX12_pool_132 (lv_at hl 3 rfl) ?_
                        refine lv_iload hx hb dX12_pool_134 (lv_at hl 0 rfl) ?_
                        refine lv_ishr hx hb dX12_pool_136 ?_
                        refine lv_topi (fun x200 ex200 => ?_)
                        refine lv_iconst (v := 1) hx hb dX12_pool_137 (by decide) ?_
                        refine lv_iand hx hb dX12_pool_138 ?_
                        refine lv_topi (fun x201 ex201 => ?_)
                        refine lv_if_ne (tgt := 145) hx hb dX12_pool_139 (by decide) (fun c202 => ?_) (fun c202 => ?_)
                        · have g203 := z_f_ne rfl z_l0 c202
                          have b204 := Int32.toInt_lt x201
                          refine lv_iload hx hb dX12_pool_145 (lv_at hl 2 rfl) ?_
                          refine lv_aload_n hx hb dX12_pool_147 rfl (lv_at hl 8 rfl) ?_
                          refine z_get (T := TX12) (N := 96) (ci := 12) (i := 0) (v := .ref (ad 3)) hx hb hts zj_X12_pool_X12 hown hK hW rfl rfl 5 (by decide) (hts (.fieldLink RX12 16 "PetrolBoardModel" "seatsOf" "[I") (me_s (me_l (List.mem_of_getElem? (i := 5) rfl)))) (fun _ h => h) rfl dX12_pool_148 ?_
                          refine lv_aload_n hx hb dX12_pool_151 rfl (lv_at hl 8 rfl) ?_
                          refine z_get (T := TX12) (N := 96) (ci := 12) (i := 0) (v := .ref (ad 59)) hx hb hts zj_X12_pool_X12 hown hK hW rfl rfl 84 (by decide) (hts (.fieldLink RX12 193 "PetrolBoardModel" "jWho" "[I") (me_s (me_l (List.mem_of_getElem? (i := 6) rfl)))) (fun _ h => h) rfl dX12_pool_152 ?_
                          refine lv_aload_n hx hb dX12_pool_155 rfl (lv_at hl 8 rfl) ?_
                          refine z_get (T := TX12) (N := 96) (ci := 12) (i := 0) (v := .ref (ad 68)) hx hb hts zj_X12_pool_X12 hown hK hW rfl rfl 93 (by decide) (hts (.fieldLink RX12 220 "PetrolBoardModel" "pool" "[I") (me_s (me_l (List.mem_of_getElem? (i := 3) rfl)))) (fun _ h => h) rfl dX12_pool_156 ?_
                          refine lv_iload hx hb dX12_pool_159 (lv_at hl 0 rfl) ?_
                          refine z_iald (i := 68) hx hb hK hW rfl (z_ix rfl (by omega) (by omega)) dX12_pool_161 ?_
                          refine lv_topi (fun x205 ex205 => ?_)
                          have h206 : 0 ≤ x205.toInt ∧ x205.toInt ≤ 59 := by rw [ex205]; exact lp4Apl _
                          refine z_iald (i := 59) hx hb hK hW rfl (z_ix rfl (by omega) (by omega)) dX12_pool_162 ?_
                          refine lv_topi (fun x207 ex207 => ?_)
                          have h208 : 0 ≤ x207.toInt ∧ x207.toInt ≤ 29 := by rw [ex207]; exact lp4Ajw _
                          refine z_iald (i := 3) hx hb hK hW rfl (z_ix rfl (by omega) (by omega)) dX12_pool_163 ?_
                          refine lv_topi (fun x209 ex209 => ?_)
                          refine lv_iadd hx hb dX12_pool_164 ?_
                          refine lv_topi (fun x210 ex210 => ?_)
                          refine lv_istore (lv' := [(9, .int x210), (11, .int y149), (10, .int y150), (8, .int y122), (7, .int y123), (6, .int y124), (5, .int y6), (4, .int y7), (0, .ref (ad 0)), (1, .int a1), (2, .int a2), (3, .int a3)]) hx hb dX12_pool_165 hl (by decide) rfl (fun ls hl => ?_)
                          refine lv_iload hx hb dX12_pool_167 (lv_at hl 2 rfl) ?_
                          refine lv_aload_n hx hb dX12_pool_169 rfl (lv_at hl 8 rfl) ?_
                          refine z_get (T := TX12) (N := 96) (ci := 12) (i := 0) (v := .ref (ad 60)) hx hb hts zj_X12_pool_X12 hown hK hW rfl rfl 85 (by decide) (hts (.fieldLink RX12 196 "PetrolBoardModel" "jMiles" "[I") (me_s (me_l (List.mem_of_getElem? (i := 7) rfl)))) (fun _ h => h) rfl dX12_pool_170 ?_
                          refine lv_aload_n hx hb dX12_pool_173 rfl (lv_at hl 8 rfl) ?_
                          refine z_get (T := TX12) (N := 96) (ci := 12) (i := 0) (v := .ref (ad 68)) hx hb hts zj_X12_pool_X12 hown hK hW rfl rfl 93 (by decide) (hts (.fieldLink RX12 220 "PetrolBoardModel" "pool" "[I") (me_s (me_l (List.mem_of_getElem? (i := 3) rfl)))) (fun _ h => h) rfl dX12_pool_174 ?_
                          refine lv_iload hx hb dX12_pool_177 (lv_at hl 1 rfl) ?_
                          refine z_iald (i := 68) hx hb hK hW rfl (z_ix rfl (by omega) (by omega)) dX12_pool_179 ?_
                          refine z_topi (v := x205) ex205.symm ?_
                          refine z_iald (i := 60) hx hb hK hW rfl (z_ix rfl (by omega) (by omega)) dX12_pool_180 ?_
                          refine lv_topi (fun x211 ex211 => ?_)
                          refine lv_aload_n hx hb dX12_pool_181 rfl (lv_at hl 8 rfl) ?_
                          refine z_get (T := TX12) (N := 96) (ci := 12) (i := 0) (v := .ref (ad 1)) hx hb hts zj_X12_pool_X12 hown hK hW rfl rfl 3 (by decide) (hts (.fieldLink RX12 7 "PetrolBoardModel" "sizeOf" "[I") (me_s (me_l (List.mem_of_getElem? (i := 8) rfl)))) (fun _ h => h) rfl dX12_pool_182 ?_
                          refine lv_aload_n hx hb dX12_pool_185 rfl (lv_at hl 8 rfl) ?_
                          refine z_get (T := TX12) (N := 96) (ci := 12) (i := 0) (v := .ref (ad 59)) hx hb hts zj_X12_pool_X12 hown hK hW rfl rfl 84 (by decide) (hts (.fieldLink RX12 193 "PetrolBoardModel" "jWho" "[I") (me_s (me_l (List.mem_of_getElem? (i := 6) rfl)))) (fun _ h => h) rfl dX12_pool_186 ?_
                          refine lv_aload_n hx hb dX12_pool_189 rfl (lv_at hl 8 rfl) ?_
                          refine z_get (T := TX12) (N := 96) (ci := 12) (i := 0) (v := .ref (ad 68)) hx hb hts zj_X12_pool_X12 hown hK hW rfl rfl 93 (by decide) (hts (.fieldLink RX12 220 "PetrolBoardModel" "pool" "[I") (me_s (me_l (List.mem_of_getElem? (i := 3) rfl)))) (fun _ h => h) rfl dX12_pool_190 ?_
                          refine lv_iload hx hb dX12_pool_193 (lv_at hl 1 rfl) ?_
                          refine z_iald (i := 68) hx hb hK hW rfl (z_ix rfl (by omega) (by omega)) dX12_pool_195 ?_
                          refine z_topi (v := x205) ex205.symm ?_
                          refine z_iald (i := 59) hx hb hK hW rfl (z_ix rfl (by omega) (by omega)) dX12_pool_196 ?_
                          refine z_topi (v := x207) ex207.symm ?_
                          refine z_iald (i := 1) hx hb hK hW rfl (z_ix rfl (by omega) (by omega)) dX12_pool_197 ?_
                          refine lv_topi (fun x212 ex212 => ?_)
                          refine lv_imul hx hb dX12_pool_198 ?_
                          refine lv_topi (fun x213 ex213 => ?_)
                          refine lv_iadd hx hb dX12_pool_199 ?_
                          refine lv_topi (fun x214 ex214 => ?_)
                          refine lv_istore (lv' := [(10, .int x214), (9, .int x210), (11, .int y149), (8, .int y122), (7, .int y123), (6, .int y124), (5, .int y6), (4, .int y7), (0, .ref (ad 0)), (1, .int a1), (2, .int a2), (3, .int a3)]) hx hb dX12_pool_200 hl (by decide) rfl (fun ls hl => ?_)
                          obtain ⟨x215, ex215⟩ : ∃ y : Int32, y = y149 + 1 := ⟨_, rfl⟩
                          have tx215 : x215.toInt = y149.toInt + 1 := z_tadd ex215 rfl z_l1 (by omega) (by omega)
                          refine lv_iinc (v := x215) (lv' := [(11, .int x215), (10, .int x214), (9, .int x210), (8, .int y122), (7, .int y123), (6, .int y124), (5, .int y6), (4, .int y7), (0, .ref (ad 0)), (1, .int a1), (2, .int a2), (3, .int a3)]) hx hb dX12_pool_202 hl (k := 2) rfl (by rw [ex215]; rfl) (by decide) rfl (fun ls hl => ?_)
                          refine lv_goto (tgt := 125) hx hb dX12_pool_205 (by decide) ?_
                          exact lp148ih x215 x214 x210 _ _ _ (by omega) (by omega) hW hS (lv_sub hl [0, 1, 2, 3, 4, 5, 6, 7, 8, 9, 10, 11] rfl)
                        · have g216 := z_f_eq rfl z_l0 c202
                          have b217 := Int32.toInt_lt x201
                          refine lv_goto (tgt := 202) hx hb dX12_pool_142 (by decide) ?_
                          obtain ⟨x218, ex218⟩ : ∃ y : Int32, y = y149 + 1 := ⟨_, rfl⟩
                          have tx218 : x218.toInt = y149.toInt + 1 := z_tadd ex218 rfl z_l1 (by omega) (by omega)
                          refine lv_iinc (v := x218) (lv' := [(11, .int x218), (10, .int y150), (9, .int y151), (8, .int y122), (7, .int y123), (6, .int y124), (5, .int y6), (4, .int y7), (0, .ref (ad 0)), (1, .int a1), (2, .int a2), (3, .int a3)]) hx hb dX12_pool_202 hl (k := 0) rfl (by rw [ex218]; rfl) (by decide) rfl (fun ls hl => ?_)
                          refine lv_goto (tgt := 125) hx hb dX12_pool_205 (by decide) ?_
                          exact lp148ih x218 y150 y151 _ _ _ (by omega) (by omega) hW hS (lv_sub hl [0, 1, 2, 3, 4, 5, 6, 7, 8, 9, 10, 11] rfl)
                  exact lp148 4294967296 (0) (0) (0) _ _ _ (z_m0u _) (by rw [z_l0]; omega) hW hS (lv_sub hl [0, 1, 2, 3, 4, 5, 6, 7, 8, 9, 10, 11] rfl)
            exact lp121 4294967296 (1) (0) ((-1)) _ _ _ (z_m0u _) (by rw [z_l1]; omega) hW hS (lv_sub hl [0, 1, 2, 3, 4, 5, 6, 7, 8] rfl)
          · have g219 := z_f_nge rfl z_l12 c117
            refine lv_aload_n hx hb dX12_pool_36 rfl (lv_at hl 3 rfl) ?_
            refine z_get (T := TX12) (N := 96) (ci := 12) (i := 0) (v := .ref (ad 63)) hx hb hts zj_X12_pool_X12 hown hK hW rfl rfl 88 (by decide) (hts (.fieldLink RX12 205 "PetrolBoardModel" "jDay" "[I") (me_s (me_l (List.mem_of_getElem? (i := 1) rfl)))) (fun _ h => h) rfl dX12_pool_37 ?_
            refine lv_iload hx hb dX12_pool_40 (lv_at hl 0 rfl) ?_
            refine z_iald (i := 63) hx hb hK hW rfl (z_ix rfl (by omega) (by omega)) dX12_pool_42 ?_
            refine lv_topi (fun x220 ex220 => ?_)
            refine lv_iload_n hx hb dX12_pool_43 rfl (lv_at hl 4 rfl) ?_
            refine lv_icmp_ne (tgt := 85) hx hb dX12_pool_44 (by decide) (fun c221 => ?_) (fun c221 => ?_)
            · have g222 := z_f_ne rfl rfl c221
              have b223 := Int32.toInt_lt x220
              have b224 := Int32.toInt_lt a1
              obtain ⟨x225, ex225⟩ : ∃ y : Int32, y = y5 + 1 := ⟨_, rfl⟩
              have tx225 : x225.toInt = y5.toInt + 1 := z_tadd ex225 rfl z_l1 (by omega) (by omega)
              refine lv_iinc (v := x225) (lv' := [(6, .int x225), (5, .int y6), (4, .int y7), (0, .ref (ad 0)), (1, .int a1), (2, .int a2), (3, .int a3)]) hx hb dX12_pool_85 hl (k := 0) rfl (by rw [ex225]; rfl) (by decide) rfl (fun ls hl => ?_)
              refine lv_goto (tgt := 20) hx hb dX12_pool_88 (by decide) ?_
              exact lp4ih x225 y6 y7 I8 J9 _ _ _ (by omega) (by omega) (by omega) (by omega) ⟨(by show 0 ≤ (I8 0 0).toInt ∧ (I8 0 0).toInt ≤ 719; exact lp4ma.1), (by show 0 ≤ (I8 0 1).toInt ∧ (I8 0 1).toInt ≤ 30; exact lp4ma.2.1), (by show 0 ≤ (I8 0 2).toInt ∧ (I8 0 2).toInt ≤ 200; exact lp4ma.2.2)⟩ (by show 0 ≤ (I8 0 83).toInt ∧ (I8 0 83).toInt ≤ 60; exact lp4mj) lp4Apl lp4Ajw lp4fr hW hS (lv_sub hl [0, 1, 2, 3, 4, 5, 6] rfl)
            · have g226 := z_f_eq rfl rfl c221
              have b227 := Int32.toInt_lt x220
              have b228 := Int32.toInt_lt a1
              refine lv_aload_n hx hb dX12_pool_47 rfl (lv_at hl 3 rfl) ?_
              refine z_get (T := TX12) (N := 96) (ci := 12) (i := 0) (v := .ref (ad 64)) hx hb hts zj_X12_pool_X12 hown hK hW rfl rfl 89 (by decide) (hts (.fieldLink RX12 208 "PetrolBoardModel" "jWay" "[I") (me_s (me_l (List.mem_of_getElem? (i := 2) rfl)))) (fun _ h => h) rfl dX12_pool_48 ?_
              refine lv_iload hx hb dX12_pool_51 (lv_at hl 0 rfl) ?_
              refine z_iald (i := 64) hx hb hK hW rfl (z_ix rfl (by omega) (by omega)) dX12_pool_53 ?_
              refine lv_topi (fun x229 ex229 => ?_)
              refine lv_iload_n hx hb dX12_pool_54 rfl (lv_at hl 5 rfl) ?_
              refine lv_icmp_eq (tgt := 61) hx hb dX12_pool_55 (by decide) (fun c230 => ?_) (fun c230 => ?_)
              · have g231 := z_f_eq rfl rfl c230
                have b232 := Int32.toInt_lt x229
                have b233 := Int32.toInt_lt a2
                refine lv_aload_n hx hb dX12_pool_61 rfl (lv_at hl 3 rfl) ?_
                refine z_get (T := TX12) (N := 96) (ci := 12) (i := 0) (v := .ref (ad 68)) hx hb hts zj_X12_pool_X12 hown hK hW rfl rfl 93 (by decide) (hts (.fieldLink RX12 220 "PetrolBoardModel" "pool" "[I") (me_s (me_l (List.mem_of_getElem? (i := 3) rfl)))) (fun _ h => h) rfl dX12_pool_62 ?_
                refine lv_iload hx hb dX12_pool_65 (lv_at hl 2 rfl) ?_
                refine lv_iload hx hb dX12_pool_67 (lv_at hl 0 rfl) ?_
                refine z_iast (i := 68) hx hb hK hW hS rfl (z_ix rfl (by omega) (by omega)) dX12_pool_69 (fun H locs hz1 hW hS => ?_)
                obtain ⟨I234, eI234⟩ : ∃ K : z_I, K = z_up I8 68 y7.toNatClampNeg y5 := ⟨_, rfl⟩
                rw [← eI234] at hW
                have f235 := z_fr_a lp4fr (show z_wa L_X12_pool 68 = true by decide) eI234
                have a236 := z_rg_a lp4Apl (by omega) eI234
                have a237 := z_rg_n lp4Ajw (by decide) eI234
                refine lv_iload hx hb dX12_pool_70 (lv_at hl 1 rfl) ?_
                refine lv_aload_n hx hb dX12_pool_72 rfl (lv_at hl 3 rfl) ?_
                refine z_get (T := TX12) (N := 96) (ci := 12) (i := 0) (v := .ref (ad 61)) hx hb hts zj_X12_pool_X12 hown hK hW rfl rfl 86 (by decide) (hts (.fieldLink RX12 199 "PetrolBoardModel" "jPeople" "[I") (me_s (me_l (List.mem_of_getElem? (i := 4) rfl)))) (fun _ h => h) rfl dX12_pool_73 ?_
                refine lv_iload hx hb dX12_pool_76 (lv_at hl 0 rfl) ?_
                refine z_iald (i := 61) hx hb hK hW rfl (z_ix rfl (by omega) (by omega)) dX12_pool_78 ?_
                refine lv_topi (fun x238 ex238 => ?_)
                refine lv_iadd hx hb dX12_pool_79 ?_
                refine lv_topi (fun x239 ex239 => ?_)
                refine lv_istore (lv' := [(5, .int x239), (6, .int y5), (4, .int y7), (0, .ref (ad 0)), (1, .int a1), (2, .int a2), (3, .int a3)]) hx hb dX12_pool_80 hl (by decide) rfl (fun ls hl => ?_)
                obtain ⟨x240, ex240⟩ : ∃ y : Int32, y = y7 + 1 := ⟨_, rfl⟩
                have tx240 : x240.toInt = y7.toInt + 1 := z_tadd ex240 rfl z_l1 (by omega) (by omega)
                refine lv_iinc (v := x240) (lv' := [(4, .int x240), (5, .int x239), (6, .int y5), (0, .ref (ad 0)), (1, .int a1), (2, .int a2), (3, .int a3)]) hx hb dX12_pool_82 hl (k := 2) rfl (by rw [ex240]; rfl) (by decide) rfl (fun ls hl => ?_)
                obtain ⟨x241, ex241⟩ : ∃ y : Int32, y = y5 + 1 := ⟨_, rfl⟩
                have tx241 : x241.toInt = y5.toInt + 1 := z_tadd ex241 rfl z_l1 (by omega) (by omega)
                refine lv_iinc (v := x241) (lv' := [(6, .int x241), (4, .int x240), (5, .int x239), (0, .ref (ad 0)), (1, .int a1), (2, .int a2), (3, .int a3)]) hx hb dX12_pool_85 hl (k := 2) rfl (by rw [ex241]; rfl) (by decide) rfl (fun ls hl => ?_)
                refine lv_goto (tgt := 20) hx hb dX12_pool_88 (by decide) ?_
                exact lp4ih x241 x239 x240 I234 J9 _ _ _ (by omega) (by omega) (by omega) (by omega) ⟨(by show 0 ≤ (I234 0 0).toInt ∧ (I234 0 0).toInt ≤ 719; rw [eI234, z_up_n (by decide)]; exact lp4ma.1), (by show 0 ≤ (I234 0 1).toInt ∧ (I234 0 1).toInt ≤ 30; rw [eI234, z_up_n (by decide)]; exact lp4ma.2.1), (by show 0 ≤ (I234 0 2).toInt ∧ (I234 0 2).toInt ≤ 200; rw [eI234, z_up_n (by decide)]; exact lp4ma.2.2)⟩ (by show 0 ≤ (I234 0 83).toInt ∧ (I234 0 83).toInt ≤ 60; rw [eI234, z_up_n (by decide)]; exact lp4mj) a236 a237 f235 hW hS (lv_sub hl [0, 2, 1, 3, 4, 5, 6] rfl)
              · have g242 := z_f_ne rfl rfl c230
                have b243 := Int32.toInt_lt x229
                have b244 := Int32.toInt_lt a2
                refine lv_goto (tgt := 85) hx hb dX12_pool_58 (by decide) ?_
                obtain ⟨x245, ex245⟩ : ∃ y : Int32, y = y5 + 1 := ⟨_, rfl⟩
                have tx245 : x245.toInt = y5.toInt + 1 := z_tadd ex245 rfl z_l1 (by omega) (by omega)
                refine lv_iinc (v := x245) (lv' := [(6, .int x245), (5, .int y6), (4, .int y7), (0, .ref (ad 0)), (1, .int a1), (2, .int a2), (3, .int a3)]) hx hb dX12_pool_85 hl (k := 0) rfl (by rw [ex245]; rfl) (by decide) rfl (fun ls hl => ?_)
                refine lv_goto (tgt := 20) hx hb dX12_pool_88 (by decide) ?_
                exact lp4ih x245 y6 y7 I8 J9 _ _ _ (by omega) (by omega) (by omega) (by omega) ⟨(by show 0 ≤ (I8 0 0).toInt ∧ (I8 0 0).toInt ≤ 719; exact lp4ma.1), (by show 0 ≤ (I8 0 1).toInt ∧ (I8 0 1).toInt ≤ 30; exact lp4ma.2.1), (by show 0 ≤ (I8 0 2).toInt ∧ (I8 0 2).toInt ≤ 200; exact lp4ma.2.2)⟩ (by show 0 ≤ (I8 0 83).toInt ∧ (I8 0 83).toInt ≤ 60; exact lp4mj) lp4Apl lp4Ajw lp4fr hW hS (lv_sub hl [0, 1, 2, 3, 4, 5, 6] rfl)
    exact lp4 4294967296 (0) (0) (0) I J _ _ _ (z_m0u _) (by rw [z_l0]; omega) (by rw [z_l0]; omega) (by rw [z_l0]; omega) ⟨(by show 0 ≤ (I 0 0).toInt ∧ (I 0 0).toInt ≤ 719; exact hma.1), (by show 0 ≤ (I 0 1).toInt ∧ (I 0 1).toInt ≤ 30; exact hma.2.1), (by show 0 ≤ (I 0 2).toInt ∧ (I 0 2).toInt ≤ 200; exact hma.2.2)⟩ (by show 0 ≤ (I 0 83).toInt ∧ (I 0 83).toInt ≤ 60; exact hmj) hApl hAjw z_fr_0 hW hS (lv_sub hl [0, 1, 2, 3, 4, 5, 6] rfl)
  · refine lv_if_ne (tgt := 11) hx hb dX12_pool_6 (by decide) (fun c246 => absurd (by decide) c246) (fun c246 => ?_)
    refine lv_iconst (v := (-1)) hx hb dX12_pool_9 (by decide) ?_
    exact z_iret hx hb hr hK hS (Nat.le_of_ble_eq_true rfl) (Nat.le_of_ble_eq_true rfl) hlocks dX12_pool_10 (shM, ad, I, J, PM ad) hW ⟨I, J, rfl, ⟨(by show 0 ≤ (I 0 0).toInt ∧ (I 0 0).toInt ≤ 719; exact hma.1), (by show 0 ≤ (I 0 1).toInt ∧ (I 0 1).toInt ≤ 30; exact hma.2.1), (by show 0 ≤ (I 0 2).toInt ∧ (I 0 2).toInt ≤ 200; exact hma.2.2)⟩, (by show 0 ≤ (I 0 83).toInt ∧ (I 0 83).toInt ≤ 60; exact hmj), hApl, hAjw, z_fr_0⟩
set_option maxHeartbeats 8000000 in
set_option maxRecDepth 100000 in
theorem sx_X12_held (l : Launch) (G : z_G) (ad : Nat → Nat) (I : z_I) (J : z_J) (a1 : Int64) : z_Ml l yX12_held wsX12_held { frames := 1, cells := 0, slots := 0, locals := 12 } [.long a1] G (shM, ad, I, J, PM ad) (fun r u1 => u1 = (shM, ad, I, J, PM ad)) 0 0 := by
  intro sz
  refine z_headQ (cc := cX12_held) (maxL := 2) (ret := (some .long)) (by decide) rfl (Nat.le_of_ble_eq_true rfl) ?_
  intro p e s m below meth c0 ls hIn hK hsz hW hl
  obtain ⟨hx, hb, hr, hml, hown, hts, hlocks, hname⟩ := hIn
  subst hsz
  have hown : s.vm.findClass RX12 = some m.cls := hown
  have hA : ∀ q : Nat, s.heap.size ≤ q → z_A (shM, ad, I, J, PM ad) s.heap.size q := fun q h => Or.inr h
  generalize hAe : z_A (shM, ad, I, J, PM ad) s.heap.size = A at *
  have hS : va_S A s.heap s.heap [] := va_S.rf
  have hl : lv_has ls 2 [(0, .long a1)] := hl
  refine lv_lload_n hx hb dX12_held_0 rfl (lv_at hl 0 rfl) ?_
  refine lv_ldc2 (v := 1000000000) hx hb hown (hts (.constantLong RX12 423 (1000000000)) (me_s (List.mem_of_getElem? (i := 0) rfl))) dX12_held_1 ?_
  refine W.lcmp hx hb dX12_held_4 ?_
  refine lv_topi (fun x1 ex1 => ?_)
  have tx1 := z_tcmp ex1
  refine lv_if_le (tgt := 14) hx hb dX12_held_5 (by decide) (fun c2 => ?_) (fun c2 => ?_)
  · have g3 := z_f_le rfl z_l0 c2
    refine lv_lload_n hx hb dX12_held_14 rfl (lv_at hl 0 rfl) ?_
    refine lv_ldc2 (v := (-1000000000)) hx hb hown (hts (.constantLong RX12 425 (-1000000000)) (me_s (List.mem_of_getElem? (i := 1) rfl))) dX12_held_15 ?_
    refine W.lcmp hx hb dX12_held_18 ?_
    refine lv_topi (fun x4 ex4 => ?_)
    have tx4 := z_tcmp ex4
    refine lv_if_ge (tgt := 28) hx hb dX12_held_19 (by decide) (fun c5 => ?_) (fun c5 => ?_)
    · have g6 := z_f_ge rfl z_l0 c5
      refine lv_lload_n hx hb dX12_held_28 rfl (lv_at hl 0 rfl) ?_
      exact z_lret hx hb hr hK hS (Nat.le_of_ble_eq_true rfl) (Nat.le_of_ble_eq_true rfl) hlocks dX12_held_29 (shM, ad, I, J, PM ad) hW rfl
    · have g7 := z_f_nge rfl z_l0 c5
      refine lv_ldc2 (v := (-1000000000)) hx hb hown (hts (.constantLong RX12 425 (-1000000000)) (me_s (List.mem_of_getElem? (i := 1) rfl))) dX12_held_22 ?_
      refine lv_goto (tgt := 29) hx hb dX12_held_25 (by decide) ?_
      exact z_lret hx hb hr hK hS (Nat.le_of_ble_eq_true rfl) (Nat.le_of_ble_eq_true rfl) hlocks dX12_held_29 (shM, ad, I, J, PM ad) hW rfl
  · have g8 := z_f_nle rfl z_l0 c2
    refine lv_ldc2 (v := 1000000000) hx hb hown (hts (.constantLong RX12 423 (1000000000)) (me_s (List.mem_of_getElem? (i := 0) rfl))) dX12_held_8 ?_
    refine lv_goto (tgt := 29) hx hb dX12_held_11 (by decide) ?_
    exact z_lret hx hb hr hK hS (Nat.le_of_ble_eq_true rfl) (Nat.le_of_ble_eq_true rfl) hlocks dX12_held_29 (shM, ad, I, J, PM ad) hW rfl
noncomputable def L_X12_asked : z_L := [(30, 999)]
theorem zj_X12_asked_X12 : ∀ w ∈ wsX120, w ∈ wsX12_asked := fun w h => (List.mem_cons_of_mem _ (List.mem_append_right _ h))
set_option maxHeartbeats 8000000 in
set_option maxRecDepth 100000 in
theorem sx_X12_asked (l : Launch) (G : z_G) (ad : Nat → Nat) (I : z_I) (J : z_J) (a1 : Int32) (a2 : Int32) (a3 : Int32) (a4 : Int32) (a5 : Int32) (a6 : Int32) (q1 : 0 ≤ a1.toInt ∧ a1.toInt ≤ 29) : z_Mv l yX12_asked wsX12_asked { frames := 1, cells := 0, slots := 0, locals := 12 } [.ref (ad 0), .int a1, .int a2, .int a3, .int a4, .int a5, .int a6] G (shM, ad, I, J, PM ad) (fun u1 => ∃ (I1 : z_I) (J1 : z_J), u1 = (shM, ad, I1, J1, PM ad) ∧ z_fr L_X12_asked I1 I) 0 0 := by
  intro sz
  refine z_headQ (cc := cX12_asked) (maxL := 7) (ret := none) (by decide) rfl (Nat.le_of_ble_eq_true rfl) ?_
  intro p e s m below meth c0 ls hIn hK hsz hW hl
  obtain ⟨hx, hb, hr, hml, hown, hts, hlocks, hname⟩ := hIn
  subst hsz
  have hown : s.vm.findClass RX12 = some m.cls := hown
  have hA : ∀ q : Nat, s.heap.size ≤ q → z_A (shM, ad, I, J, PM ad) s.heap.size q := fun q h => Or.inr h
  generalize hAe : z_A (shM, ad, I, J, PM ad) s.heap.size = A at *
  have hS : va_S A s.heap s.heap [] := va_S.rf
  have hl : lv_has ls 7 [(0, .ref (ad 0)), (1, .int a1), (2, .int a2), (3, .int a3), (4, .int a4), (5, .int a5), (6, .int a6)] := hl
  refine lv_aload_n hx hb dX12_asked_0 rfl (lv_at hl 0 rfl) ?_
  refine z_get (T := TX12) (N := 96) (ci := 12) (i := 0) (v := .ref (ad 30)) hx hb hts zj_X12_asked_X12 hown hK hW rfl rfl 48 (by decide) (hts (.fieldLink RX12 103 "PetrolBoardModel" "asks" "[J") (me_s (me_l (List.mem_of_getElem? (i := 0) rfl)))) (fun _ h => h) rfl dX12_asked_1 ?_
  refine lv_iconst (v := 0) hx hb dX12_asked_4 (by decide) ?_
  refine lv_iload_n hx hb dX12_asked_5 rfl (lv_at hl 2 rfl) ?_
  refine lv_i2l (v := a2.toInt64) hx hb dX12_asked_6 rfl ?_
  refine lv_topl (fun w1 ew1 => ?_)
  refine z_last (i := 30) hx hb hK hW hS rfl (z_inl (by decide)) dX12_asked_7 (fun H locs hz1 hW hS => ?_)
  obtain ⟨J2, eJ2⟩ : ∃ K : z_J, K = z_up J 30 (0 : Int32).toNatClampNeg w1 := ⟨_, rfl⟩
  rw [← eJ2] at hW
  refine lv_aload_n hx hb dX12_asked_8 rfl (lv_at hl 0 rfl) ?_
  refine z_get (T := TX12) (N := 96) (ci := 12) (i := 0) (v := .ref (ad 30)) hx hb hts zj_X12_asked_X12 hown hK hW rfl rfl 48 (by decide) (hts (.fieldLink RX12 103 "PetrolBoardModel" "asks" "[J") (me_s (me_l (List.mem_of_getElem? (i := 0) rfl)))) (fun _ h => h) rfl dX12_asked_9 ?_
  refine lv_iconst (v := 1) hx hb dX12_asked_12 (by decide) ?_
  refine lv_aload_n hx hb dX12_asked_13 rfl (lv_at hl 0 rfl) ?_
  refine z_get (T := TX12) (N := 96) (ci := 12) (i := 0) (v := .ref (ad 1)) hx hb hts zj_X12_asked_X12 hown hK hW rfl rfl 3 (by decide) (hts (.fieldLink RX12 7 "PetrolBoardModel" "sizeOf" "[I") (me_s (me_l (List.mem_of_getElem? (i := 1) rfl)))) (fun _ h => h) rfl dX12_asked_14 ?_
  refine lv_iload_n hx hb dX12_asked_17 rfl (lv_at hl 1 rfl) ?_
  refine z_iald (i := 1) hx hb hK hW rfl (z_ix rfl (by omega) (by omega)) dX12_asked_18 ?_
  refine lv_topi (fun x3 ex3 => ?_)
  refine lv_i2l (v := x3.toInt64) hx hb dX12_asked_19 rfl ?_
  refine lv_topl (fun w4 ew4 => ?_)
  refine z_last (i := 30) hx hb hK hW hS rfl (z_inl (by decide)) dX12_asked_20 (fun H locs hz1 hW hS => ?_)
  obtain ⟨J5, eJ5⟩ : ∃ K : z_J, K = z_up J2 30 (1 : Int32).toNatClampNeg w4 := ⟨_, rfl⟩
  rw [← eJ5] at hW
  refine lv_aload_n hx hb dX12_asked_21 rfl (lv_at hl 0 rfl) ?_
  refine z_get (T := TX12) (N := 96) (ci := 12) (i := 0) (v := .ref (ad 30)) hx hb hts zj_X12_asked_X12 hown hK hW rfl rfl 48 (by decide) (hts (.fieldLink RX12 103 "PetrolBoardModel" "asks" "[J") (me_s (me_l (List.mem_of_getElem? (i := 0) rfl)))) (fun _ h => h) rfl dX12_asked_22 ?_
  refine lv_iconst (v := 2) hx hb dX12_asked_25 (by decide) ?_
  refine lv_aload_n hx hb dX12_asked_26 rfl (lv_at hl 0 rfl) ?_
  refine z_get (T := TX12) (N := 96) (ci := 12) (i := 0) (v := .ref (ad 2)) hx hb hts zj_X12_asked_X12 hown hK hW rfl rfl 4 (by decide) (hts (.fieldLink RX12 13 "PetrolBoardModel" "townOf" "[I") (me_s (me_l (List.mem_of_getElem? (i := 2) rfl)))) (fun _ h => h) rfl dX12_asked_27 ?_
  refine lv_iload_n hx hb dX12_asked_30 rfl (lv_at hl 1 rfl) ?_
  refine z_iald (i := 2) hx hb hK hW rfl (z_ix rfl (by omega) (by omega)) dX12_asked_31 ?_
  refine lv_topi (fun x6 ex6 => ?_)
  refine lv_i2l (v := x6.toInt64) hx hb dX12_asked_32 rfl ?_
  refine lv_topl (fun w7 ew7 => ?_)
  refine z_last (i := 30) hx hb hK hW hS rfl (z_inl (by decide)) dX12_asked_33 (fun H locs hz1 hW hS => ?_)
  obtain ⟨J8, eJ8⟩ : ∃ K : z_J, K = z_up J5 30 (2 : Int32).toNatClampNeg w7 := ⟨_, rfl⟩
  rw [← eJ8] at hW
  refine lv_aload_n hx hb dX12_asked_34 rfl (lv_at hl 0 rfl) ?_
  refine z_get (T := TX12) (N := 96) (ci := 12) (i := 0) (v := .ref (ad 30)) hx hb hts zj_X12_asked_X12 hown hK hW rfl rfl 48 (by decide) (hts (.fieldLink RX12 103 "PetrolBoardModel" "asks" "[J") (me_s (me_l (List.mem_of_getElem? (i := 0) rfl)))) (fun _ h => h) rfl dX12_asked_35 ?_
  refine lv_iconst (v := 3) hx hb dX12_asked_38 (by decide) ?_
  refine lv_iload_n hx hb dX12_asked_39 rfl (lv_at hl 3 rfl) ?_
  refine lv_i2l (v := a3.toInt64) hx hb dX12_asked_40 rfl ?_
  refine lv_topl (fun w9 ew9 => ?_)
  refine z_last (i := 30) hx hb hK hW hS rfl (z_inl (by decide)) dX12_asked_41 (fun H locs hz1 hW hS => ?_)
  obtain ⟨J10, eJ10⟩ : ∃ K : z_J, K = z_up J8 30 (3 : Int32).toNatClampNeg w9 := ⟨_, rfl⟩
  rw [← eJ10] at hW
  refine lv_aload_n hx hb dX12_asked_42 rfl (lv_at hl 0 rfl) ?_
  refine z_get (T := TX12) (N := 96) (ci := 12) (i := 0) (v := .ref (ad 30)) hx hb hts zj_X12_asked_X12 hown hK hW rfl rfl 48 (by decide) (hts (.fieldLink RX12 103 "PetrolBoardModel" "asks" "[J") (me_s (me_l (List.mem_of_getElem? (i := 0) rfl)))) (fun _ h => h) rfl dX12_asked_43 ?_
  refine lv_iconst (v := 4) hx hb dX12_asked_46 (by decide) ?_
  refine lv_iload hx hb dX12_asked_47 (lv_at hl 4 rfl) ?_
  refine lv_i2l (v := a4.toInt64) hx hb dX12_asked_49 rfl ?_
  refine lv_topl (fun w11 ew11 => ?_)
  refine z_last (i := 30) hx hb hK hW hS rfl (z_inl (by decide)) dX12_asked_50 (fun H locs hz1 hW hS => ?_)
  obtain ⟨J12, eJ12⟩ : ∃ K : z_J, K = z_up J10 30 (4 : Int32).toNatClampNeg w11 := ⟨_, rfl⟩
  rw [← eJ12] at hW
  refine lv_aload_n hx hb dX12_asked_51 rfl (lv_at hl 0 rfl) ?_
  refine z_get (T := TX12) (N := 96) (ci := 12) (i := 0) (v := .ref (ad 30)) hx hb hts zj_X12_asked_X12 hown hK hW rfl rfl 48 (by decide) (hts (.fieldLink RX12 103 "PetrolBoardModel" "asks" "[J") (me_s (me_l (List.mem_of_getElem? (i := 0) rfl)))) (fun _ h => h) rfl dX12_asked_52 ?_
  refine lv_iconst (v := 5) hx hb dX12_asked_55 (by decide) ?_
  refine lv_iload hx hb dX12_asked_56 (lv_at hl 5 rfl) ?_
  refine lv_i2l (v := a5.toInt64) hx hb dX12_asked_58 rfl ?_
  refine lv_topl (fun w13 ew13 => ?_)
  refine z_last (i := 30) hx hb hK hW hS rfl (z_inl (by decide)) dX12_asked_59 (fun H locs hz1 hW hS => ?_)
  obtain ⟨J14, eJ14⟩ : ∃ K : z_J, K = z_up J12 30 (5 : Int32).toNatClampNeg w13 := ⟨_, rfl⟩
  rw [← eJ14] at hW
  refine lv_aload_n hx hb dX12_asked_60 rfl (lv_at hl 0 rfl) ?_
  refine z_get (T := TX12) (N := 96) (ci := 12) (i := 0) (v := .ref (ad 30)) hx hb hts zj_X12_asked_X12 hown hK hW rfl rfl 48 (by decide) (hts (.fieldLink RX12 103 "PetrolBoardModel" "asks" "[J") (me_s (me_l (List.mem_of_getElem? (i := 0) rfl)))) (fun _ h => h) rfl dX12_asked_61 ?_
  refine lv_bipush (v := 6) hx hb dX12_asked_64 (by decide) ?_
  refine lv_iload hx hb dX12_asked_66 (lv_at hl 6 rfl) ?_
  refine lv_i2l (v := a6.toInt64) hx hb dX12_asked_68 rfl ?_
  refine lv_topl (fun w15 ew15 => ?_)
  refine z_last (i := 30) hx hb hK hW hS rfl (z_inl (by decide)) dX12_asked_69 (fun H locs hz1 hW hS => ?_)
  obtain ⟨J16, eJ16⟩ : ∃ K : z_J, K = z_up J14 30 (6 : Int32).toNatClampNeg w15 := ⟨_, rfl⟩
  rw [← eJ16] at hW
  exact z_vret hx hb hr hK hS (Nat.le_of_ble_eq_true rfl) (Nat.le_of_ble_eq_true rfl) hlocks dX12_asked_70 (shM, ad, I, J16, PM ad) hW ⟨I, J16, rfl, z_fr_0⟩
noncomputable def L_X12_works : z_L := [(24, 999)]
theorem zj_X12_works_X12 : ∀ w ∈ wsX120, w ∈ wsX12_works := fun w h => (List.mem_cons_of_mem _ (List.mem_append_right _ h))
set_option maxHeartbeats 8000000 in
set_option maxRecDepth 100000 in
theorem sx_X12_works (l : Launch) (G : z_G) (ad : Nat → Nat) (I : z_I) (J : z_J) (hNd : z_Nd I) (hAsf : z_rg 19 0 6200 I) (hAst : z_rg 20 0 6200 I) (a1 : Int32) (q1 : 0 ≤ a1.toInt ∧ a1.toInt ≤ 319) : z_Mv l yX12_works wsX12_works { frames := 2, cells := 0, slots := 0, locals := 33 } [.ref (ad 0), .int a1] G (shM, ad, I, J, PM ad) (fun u1 => ∃ (I1 : z_I) (J1 : z_J), u1 = (shM, ad, I1, J1, PM ad) ∧ z_Nd I1 ∧ z_rg 19 0 6200 I1 ∧ z_rg 20 0 6200 I1 ∧ z_fr L_X12_works I1 I) 0 0 := by
  intro sz
  refine z_headQ (cc := cX12_works) (maxL := 10) (ret := none) (by decide) rfl (Nat.le_of_ble_eq_true rfl) ?_
  intro p e s m below meth c0 ls hIn hK hsz hW hl
  obtain ⟨hx, hb, hr, hml, hown, hts, hlocks, hname⟩ := hIn
  subst hsz
  have hown : s.vm.findClass RX12 = some m.cls := hown
  have hA : ∀ q : Nat, s.heap.size ≤ q → z_A (shM, ad, I, J, PM ad) s.heap.size q := fun q h => Or.inr h
  generalize hAe : z_A (shM, ad, I, J, PM ad) s.heap.size = A at *
  have hS : va_S A s.heap s.heap [] := va_S.rf
  have hl : lv_has ls 10 [(0, .ref (ad 0)), (1, .int a1)] := hl
  refine lv_aload_n hx hb dX12_works_0 rfl (lv_at hl 0 rfl) ?_
  refine z_get (T := TX12) (N := 96) (ci := 12) (i := 0) (v := .ref (ad 19)) hx hb hts zj_X12_works_X12 hown hK hW rfl rfl 24 (by decide) (hts (.fieldLink RX12 64 "PetrolBoardModel" "stFrom" "[I") (me_s (me_l (List.mem_of_getElem? (i := 0) rfl)))) (fun _ h => h) rfl dX12_works_1 ?_
  refine lv_iload_n hx hb dX12_works_4 rfl (lv_at hl 1 rfl) ?_
  refine z_iald (i := 19) hx hb hK hW rfl (z_ix rfl (by omega) (by omega)) dX12_works_5 ?_
  refine lv_topi (fun x1 ex1 => ?_)
  have h2 : 0 ≤ x1.toInt ∧ x1.toInt ≤ 6200 := by rw [ex1]; exact hAsf _
  refine lv_istore_n (lv' := [(2, .int x1), (0, .ref (ad 0)), (1, .int a1)]) hx hb dX12_works_6 rfl hl (by decide) rfl (fun ls hl => ?_)
  have lp3 : ∀ (f : Nat) (y4 : Int32) (I5 : z_I) (J6 : z_J) (H : Heap) (locs : List Loc) (ls : Array Slot), (2147483647 < y4.toInt + (f : Int)) → (0 ≤ y4.toInt) → (z_Nd I5) → (z_rg 19 0 6200 I5) → (z_rg 20 0 6200 I5) → (x1.toInt ≤ y4.toInt) → (z_fr L_X12_works I5 I) → z_W G A (shM, ad, I5, J6, PM ad) H → va_S A s.heap H locs → lv_has ls 10 [(2, .int y4), (0, .ref (ad 0)), (1, .int a1)] → W p l e (headSpec wsX12_works { frames := 2, cells := 0, slots := 0, locals := 33 }).room s m ([.ref (ad 0), .int a1] : List Value).toArray below meth c0 H locs 0 0 (MQ below (va_Qv (fun (u1 : z_U) => ∃ (I1 : z_I) (J1 : z_J), u1 = (shM, ad, I1, J1, PM ad) ∧ z_Nd I1 ∧ z_rg 19 0 6200 I1 ∧ z_rg 20 0 6200 I1 ∧ z_fr L_X12_works I1 I) (z_B G A) A) ([.ref (ad 0), .int a1] : List Value).toArray s 0 0 A) (F0 m 7 ls []) := by
    intro f
    induction f with
    | zero => intro y4 I5 J6 H locs ls lp3m lp3l2 lp3Nd lp3Asf lp3Ast lp3z lp3fr hW hS hl; exact absurd lp3m (by have := Int32.toInt_lt y4; have := Int32.le_toInt y4; omega)
    | succ f lp3ih =>
      intro y4 I5 J6 H locs ls lp3m lp3l2 lp3Nd lp3Asf lp3Ast lp3z lp3fr hW hS hl
      refine lv_iload_n hx hb dX12_works_7 rfl (lv_at hl 0 rfl) ?_
      refine lv_aload_n hx hb dX12_works_8 rfl (lv_at hl 1 rfl) ?_
      refine z_get (T := TX12) (N := 96) (ci := 12) (i := 0) (v := .ref (ad 20)) hx hb hts zj_X12_works_X12 hown hK hW rfl rfl 25 (by decide) (hts (.fieldLink RX12 67 "PetrolBoardModel" "stTo" "[I") (me_s (me_l (List.mem_of_getElem? (i := 1) rfl)))) (fun _ h => h) rfl dX12_works_9 ?_
      refine lv_iload_n hx hb dX12_works_12 rfl (lv_at hl 2 rfl) ?_
      refine z_iald (i := 20) hx hb hK hW rfl (z_ix rfl (by omega) (by omega)) dX12_works_13 ?_
      refine lv_topi (fun x7 ex7 => ?_)
      have h8 : 0 ≤ x7.toInt ∧ x7.toInt ≤ 6200 := by rw [ex7]; exact lp3Ast _
      refine lv_icmp_ge (tgt := 400) hx hb dX12_works_14 (by decide) (fun c9 => ?_) (fun c9 => ?_)
      · have g10 := z_f_ge rfl rfl c9
        have b11 := Int32.toInt_lt y4
        exact z_vret hx hb hr hK hS (Nat.le_of_ble_eq_true rfl) (Nat.le_of_ble_eq_true rfl) hlocks dX12_works_400 (shM, ad, I5, J6, PM ad) hW ⟨I5, J6, rfl, lp3Nd, lp3Asf, lp3Ast, lp3fr⟩
      · have g12 := z_f_nge rfl rfl c9
        have b13 := Int32.toInt_lt y4
        refine lv_aload_n hx hb dX12_works_17 rfl (lv_at hl 1 rfl) ?_
        refine z_get (T := TX12) (N := 96) (ci := 12) (i := 0) (v := .ref (ad 21)) hx hb hts zj_X12_works_X12 hown hK hW rfl rfl 26 (by decide) (hts (.fieldLink RX12 70 "PetrolBoardModel" "nodeKind" "[I") (me_s (me_l (List.mem_of_getElem? (i := 2) rfl)))) (fun _ h => h) rfl dX12_works_18 ?_
        refine lv_iload_n hx hb dX12_works_21 rfl (lv_at hl 0 rfl) ?_
        refine z_iald (i := 21) hx hb hK hW rfl (z_ix rfl (by omega) (by omega)) dX12_works_22 ?_
        refine lv_topi (fun x14 ex14 => ?_)
        refine lv_istore_n (lv' := [(3, .int x14), (2, .int y4), (0, .ref (ad 0)), (1, .int a1)]) hx hb dX12_works_23 rfl hl (by decide) rfl (fun ls hl => ?_)
        refine lv_iload_n hx hb dX12_works_24 rfl (lv_at hl 0 rfl) ?_
        refine lv_iconst (v := 1) hx hb dX12_works_25 (by decide) ?_
        refine lv_icmp_le (tgt := 43) hx hb dX12_works_26 (by decide) (fun c15 => ?_) (fun c15 => ?_)
        · have g16 := z_f_le rfl z_l1 c15
          have b17 := Int32.toInt_lt x14
          refine lv_lconst (v := 0) hx hb dX12_works_43 (by decide) ?_
          refine lv_lstore (lv' := [(4, .long 0), (3, .int x14), (2, .int y4), (0, .ref (ad 0)), (1, .int a1)]) hx hb dX12_works_44 hl (by decide) rfl (fun ls hl => ?_)
          refine lv_iload_n hx hb dX12_works_46 rfl (lv_at hl 1 rfl) ?_
          refine lv_iconst (v := 1) hx hb dX12_works_47 (by decide) ?_
          refine lv_icmp_le (tgt := 71) hx hb dX12_works_48 (by decide) (fun c18 => ?_) (fun c18 => (by have g := z_f_nle rfl z_l1 c18; omega))
          have g19 := z_f_le rfl z_l1 c18
          refine lv_lconst (v := 0) hx hb dX12_works_71 (by decide) ?_
          refine lv_lstore (lv' := [(6, .long 0), (4, .long 0), (3, .int x14), (2, .int y4), (0, .ref (ad 0)), (1, .int a1)]) hx hb dX12_works_72 hl (by decide) rfl (fun ls hl => ?_)
          refine lv_lconst (v := 0) hx hb dX12_works_74 (by decide) ?_
          refine lv_lstore (lv' := [(8, .long 0), (6, .long 0), (4, .long 0), (3, .int x14), (2, .int y4), (0, .ref (ad 0)), (1, .int a1)]) hx hb dX12_works_75 hl (by decide) rfl (fun ls hl => ?_)
          refine lv_iload_n hx hb dX12_works_77 rfl (lv_at hl 3 rfl) ?_
          refine lv_if_ne (tgt := 93) hx hb dX12_works_78 (by decide) (fun c20 => ?_) (fun c20 => ?_)
          · have g21 := z_f_ne rfl z_l0 c20
            refine lv_iload_n hx hb dX12_works_93 rfl (lv_at hl 3 rfl) ?_
            refine lv_iconst (v := 1) hx hb dX12_works_94 (by decide) ?_
            refine lv_icmp_ne (tgt := 114) hx hb dX12_works_95 (by decide) (fun c22 => ?_) (fun c22 => ?_)
            · have g23 := z_f_ne rfl z_l1 c22
              refine lv_iload_n hx hb dX12_works_114 rfl (lv_at hl 3 rfl) ?_
              refine lv_iconst (v := 2) hx hb dX12_works_115 (by decide) ?_
              refine lv_icmp_ne (tgt := 129) hx hb dX12_works_116 (by decide) (fun c24 => ?_) (fun c24 => (by have g := z_f_eq rfl z_l2 c24; omega))
              have g25 := z_f_ne rfl z_l2 c24
              refine lv_iload_n hx hb dX12_works_129 rfl (lv_at hl 3 rfl) ?_
              refine lv_iconst (v := 3) hx hb dX12_works_130 (by decide) ?_
              refine lv_icmp_ne (tgt := 144) hx hb dX12_works_131 (by decide) (fun c26 => ?_) (fun c26 => (by have g := z_f_eq rfl z_l3 c26; omega))
              have g27 := z_f_ne rfl z_l3 c26
              refine lv_iload_n hx hb dX12_works_144 rfl (lv_at hl 3 rfl) ?_
              refine lv_iconst (v := 4) hx hb dX12_works_145 (by decide) ?_
              refine lv_icmp_ne (tgt := 159) hx hb dX12_works_146 (by decide) (fun c28 => ?_) (fun c28 => (by have g := z_f_eq rfl z_l4 c28; omega))
              have g29 := z_f_ne rfl z_l4 c28
              refine lv_iload_n hx hb dX12_works_159 rfl (lv_at hl 3 rfl) ?_
              refine lv_iconst (v := 5) hx hb dX12_works_160 (by decide) ?_
              refine lv_icmp_ne (tgt := 185) hx hb dX12_works_161 (by decide) (fun c30 => ?_) (fun c30 => (by have g := z_f_eq rfl z_l5 c30; omega))
              have g31 := z_f_ne rfl z_l5 c30
              refine lv_iload_n hx hb dX12_works_185 rfl (lv_at hl 3 rfl) ?_
              refine lv_bipush (v := 6) hx hb dX12_works_186 (by decide) ?_
              refine lv_icmp_ne (tgt := 211) hx hb dX12_works_188 (by decide) (fun c32 => ?_) (fun c32 => (by have g := z_f_eq rfl z_l6 c32; omega))
              have g33 := z_f_ne rfl z_l6 c32
              refine lv_iload_n hx hb dX12_works_211 rfl (lv_at hl 3 rfl) ?_
              refine lv_bipush (v := 7) hx hb dX12_works_212 (by decide) ?_
              refine lv_icmp_ne (tgt := 237) hx hb dX12_works_214 (by decide) (fun c34 => ?_) (fun c34 => (by have g := z_f_eq rfl z_l7 c34; omega))
              have g35 := z_f_ne rfl z_l7 c34
              refine lv_iload_n hx hb dX12_works_237 rfl (lv_at hl 3 rfl) ?_
              refine lv_bipush (v := 8) hx hb dX12_works_238 (by decide) ?_
              refine lv_icmp_ne (tgt := 261) hx hb dX12_works_240 (by decide) (fun c36 => ?_) (fun c36 => (by have g := z_f_eq rfl z_l8 c36; omega))
              have g37 := z_f_ne rfl z_l8 c36
              refine lv_iload_n hx hb dX12_works_261 rfl (lv_at hl 3 rfl) ?_
              refine lv_bipush (v := 9) hx hb dX12_works_262 (by decide) ?_
              refine lv_icmp_ne (tgt := 285) hx hb dX12_works_264 (by decide) (fun c38 => ?_) (fun c38 => (by have g := z_f_eq rfl z_l9 c38; omega))
              have g39 := z_f_ne rfl z_l9 c38
              refine lv_iload_n hx hb dX12_works_285 rfl (lv_at hl 3 rfl) ?_
              refine lv_bipush (v := 10) hx hb dX12_works_286 (by decide) ?_
              refine lv_icmp_ne (tgt := 309) hx hb dX12_works_288 (by decide) (fun c40 => ?_) (fun c40 => (by have g := z_f_eq rfl z_l10 c40; omega))
              have g41 := z_f_ne rfl z_l10 c40
              refine lv_iload_n hx hb dX12_works_309 rfl (lv_at hl 3 rfl) ?_
              refine lv_bipush (v := 11) hx hb dX12_works_310 (by decide) ?_
              refine lv_icmp_ne (tgt := 332) hx hb dX12_works_312 (by decide) (fun c42 => ?_) (fun c42 => (by have g := z_f_eq rfl z_l11 c42; omega))
              have g43 := z_f_ne rfl z_l11 c42
              refine lv_iload_n hx hb dX12_works_332 rfl (lv_at hl 3 rfl) ?_
              refine lv_bipush (v := 12) hx hb dX12_works_333 (by decide) ?_
              refine lv_icmp_ne (tgt := 362) hx hb dX12_works_335 (by decide) (fun c44 => ?_) (fun c44 => (by have g := z_f_eq rfl z_l12 c44; omega))
              have g45 := z_f_ne rfl z_l12 c44
              refine lv_lload hx hb dX12_works_362 (lv_at hl 2 rfl) ?_
              refine lv_lconst (v := 0) hx hb dX12_works_364 (by decide) ?_
              refine W.lcmp hx hb dX12_works_365 ?_
              refine lv_topi (fun x46 ex46 => ?_)
              have tx46 := z_tcmp ex46
              refine lv_if_ne (tgt := 376) hx hb dX12_works_366 (by decide) (fun c47 => ?_) (fun c47 => ?_)
              · have g48 := z_f_ne rfl z_l0 c47
                refine lv_lconst (v := 1) hx hb dX12_works_376 (by decide) ?_
                refine lv_goto (tgt := 381) hx hb dX12_works_377 (by decide) ?_
                refine lv_lstore (lv' := [(8, .long 1), (6, .long 0), (4, .long 0), (3, .int x14), (2, .int y4), (0, .ref (ad 0)), (1, .int a1)]) hx hb dX12_works_381 hl (by decide) rfl (fun ls hl => ?_)
                refine lv_aload_n hx hb dX12_works_383 rfl (lv_at hl 5 rfl) ?_
                refine z_get (T := TX12) (N := 96) (ci := 12) (i := 0) (v := .ref (ad 24)) hx hb hts zj_X12_works_X12 hown hK hW rfl rfl 29 (by decide) (hts (.fieldLink RX12 79 "PetrolBoardModel" "result" "[J") (me_s (me_l (List.mem_of_getElem? (i := 3) rfl)))) (fun _ h => h) rfl dX12_works_384 ?_
                refine lv_iload_n hx hb dX12_works_387 rfl (lv_at hl 4 rfl) ?_
                refine lv_lload hx hb dX12_works_388 (lv_at hl 0 rfl) ?_
                refine z_cl hW hS hA (va_runS (As := [.long 1]) (rest := [.int y4, .ref (ad 24)]) ⟨hx, hb, hml, hown, hts⟩ (sx_X12_held l G ad I5 J6  1 _) (va_cwS 1 hts gX12_works_X12_held rfl rfl rfl hy_X12_held.2 ⟨Nat.le_of_ble_eq_true rfl, Nat.le_of_ble_eq_true rfl⟩) (z_preS hK hW) rfl rfl hl.1 rfl (lv_room (Nat.le_of_ble_eq_true rfl)) dX12_works_390 ⟨Nat.le_of_ble_eq_true rfl, Nat.le_of_ble_eq_true rfl⟩) (fun r u1 H locs hp hW hS => ?_)
                rw [hp] at hW
                refine lv_topl (fun x49 ex49 => ?_)
                refine z_last (i := 24) hx hb hK hW hS rfl (z_ix rfl (by omega) (by omega)) dX12_works_393 (fun H locs hz1 hW hS => ?_)
                obtain ⟨J50, eJ50⟩ : ∃ K : z_J, K = z_up J6 24 y4.toNatClampNeg x49 := ⟨_, rfl⟩
                rw [← eJ50] at hW
                obtain ⟨x51, ex51⟩ : ∃ y : Int32, y = y4 + 1 := ⟨_, rfl⟩
                have tx51 : x51.toInt = y4.toInt + 1 := z_tadd ex51 rfl z_l1 (by omega) (by omega)
                refine lv_iinc (v := x51) (lv' := [(2, .int x51), (8, .long 1), (6, .long 0), (4, .long 0), (3, .int x14), (0, .ref (ad 0)), (1, .int a1)]) hx hb dX12_works_394 hl (k := 4) rfl (by rw [ex51]; rfl) (by decide) rfl (fun ls hl => ?_)
                refine lv_goto (tgt := 7) hx hb dX12_works_397 (by decide) ?_
                exact lp3ih x51 I5 J50 _ _ _ (by omega) (by omega) lp3Nd lp3Asf lp3Ast (by omega) lp3fr hW hS (lv_sub hl [0, 5, 6] rfl)
              · have g52 := z_f_eq rfl z_l0 c47
                refine lv_lload hx hb dX12_works_369 (lv_at hl 1 rfl) ?_
                refine lv_lconst (v := 0) hx hb dX12_works_371 (by decide) ?_
                refine W.lcmp hx hb dX12_works_372 ?_
                refine lv_topi (fun x53 ex53 => ?_)
                have tx53 := z_tcmp ex53
                refine lv_if_eq (tgt := 380) hx hb dX12_works_373 (by decide) (fun c54 => ?_) (fun c54 => ?_)
                · have g55 := z_f_eq rfl z_l0 c54
                  refine lv_lconst (v := 0) hx hb dX12_works_380 (by decide) ?_
                  refine lv_lstore (lv' := [(8, .long 0), (6, .long 0), (4, .long 0), (3, .int x14), (2, .int y4), (0, .ref (ad 0)), (1, .int a1)]) hx hb dX12_works_381 hl (by decide) rfl (fun ls hl => ?_)
                  refine lv_aload_n hx hb dX12_works_383 rfl (lv_at hl 5 rfl) ?_
                  refine z_get (T := TX12) (N := 96) (ci := 12) (i := 0) (v := .ref (ad 24)) hx hb hts zj_X12_works_X12 hown hK hW rfl rfl 29 (by decide) (hts (.fieldLink RX12 79 "PetrolBoardModel" "result" "[J") (me_s (me_l (List.mem_of_getElem? (i := 3) rfl)))) (fun _ h => h) rfl dX12_works_384 ?_
                  refine lv_iload_n hx hb dX12_works_387 rfl (lv_at hl 4 rfl) ?_
                  refine lv_lload hx hb dX12_works_388 (lv_at hl 0 rfl) ?_
                  refine z_cl hW hS hA (va_runS (As := [.long 0]) (rest := [.int y4, .ref (ad 24)]) ⟨hx, hb, hml, hown, hts⟩ (sx_X12_held l G ad I5 J6  0 _) (va_cwS 1 hts gX12_works_X12_held rfl rfl rfl hy_X12_held.2 ⟨Nat.le_of_ble_eq_true rfl, Nat.le_of_ble_eq_true rfl⟩) (z_preS hK hW) rfl rfl hl.1 rfl (lv_room (Nat.le_of_ble_eq_true rfl)) dX12_works_390 ⟨Nat.le_of_ble_eq_true rfl, Nat.le_of_ble_eq_true rfl⟩) (fun r u1 H locs hp hW hS => ?_)
                  rw [hp] at hW
                  refine lv_topl (fun x56 ex56 => ?_)
                  refine z_last (i := 24) hx hb hK hW hS rfl (z_ix rfl (by omega) (by omega)) dX12_works_393 (fun H locs hz1 hW hS => ?_)
                  obtain ⟨J57, eJ57⟩ : ∃ K : z_J, K = z_up J6 24 y4.toNatClampNeg x56 := ⟨_, rfl⟩
                  rw [← eJ57] at hW
                  obtain ⟨x58, ex58⟩ : ∃ y : Int32, y = y4 + 1 := ⟨_, rfl⟩
                  have tx58 : x58.toInt = y4.toInt + 1 := z_tadd ex58 rfl z_l1 (by omega) (by omega)
                  refine lv_iinc (v := x58) (lv' := [(2, .int x58), (8, .long 0), (6, .long 0), (4, .long 0), (3, .int x14), (0, .ref (ad 0)), (1, .int a1)]) hx hb dX12_works_394 hl (k := 4) rfl (by rw [ex58]; rfl) (by decide) rfl (fun ls hl => ?_)
                  refine lv_goto (tgt := 7) hx hb dX12_works_397 (by decide) ?_
                  exact lp3ih x58 I5 J57 _ _ _ (by omega) (by omega) lp3Nd lp3Asf lp3Ast (by omega) lp3fr hW hS (lv_sub hl [0, 5, 6] rfl)
                · have g59 := z_f_ne rfl z_l0 c54
                  refine lv_lconst (v := 1) hx hb dX12_works_376 (by decide) ?_
                  refine lv_goto (tgt := 381) hx hb dX12_works_377 (by decide) ?_
                  refine lv_lstore (lv' := [(8, .long 1), (6, .long 0), (4, .long 0), (3, .int x14), (2, .int y4), (0, .ref (ad 0)), (1, .int a1)]) hx hb dX12_works_381 hl (by decide) rfl (fun ls hl => ?_)
                  refine lv_aload_n hx hb dX12_works_383 rfl (lv_at hl 5 rfl) ?_
                  refine z_get (T := TX12) (N := 96) (ci := 12) (i := 0) (v := .ref (ad 24)) hx hb hts zj_X12_works_X12 hown hK hW rfl rfl 29 (by decide) (hts (.fieldLink RX12 79 "PetrolBoardModel" "result" "[J") (me_s (me_l (List.mem_of_getElem? (i := 3) rfl)))) (fun _ h => h) rfl dX12_works_384 ?_
                  refine lv_iload_n hx hb dX12_works_387 rfl (lv_at hl 4 rfl) ?_
                  refine lv_lload hx hb dX12_works_388 (lv_at hl 0 rfl) ?_
                  refine z_cl hW hS hA (va_runS (As := [.long 1]) (rest := [.int y4, .ref (ad 24)]) ⟨hx, hb, hml, hown, hts⟩ (sx_X12_held l G ad I5 J6  1 _) (va_cwS 1 hts gX12_works_X12_held rfl rfl rfl hy_X12_held.2 ⟨Nat.le_of_ble_eq_true rfl, Nat.le_of_ble_eq_true rfl⟩) (z_preS hK hW) rfl rfl hl.1 rfl (lv_room (Nat.le_of_ble_eq_true rfl)) dX12_works_390 ⟨Nat.le_of_ble_eq_true rfl, Nat.le_of_ble_eq_true rfl⟩) (fun r u1 H locs hp hW hS => ?_)
                  rw [hp] at hW
                  refine lv_topl (fun x60 ex60 => ?_)
                  refine z_last (i := 24) hx hb hK hW hS rfl (z_ix rfl (by omega) (by omega)) dX12_works_393 (fun H locs hz1 hW hS => ?_)
                  obtain ⟨J61, eJ61⟩ : ∃ K : z_J, K = z_up J6 24 y4.toNatClampNeg x60 := ⟨_, rfl⟩
                  rw [← eJ61] at hW
                  obtain ⟨x62, ex62⟩ : ∃ y : Int32, y = y4 + 1 := ⟨_, rfl⟩
                  have tx62 : x62.toInt = y4.toInt + 1 := z_tadd ex62 rfl z_l1 (by omega) (by omega)
                  refine lv_iinc (v := x62) (lv' := [(2, .int x62), (8, .long 1), (6, .long 0), (4, .long 0), (3, .int x14), (0, .ref (ad 0)), (1, .int a1)]) hx hb dX12_works_394 hl (k := 4) rfl (by rw [ex62]; rfl) (by decide) rfl (fun ls hl => ?_)
                  refine lv_goto (tgt := 7) hx hb dX12_works_397 (by decide) ?_
                  exact lp3ih x62 I5 J61 _ _ _ (by omega) (by omega) lp3Nd lp3Asf lp3Ast (by omega) lp3fr hW hS (lv_sub hl [0, 5, 6] rfl)
            · have g63 := z_f_eq rfl z_l1 c22
              refine lv_aload_n hx hb dX12_works_98 rfl (lv_at hl 5 rfl) ?_
              refine z_get (T := TX12) (N := 96) (ci := 12) (i := 0) (v := .ref (ad 30)) hx hb hts zj_X12_works_X12 hown hK hW rfl rfl 48 (by decide) (hts (.fieldLink RX12 103 "PetrolBoardModel" "asks" "[J") (me_s (me_l (List.mem_of_getElem? (i := 6) rfl)))) (fun _ h => h) rfl dX12_works_99 ?_
              refine lv_aload_n hx hb dX12_works_102 rfl (lv_at hl 5 rfl) ?_
              refine z_get (T := TX12) (N := 96) (ci := 12) (i := 0) (v := .ref (ad 22)) hx hb hts zj_X12_works_X12 hown hK hW rfl rfl 27 (by decide) (hts (.fieldLink RX12 73 "PetrolBoardModel" "nodeA" "[I") (me_s (me_l (List.mem_of_getElem? (i := 4) rfl)))) (fun _ h => h) rfl dX12_works_103 ?_
              refine lv_iload_n hx hb dX12_works_106 rfl (lv_at hl 4 rfl) ?_
              refine z_iald (i := 22) hx hb hK hW rfl (z_ix rfl (by omega) (by omega)) dX12_works_107 ?_
              refine lv_topi (fun x64 ex64 => ?_)
              have h65 := lp3Nd (y4 : Int32).toNatClampNeg
              rw [← ex14, ← ex64] at h65
              refine z_lald (i := 30) hx hb hK hW rfl (z_ix rfl (by omega) (by omega)) dX12_works_108 ?_
              refine lv_topl (fun w66 ew66 => ?_)
              refine lv_lstore (lv' := [(8, .long w66), (6, .long 0), (4, .long 0), (3, .int x14), (2, .int y4), (0, .ref (ad 0)), (1, .int a1)]) hx hb dX12_works_109 hl (by decide) rfl (fun ls hl => ?_)
              refine lv_goto (tgt := 383) hx hb dX12_works_111 (by decide) ?_
              refine lv_aload_n hx hb dX12_works_383 rfl (lv_at hl 5 rfl) ?_
              refine z_get (T := TX12) (N := 96) (ci := 12) (i := 0) (v := .ref (ad 24)) hx hb hts zj_X12_works_X12 hown hK hW rfl rfl 29 (by decide) (hts (.fieldLink RX12 79 "PetrolBoardModel" "result" "[J") (me_s (me_l (List.mem_of_getElem? (i := 3) rfl)))) (fun _ h => h) rfl dX12_works_384 ?_
              refine lv_iload_n hx hb dX12_works_387 rfl (lv_at hl 4 rfl) ?_
              refine lv_lload hx hb dX12_works_388 (lv_at hl 0 rfl) ?_
              refine z_cl hW hS hA (va_runS (As := [.long w66]) (rest := [.int y4, .ref (ad 24)]) ⟨hx, hb, hml, hown, hts⟩ (sx_X12_held l G ad I5 J6  w66 _) (va_cwS 1 hts gX12_works_X12_held rfl rfl rfl hy_X12_held.2 ⟨Nat.le_of_ble_eq_true rfl, Nat.le_of_ble_eq_true rfl⟩) (z_preS hK hW) rfl rfl hl.1 rfl (lv_room (Nat.le_of_ble_eq_true rfl)) dX12_works_390 ⟨Nat.le_of_ble_eq_true rfl, Nat.le_of_ble_eq_true rfl⟩) (fun r u1 H locs hp hW hS => ?_)
              rw [hp] at hW
              refine lv_topl (fun x67 ex67 => ?_)
              refine z_last (i := 24) hx hb hK hW hS rfl (z_ix rfl (by omega) (by omega)) dX12_works_393 (fun H locs hz1 hW hS => ?_)
              obtain ⟨J68, eJ68⟩ : ∃ K : z_J, K = z_up J6 24 y4.toNatClampNeg x67 := ⟨_, rfl⟩
              rw [← eJ68] at hW
              obtain ⟨x69, ex69⟩ : ∃ y : Int32, y = y4 + 1 := ⟨_, rfl⟩
              have tx69 : x69.toInt = y4.toInt + 1 := z_tadd ex69 rfl z_l1 (by omega) (by omega)
              refine lv_iinc (v := x69) (lv' := [(2, .int x69), (8, .long w66), (6, .long 0), (4, .long 0), (3, .int x14), (0, .ref (ad 0)), (1, .int a1)]) hx hb dX12_works_394 hl (k := 4) rfl (by rw [ex69]; rfl) (by decide) rfl (fun ls hl => ?_)
              refine lv_goto (tgt := 7) hx hb dX12_works_397 (by decide) ?_
              exact lp3ih x69 I5 J68 _ _ _ (by omega) (by omega) lp3Nd lp3Asf lp3Ast (by omega) lp3fr hW hS (lv_sub hl [0, 5, 6] rfl)
          · have g70 := z_f_eq rfl z_l0 c20
            refine lv_aload_n hx hb dX12_works_81 rfl (lv_at hl 5 rfl) ?_
            refine z_get (T := TX12) (N := 96) (ci := 12) (i := 0) (v := .ref (ad 22)) hx hb hts zj_X12_works_X12 hown hK hW rfl rfl 27 (by decide) (hts (.fieldLink RX12 73 "PetrolBoardModel" "nodeA" "[I") (me_s (me_l (List.mem_of_getElem? (i := 4) rfl)))) (fun _ h => h) rfl dX12_works_82 ?_
            refine lv_iload_n hx hb dX12_works_85 rfl (lv_at hl 4 rfl) ?_
            refine z_iald (i := 22) hx hb hK hW rfl (z_ix rfl (by omega) (by omega)) dX12_works_86 ?_
            refine lv_topi (fun x71 ex71 => ?_)
            have h72 := lp3Nd (y4 : Int32).toNatClampNeg
            rw [← ex14, ← ex71] at h72
            refine lv_i2l (v := x71.toInt64) hx hb dX12_works_87 rfl ?_
            refine lv_topl (fun w73 ew73 => ?_)
            refine lv_lstore (lv' := [(8, .long w73), (6, .long 0), (4, .long 0), (3, .int x14), (2, .int y4), (0, .ref (ad 0)), (1, .int a1)]) hx hb dX12_works_88 hl (by decide) rfl (fun ls hl => ?_)
            refine lv_goto (tgt := 383) hx hb dX12_works_90 (by decide) ?_
            refine lv_aload_n hx hb dX12_works_383 rfl (lv_at hl 5 rfl) ?_
            refine z_get (T := TX12) (N := 96) (ci := 12) (i := 0) (v := .ref (ad 24)) hx hb hts zj_X12_works_X12 hown hK hW rfl rfl 29 (by decide) (hts (.fieldLink RX12 79 "PetrolBoardModel" "result" "[J") (me_s (me_l (List.mem_of_getElem? (i := 3) rfl)))) (fun _ h => h) rfl dX12_works_384 ?_
            refine lv_iload_n hx hb dX12_works_387 rfl (lv_at hl 4 rfl) ?_
            refine lv_lload hx hb dX12_works_388 (lv_at hl 0 rfl) ?_
            refine z_cl hW hS hA (va_runS (As := [.long w73]) (rest := [.int y4, .ref (ad 24)]) ⟨hx, hb, hml, hown, hts⟩ (sx_X12_held l G ad I5 J6  w73 _) (va_cwS 1 hts gX12_works_X12_held rfl rfl rfl hy_X12_held.2 ⟨Nat.le_of_ble_eq_true rfl, Nat.le_of_ble_eq_true rfl⟩) (z_preS hK hW) rfl rfl hl.1 rfl (lv_room (Nat.le_of_ble_eq_true rfl)) dX12_works_390 ⟨Nat.le_of_ble_eq_true rfl, Nat.le_of_ble_eq_true rfl⟩) (fun r u1 H locs hp hW hS => ?_)
            rw [hp] at hW
            refine lv_topl (fun x74 ex74 => ?_)
            refine z_last (i := 24) hx hb hK hW hS rfl (z_ix rfl (by omega) (by omega)) dX12_works_393 (fun H locs hz1 hW hS => ?_)
            obtain ⟨J75, eJ75⟩ : ∃ K : z_J, K = z_up J6 24 y4.toNatClampNeg x74 := ⟨_, rfl⟩
            rw [← eJ75] at hW
            obtain ⟨x76, ex76⟩ : ∃ y : Int32, y = y4 + 1 := ⟨_, rfl⟩
            have tx76 : x76.toInt = y4.toInt + 1 := z_tadd ex76 rfl z_l1 (by omega) (by omega)
            refine lv_iinc (v := x76) (lv' := [(2, .int x76), (8, .long w73), (6, .long 0), (4, .long 0), (3, .int x14), (0, .ref (ad 0)), (1, .int a1)]) hx hb dX12_works_394 hl (k := 4) rfl (by rw [ex76]; rfl) (by decide) rfl (fun ls hl => ?_)
            refine lv_goto (tgt := 7) hx hb dX12_works_397 (by decide) ?_
            exact lp3ih x76 I5 J75 _ _ _ (by omega) (by omega) lp3Nd lp3Asf lp3Ast (by omega) lp3fr hW hS (lv_sub hl [0, 5, 6] rfl)
        · have g77 := z_f_nle rfl z_l1 c15
          have b78 := Int32.toInt_lt x14
          refine lv_aload_n hx hb dX12_works_29 rfl (lv_at hl 2 rfl) ?_
          refine z_get (T := TX12) (N := 96) (ci := 12) (i := 0) (v := .ref (ad 24)) hx hb hts zj_X12_works_X12 hown hK hW rfl rfl 29 (by decide) (hts (.fieldLink RX12 79 "PetrolBoardModel" "result" "[J") (me_s (me_l (List.mem_of_getElem? (i := 3) rfl)))) (fun _ h => h) rfl dX12_works_30 ?_
          refine lv_aload_n hx hb dX12_works_33 rfl (lv_at hl 2 rfl) ?_
          refine z_get (T := TX12) (N := 96) (ci := 12) (i := 0) (v := .ref (ad 22)) hx hb hts zj_X12_works_X12 hown hK hW rfl rfl 27 (by decide) (hts (.fieldLink RX12 73 "PetrolBoardModel" "nodeA" "[I") (me_s (me_l (List.mem_of_getElem? (i := 4) rfl)))) (fun _ h => h) rfl dX12_works_34 ?_
          refine lv_iload_n hx hb dX12_works_37 rfl (lv_at hl 1 rfl) ?_
          refine z_iald (i := 22) hx hb hK hW rfl (z_ix rfl (by omega) (by omega)) dX12_works_38 ?_
          refine lv_topi (fun x79 ex79 => ?_)
          have h80 := lp3Nd (y4 : Int32).toNatClampNeg
          rw [← ex14, ← ex79] at h80
          refine z_lald (i := 24) hx hb hK hW rfl (z_ix rfl (by omega) (by omega)) dX12_works_39 ?_
          refine lv_topl (fun w81 ew81 => ?_)
          refine lv_goto (tgt := 44) hx hb dX12_works_40 (by decide) ?_
          refine lv_lstore (lv' := [(4, .long w81), (3, .int x14), (2, .int y4), (0, .ref (ad 0)), (1, .int a1)]) hx hb dX12_works_44 hl (by decide) rfl (fun ls hl => ?_)
          refine lv_iload_n hx hb dX12_works_46 rfl (lv_at hl 1 rfl) ?_
          refine lv_iconst (v := 1) hx hb dX12_works_47 (by decide) ?_
          refine lv_icmp_le (tgt := 71) hx hb dX12_works_48 (by decide) (fun c82 => (by have g := z_f_le rfl z_l1 c82; omega)) (fun c82 => ?_)
          have g83 := z_f_nle rfl z_l1 c82
          refine lv_iload_n hx hb dX12_works_51 rfl (lv_at hl 1 rfl) ?_
          refine lv_bipush (v := 11) hx hb dX12_works_52 (by decide) ?_
          refine lv_icmp_eq (tgt := 71) hx hb dX12_works_54 (by decide) (fun c84 => ?_) (fun c84 => ?_)
          · have g85 := z_f_eq rfl z_l11 c84
            refine lv_lconst (v := 0) hx hb dX12_works_71 (by decide) ?_
            refine lv_lstore (lv' := [(6, .long 0), (4, .long w81), (3, .int x14), (2, .int y4), (0, .ref (ad 0)), (1, .int a1)]) hx hb dX12_works_72 hl (by decide) rfl (fun ls hl => ?_)
            refine lv_lconst (v := 0) hx hb dX12_works_74 (by decide) ?_
            refine lv_lstore (lv' := [(8, .long 0), (6, .long 0), (4, .long w81), (3, .int x14), (2, .int y4), (0, .ref (ad 0)), (1, .int a1)]) hx hb dX12_works_75 hl (by decide) rfl (fun ls hl => ?_)
            refine lv_iload_n hx hb dX12_works_77 rfl (lv_at hl 3 rfl) ?_
            refine lv_if_ne (tgt := 93) hx hb dX12_works_78 (by decide) (fun c86 => ?_) (fun c86 => (by have g := z_f_eq rfl z_l0 c86; omega))
            have g87 := z_f_ne rfl z_l0 c86
            refine lv_iload_n hx hb dX12_works_93 rfl (lv_at hl 3 rfl) ?_
            refine lv_iconst (v := 1) hx hb dX12_works_94 (by decide) ?_
            refine lv_icmp_ne (tgt := 114) hx hb dX12_works_95 (by decide) (fun c88 => ?_) (fun c88 => (by have g := z_f_eq rfl z_l1 c88; omega))
            have g89 := z_f_ne rfl z_l1 c88
            refine lv_iload_n hx hb dX12_works_114 rfl (lv_at hl 3 rfl) ?_
            refine lv_iconst (v := 2) hx hb dX12_works_115 (by decide) ?_
            refine lv_icmp_ne (tgt := 129) hx hb dX12_works_116 (by decide) (fun c90 => ?_) (fun c90 => (by have g := z_f_eq rfl z_l2 c90; omega))
            have g91 := z_f_ne rfl z_l2 c90
            refine lv_iload_n hx hb dX12_works_129 rfl (lv_at hl 3 rfl) ?_
            refine lv_iconst (v := 3) hx hb dX12_works_130 (by decide) ?_
            refine lv_icmp_ne (tgt := 144) hx hb dX12_works_131 (by decide) (fun c92 => ?_) (fun c92 => (by have g := z_f_eq rfl z_l3 c92; omega))
            have g93 := z_f_ne rfl z_l3 c92
            refine lv_iload_n hx hb dX12_works_144 rfl (lv_at hl 3 rfl) ?_
            refine lv_iconst (v := 4) hx hb dX12_works_145 (by decide) ?_
            refine lv_icmp_ne (tgt := 159) hx hb dX12_works_146 (by decide) (fun c94 => ?_) (fun c94 => (by have g := z_f_eq rfl z_l4 c94; omega))
            have g95 := z_f_ne rfl z_l4 c94
            refine lv_iload_n hx hb dX12_works_159 rfl (lv_at hl 3 rfl) ?_
            refine lv_iconst (v := 5) hx hb dX12_works_160 (by decide) ?_
            refine lv_icmp_ne (tgt := 185) hx hb dX12_works_161 (by decide) (fun c96 => ?_) (fun c96 => (by have g := z_f_eq rfl z_l5 c96; omega))
            have g97 := z_f_ne rfl z_l5 c96
            refine lv_iload_n hx hb dX12_works_185 rfl (lv_at hl 3 rfl) ?_
            refine lv_bipush (v := 6) hx hb dX12_works_186 (by decide) ?_
            refine lv_icmp_ne (tgt := 211) hx hb dX12_works_188 (by decide) (fun c98 => ?_) (fun c98 => (by have g := z_f_eq rfl z_l6 c98; omega))
            have g99 := z_f_ne rfl z_l6 c98
            refine lv_iload_n hx hb dX12_works_211 rfl (lv_at hl 3 rfl) ?_
            refine lv_bipush (v := 7) hx hb dX12_works_212 (by decide) ?_
            refine lv_icmp_ne (tgt := 237) hx hb dX12_works_214 (by decide) (fun c100 => ?_) (fun c100 => (by have g := z_f_eq rfl z_l7 c100; omega))
            have g101 := z_f_ne rfl z_l7 c100
            refine lv_iload_n hx hb dX12_works_237 rfl (lv_at hl 3 rfl) ?_
            refine lv_bipush (v := 8) hx hb dX12_works_238 (by decide) ?_
            refine lv_icmp_ne (tgt := 261) hx hb dX12_works_240 (by decide) (fun c102 => ?_) (fun c102 => (by have g := z_f_eq rfl z_l8 c102; omega))
            have g103 := z_f_ne rfl z_l8 c102
            refine lv_iload_n hx hb dX12_works_261 rfl (lv_at hl 3 rfl) ?_
            refine lv_bipush (v := 9) hx hb dX12_works_262 (by decide) ?_
            refine lv_icmp_ne (tgt := 285) hx hb dX12_works_264 (by decide) (fun c104 => ?_) (fun c104 => (by have g := z_f_eq rfl z_l9 c104; omega))
            have g105 := z_f_ne rfl z_l9 c104
            refine lv_iload_n hx hb dX12_works_285 rfl (lv_at hl 3 rfl) ?_
            refine lv_bipush (v := 10) hx hb dX12_works_286 (by decide) ?_
            refine lv_icmp_ne (tgt := 309) hx hb dX12_works_288 (by decide) (fun c106 => ?_) (fun c106 => (by have g := z_f_eq rfl z_l10 c106; omega))
            have g107 := z_f_ne rfl z_l10 c106
            refine lv_iload_n hx hb dX12_works_309 rfl (lv_at hl 3 rfl) ?_
            refine lv_bipush (v := 11) hx hb dX12_works_310 (by decide) ?_
            refine lv_icmp_ne (tgt := 332) hx hb dX12_works_312 (by decide) (fun c108 => (by have g := z_f_ne rfl z_l11 c108; omega)) (fun c108 => ?_)
            have g109 := z_f_eq rfl z_l11 c108
            refine lv_lload hx hb dX12_works_315 (lv_at hl 2 rfl) ?_
            refine lv_lconst (v := 0) hx hb dX12_works_317 (by decide) ?_
            refine W.lcmp hx hb dX12_works_318 ?_
            refine lv_topi (fun x110 ex110 => ?_)
            have tx110 := z_tcmp ex110
            refine lv_if_ne (tgt := 326) hx hb dX12_works_319 (by decide) (fun c111 => ?_) (fun c111 => ?_)
            · have g112 := z_f_ne rfl z_l0 c111
              refine lv_lconst (v := 0) hx hb dX12_works_326 (by decide) ?_
              refine lv_lstore (lv' := [(8, .long 0), (6, .long 0), (4, .long w81), (3, .int x14), (2, .int y4), (0, .ref (ad 0)), (1, .int a1)]) hx hb dX12_works_327 hl (by decide) rfl (fun ls hl => ?_)
              refine lv_goto (tgt := 383) hx hb dX12_works_329 (by decide) ?_
              refine lv_aload_n hx hb dX12_works_383 rfl (lv_at hl 5 rfl) ?_
              refine z_get (T := TX12) (N := 96) (ci := 12) (i := 0) (v := .ref (ad 24)) hx hb hts zj_X12_works_X12 hown hK hW rfl rfl 29 (by decide) (hts (.fieldLink RX12 79 "PetrolBoardModel" "result" "[J") (me_s (me_l (List.mem_of_getElem? (i := 3) rfl)))) (fun _ h => h) rfl dX12_works_384 ?_
              refine lv_iload_n hx hb dX12_works_387 rfl (lv_at hl 4 rfl) ?_
              refine lv_lload hx hb dX12_works_388 (lv_at hl 0 rfl) ?_
              refine z_cl hW hS hA (va_runS (As := [.long 0]) (rest := [.int y4, .ref (ad 24)]) ⟨hx, hb, hml, hown, hts⟩ (sx_X12_held l G ad I5 J6  0 _) (va_cwS 1 hts gX12_works_X12_held rfl rfl rfl hy_X12_held.2 ⟨Nat.le_of_ble_eq_true rfl, Nat.le_of_ble_eq_true rfl⟩) (z_preS hK hW) rfl rfl hl.1 rfl (lv_room (Nat.le_of_ble_eq_true rfl)) dX12_works_390 ⟨Nat.le_of_ble_eq_true rfl, Nat.le_of_ble_eq_true rfl⟩) (fun r u1 H locs hp hW hS => ?_)
              rw [hp] at hW
              refine lv_topl (fun x113 ex113 => ?_)
              refine z_last (i := 24) hx hb hK hW hS rfl (z_ix rfl (by omega) (by omega)) dX12_works_393 (fun H locs hz1 hW hS => ?_)
              obtain ⟨J114, eJ114⟩ : ∃ K : z_J, K = z_up J6 24 y4.toNatClampNeg x113 := ⟨_, rfl⟩
              rw [← eJ114] at hW
              obtain ⟨x115, ex115⟩ : ∃ y : Int32, y = y4 + 1 := ⟨_, rfl⟩
              have tx115 : x115.toInt = y4.toInt + 1 := z_tadd ex115 rfl z_l1 (by omega) (by omega)
              refine lv_iinc (v := x115) (lv' := [(2, .int x115), (8, .long 0), (6, .long 0), (4, .long w81), (3, .int x14), (0, .ref (ad 0)), (1, .int a1)]) hx hb dX12_works_394 hl (k := 4) rfl (by rw [ex115]; rfl) (by decide) rfl (fun ls hl => ?_)
              refine lv_goto (tgt := 7) hx hb dX12_works_397 (by decide) ?_
              exact lp3ih x115 I5 J114 _ _ _ (by omega) (by omega) lp3Nd lp3Asf lp3Ast (by omega) lp3fr hW hS (lv_sub hl [0, 5, 6] rfl)
            · have g116 := z_f_eq rfl z_l0 c111
              refine lv_lconst (v := 1) hx hb dX12_works_322 (by decide) ?_
              refine lv_goto (tgt := 327) hx hb dX12_works_323 (by decide) ?_
              refine lv_lstore (lv' := [(8, .long 1), (6, .long 0), (4, .long w81), (3, .int x14), (2, .int y4), (0, .ref (ad 0)), (1, .int a1)]) hx hb dX12_works_327 hl (by decide) rfl (fun ls hl => ?_)
              refine lv_goto (tgt := 383) hx hb dX12_works_329 (by decide) ?_
              refine lv_aload_n hx hb dX12_works_383 rfl (lv_at hl 5 rfl) ?_
              refine z_get (T := TX12) (N := 96) (ci := 12) (i := 0) (v := .ref (ad 24)) hx hb hts zj_X12_works_X12 hown hK hW rfl rfl 29 (by decide) (hts (.fieldLink RX12 79 "PetrolBoardModel" "result" "[J") (me_s (me_l (List.mem_of_getElem? (i := 3) rfl)))) (fun _ h => h) rfl dX12_works_384 ?_
              refine lv_iload_n hx hb dX12_works_387 rfl (lv_at hl 4 rfl) ?_
              refine lv_lload hx hb dX12_works_388 (lv_at hl 0 rfl) ?_
              refine z_cl hW hS hA (va_runS (As := [.long 1]) (rest := [.int y4, .ref (ad 24)]) ⟨hx, hb, hml, hown, hts⟩ (sx_X12_held l G ad I5 J6  1 _) (va_cwS 1 hts gX12_works_X12_held rfl rfl rfl hy_X12_held.2 ⟨Nat.le_of_ble_eq_true rfl, Nat.le_of_ble_eq_true rfl⟩) (z_preS hK hW) rfl rfl hl.1 rfl (lv_room (Nat.le_of_ble_eq_true rfl)) dX12_works_390 ⟨Nat.le_of_ble_eq_true rfl, Nat.le_of_ble_eq_true rfl⟩) (fun r u1 H locs hp hW hS => ?_)
              rw [hp] at hW
              refine lv_topl (fun x117 ex117 => ?_)
              refine z_last (i := 24) hx hb hK hW hS rfl (z_ix rfl (by omega) (by omega)) dX12_works_393 (fun H locs hz1 hW hS => ?_)
              obtain ⟨J118, eJ118⟩ : ∃ K : z_J, K = z_up J6 24 y4.toNatClampNeg x117 := ⟨_, rfl⟩
              rw [← eJ118] at hW
              obtain ⟨x119, ex119⟩ : ∃ y : Int32, y = y4 + 1 := ⟨_, rfl⟩
              have tx119 : x119.toInt = y4.toInt + 1 := z_tadd ex119 rfl z_l1 (by omega) (by omega)
              refine lv_iinc (v := x119) (lv' := [(2, .int x119), (8, .long 1), (6, .long 0), (4, .long w81), (3, .int x14), (0, .ref (ad 0)), (1, .int a1)]) hx hb dX12_works_394 hl (k := 4) rfl (by rw [ex119]; rfl) (by decide) rfl (fun ls hl => ?_)
              refine lv_goto (tgt := 7) hx hb dX12_works_397 (by decide) ?_
              exact lp3ih x119 I5 J118 _ _ _ (by omega) (by omega) lp3Nd lp3Asf lp3Ast (by omega) lp3fr hW hS (lv_sub hl [0, 5, 6] rfl)
          · have g120 := z_f_ne rfl z_l11 c84
            refine lv_aload_n hx hb dX12_works_57 rfl (lv_at hl 3 rfl) ?_
            refine z_get (T := TX12) (N := 96) (ci := 12) (i := 0) (v := .ref (ad 24)) hx hb hts zj_X12_works_X12 hown hK hW rfl rfl 29 (by decide) (hts (.fieldLink RX12 79 "PetrolBoardModel" "result" "[J") (me_s (me_l (List.mem_of_getElem? (i := 3) rfl)))) (fun _ h => h) rfl dX12_works_58 ?_
            refine lv_aload_n hx hb dX12_works_61 rfl (lv_at hl 3 rfl) ?_
            refine z_get (T := TX12) (N := 96) (ci := 12) (i := 0) (v := .ref (ad 23)) hx hb hts zj_X12_works_X12 hown hK hW rfl rfl 28 (by decide) (hts (.fieldLink RX12 76 "PetrolBoardModel" "nodeB" "[I") (me_s (me_l (List.mem_of_getElem? (i := 5) rfl)))) (fun _ h => h) rfl dX12_works_62 ?_
            refine lv_iload_n hx hb dX12_works_65 rfl (lv_at hl 2 rfl) ?_
            refine z_iald (i := 23) hx hb hK hW rfl (z_ix rfl (by omega) (by omega)) dX12_works_66 ?_
            refine lv_topi (fun x121 ex121 => ?_)
            have h122 := lp3Nd (y4 : Int32).toNatClampNeg
            rw [← ex14, ← ex121] at h122
            refine z_lald (i := 24) hx hb hK hW rfl (z_ix rfl (by omega) (by omega)) dX12_works_67 ?_
            refine lv_topl (fun w123 ew123 => ?_)
            refine lv_goto (tgt := 72) hx hb dX12_works_68 (by decide) ?_
            refine lv_lstore (lv' := [(6, .long w123), (4, .long w81), (3, .int x14), (2, .int y4), (0, .ref (ad 0)), (1, .int a1)]) hx hb dX12_works_72 hl (by decide) rfl (fun ls hl => ?_)
            refine lv_lconst (v := 0) hx hb dX12_works_74 (by decide) ?_
            refine lv_lstore (lv' := [(8, .long 0), (6, .long w123), (4, .long w81), (3, .int x14), (2, .int y4), (0, .ref (ad 0)), (1, .int a1)]) hx hb dX12_works_75 hl (by decide) rfl (fun ls hl => ?_)
            refine lv_iload_n hx hb dX12_works_77 rfl (lv_at hl 3 rfl) ?_
            refine lv_if_ne (tgt := 93) hx hb dX12_works_78 (by decide) (fun c124 => ?_) (fun c124 => (by have g := z_f_eq rfl z_l0 c124; omega))
            have g125 := z_f_ne rfl z_l0 c124
            refine lv_iload_n hx hb dX12_works_93 rfl (lv_at hl 3 rfl) ?_
            refine lv_iconst (v := 1) hx hb dX12_works_94 (by decide) ?_
            refine lv_icmp_ne (tgt := 114) hx hb dX12_works_95 (by decide) (fun c126 => ?_) (fun c126 => (by have g := z_f_eq rfl z_l1 c126; omega))
            have g127 := z_f_ne rfl z_l1 c126
            refine lv_iload_n hx hb dX12_works_114 rfl (lv_at hl 3 rfl) ?_
            refine lv_iconst (v := 2) hx hb dX12_works_115 (by decide) ?_
            refine lv_icmp_ne (tgt := 129) hx hb dX12_works_116 (by decide) (fun c128 => ?_) (fun c128 => ?_)
            · have g129 := z_f_ne rfl z_l2 c128
              refine lv_iload_n hx hb dX12_works_129 rfl (lv_at hl 3 rfl) ?_
              refine lv_iconst (v := 3) hx hb dX12_works_130 (by decide) ?_
              refine lv_icmp_ne (tgt := 144) hx hb dX12_works_131 (by decide) (fun c130 => ?_) (fun c130 => ?_)
              · have g131 := z_f_ne rfl z_l3 c130
                refine lv_iload_n hx hb dX12_works_144 rfl (lv_at hl 3 rfl) ?_
                refine lv_iconst (v := 4) hx hb dX12_works_145 (by decide) ?_
                refine lv_icmp_ne (tgt := 159) hx hb dX12_works_146 (by decide) (fun c132 => ?_) (fun c132 => ?_)
                · have g133 := z_f_ne rfl z_l4 c132
                  refine lv_iload_n hx hb dX12_works_159 rfl (lv_at hl 3 rfl) ?_
                  refine lv_iconst (v := 5) hx hb dX12_works_160 (by decide) ?_
                  refine lv_icmp_ne (tgt := 185) hx hb dX12_works_161 (by decide) (fun c134 => ?_) (fun c134 => ?_)
                  · have g135 := z_f_ne rfl z_l5 c134
                    refine lv_iload_n hx hb dX12_works_185 rfl (lv_at hl 3 rfl) ?_
                    refine lv_bipush (v := 6) hx hb dX12_works_186 (by decide) ?_
                    refine lv_icmp_ne (tgt := 211) hx hb dX12_works_188 (by decide) (fun c136 => ?_) (fun c136 => ?_)
                    · have g137 := z_f_ne rfl z_l6 c136
                      refine lv_iload_n hx hb dX12_works_211 rfl (lv_at hl 3 rfl) ?_
                      refine lv_bipush (v := 7) hx hb dX12_works_212 (by decide) ?_
                      refine lv_icmp_ne (tgt := 237) hx hb dX12_works_214 (by decide) (fun c138 => ?_) (fun c138 => ?_)
                      · have g139 := z_f_ne rfl z_l7 c138
                        refine lv_iload_n hx hb dX12_works_237 rfl (lv_at hl 3 rfl) ?_
                        refine lv_bipush (v := 8) hx hb dX12_works_238 (by decide) ?_
                        refine lv_icmp_ne (tgt := 261) hx hb dX12_works_240 (by decide) (fun c140 => ?_) (fun c140 => ?_)
                        · have g141 := z_f_ne rfl z_l8 c140
                          refine lv_iload_n hx hb dX12_works_261 rfl (lv_at hl 3 rfl) ?_
                          refine lv_bipush (v := 9) hx hb dX12_works_262 (by decide) ?_
                          refine lv_icmp_ne (tgt := 285) hx hb dX12_works_264 (by decide) (fun c142 => ?_) (fun c142 => ?_)
                          · have g143 := z_f_ne rfl z_l9 c142
                            refine lv_iload_n hx hb dX12_works_285 rfl (lv_at hl 3 rfl) ?_
                            refine lv_bipush (v := 10) hx hb dX12_works_286 (by decide) ?_
                            refine lv_icmp_ne (tgt := 309) hx hb dX12_works_288 (by decide) (fun c144 => ?_) (fun c144 => ?_)
                            · have g145 := z_f_ne rfl z_l10 c144
                              refine lv_iload_n hx hb dX12_works_309 rfl (lv_at hl 3 rfl) ?_
                              refine lv_bipush (v := 11) hx hb dX12_works_310 (by decide) ?_
                              refine lv_icmp_ne (tgt := 332) hx hb dX12_works_312 (by decide) (fun c146 => ?_) (fun c146 => (by have g := z_f_eq rfl z_l11 c146; omega))
                              have g147 := z_f_ne rfl z_l11 c146
                              refine lv_iload_n hx hb dX12_works_332 rfl (lv_at hl 3 rfl) ?_
                              refine lv_bipush (v := 12) hx hb dX12_works_333 (by decide) ?_
                              refine lv_icmp_ne (tgt := 362) hx hb dX12_works_335 (by decide) (fun c148 => ?_) (fun c148 => ?_)
                              · have g149 := z_f_ne rfl z_l12 c148
                                refine lv_lload hx hb dX12_works_362 (lv_at hl 2 rfl) ?_
                                refine lv_lconst (v := 0) hx hb dX12_works_364 (by decide) ?_
                                refine W.lcmp hx hb dX12_works_365 ?_
                                refine lv_topi (fun x150 ex150 => ?_)
                                have tx150 := z_tcmp ex150
                                refine lv_if_ne (tgt := 376) hx hb dX12_works_366 (by decide) (fun c151 => ?_) (fun c151 => ?_)
                                · have g152 := z_f_ne rfl z_l0 c151
                                  refine lv_lconst (v := 1) hx hb dX12_works_376 (by decide) ?_
                                  refine lv_goto (tgt := 381) hx hb dX12_works_377 (by decide) ?_
                                  refine lv_lstore (lv' := [(8, .long 1), (6, .long w123), (4, .long w81), (3, .int x14), (2, .int y4), (0, .ref (ad 0)), (1, .int a1)]) hx hb dX12_works_381 hl (by decide) rfl (fun ls hl => ?_)
                                  refine lv_aload_n hx hb dX12_works_383 rfl (lv_at hl 5 rfl) ?_
                                  refine z_get (T := TX12) (N := 96) (ci := 12) (i := 0) (v := .ref (ad 24)) hx hb hts zj_X12_works_X12 hown hK hW rfl rfl 29 (by decide) (hts (.fieldLink RX12 79 "PetrolBoardModel" "result" "[J") (me_s (me_l (List.mem_of_getElem? (i := 3) rfl)))) (fun _ h => h) rfl dX12_works_384 ?_
                                  refine lv_iload_n hx hb dX12_works_387 rfl (lv_at hl 4 rfl) ?_
                                  refine lv_lload hx hb dX12_works_388 (lv_at hl 0 rfl) ?_
                                  refine z_cl hW hS hA (va_runS (As := [.long 1]) (rest := [.int y4, .ref (ad 24)]) ⟨hx, hb, hml, hown, hts⟩ (sx_X12_held l G ad I5 J6  1 _) (va_cwS 1 hts gX12_works_X12_held rfl rfl rfl hy_X12_held.2 ⟨Nat.le_of_ble_eq_true rfl, Nat.le_of_ble_eq_true rfl⟩) (z_preS hK hW) rfl rfl hl.1 rfl (lv_room (Nat.le_of_ble_eq_true rfl)) dX12_works_390 ⟨Nat.le_of_ble_eq_true rfl, Nat.le_of_ble_eq_true rfl⟩) (fun r u1 H locs hp hW hS => ?_)
                                  rw [hp] at hW
                                  refine lv_topl (fun x153 ex153 => ?_)
                                  refine z_last (i := 24) hx hb hK hW hS rfl (z_ix rfl (by omega) (by omega)) dX12_works_393 (fun H locs hz1 hW hS => ?_)
                                  obtain ⟨J154, eJ154⟩ : ∃ K : z_J, K = z_up J6 24 y4.toNatClampNeg x153 := ⟨_, rfl⟩
                                  rw [← eJ154] at hW
                                  obtain ⟨x155, ex155⟩ : ∃ y : Int32, y = y4 + 1 := ⟨_, rfl⟩
                                  have tx155 : x155.toInt = y4.toInt + 1 := z_tadd ex155 rfl z_l1 (by omega) (by omega)
                                  refine lv_iinc (v := x155) (lv' := [(2, .int x155), (8, .long 1), (6, .long w123), (4, .long w81), (3, .int x14), (0, .ref (ad 0)), (1, .int a1)]) hx hb dX12_works_394 hl (k := 4) rfl (by rw [ex155]; rfl) (by decide) rfl (fun ls hl => ?_)
                                  refine lv_goto (tgt := 7) hx hb dX12_works_397 (by decide) ?_
                                  exact lp3ih x155 I5 J154 _ _ _ (by omega) (by omega) lp3Nd lp3Asf lp3Ast (by omega) lp3fr hW hS (lv_sub hl [0, 5, 6] rfl)
                                · have g156 := z_f_eq rfl z_l0 c151
                                  refine lv_lload hx hb dX12_works_369 (lv_at hl 1 rfl) ?_
                                  refine lv_lconst (v := 0) hx hb dX12_works_371 (by decide) ?_
                                  refine W.lcmp hx hb dX12_works_372 ?_
                                  refine lv_topi (fun x157 ex157 => ?_)
                                  have tx157 := z_tcmp ex157
                                  refine lv_if_eq (tgt := 380) hx hb dX12_works_373 (by decide) (fun c158 => ?_) (fun c158 => ?_)
                                  · have g159 := z_f_eq rfl z_l0 c158
                                    refine lv_lconst (v := 0) hx hb dX12_works_380 (by decide) ?_
                                    refine lv_lstore (lv' := [(8, .long 0), (6, .long w123), (4, .long w81), (3, .int x14), (2, .int y4), (0, .ref (ad 0)), (1, .int a1)]) hx hb dX12_works_381 hl (by decide) rfl (fun ls hl => ?_)
                                    refine lv_aload_n hx hb dX12_works_383 rfl (lv_at hl 5 rfl) ?_
                                    refine z_get (T := TX12) (N := 96) (ci := 12) (i := 0) (v := .ref (ad 24)) hx hb hts zj_X12_works_X12 hown hK hW rfl rfl 29 (by decide) (hts (.fieldLink RX12 79 "PetrolBoardModel" "result" "[J") (me_s (me_l (List.mem_of_getElem? (i := 3) rfl)))) (fun _ h => h) rfl dX12_works_384 ?_
                                    refine lv_iload_n hx hb dX12_works_387 rfl (lv_at hl 4 rfl) ?_
                                    refine lv_lload hx hb dX12_works_388 (lv_at hl 0 rfl) ?_
                                    refine z_cl hW hS hA (va_runS (As := [.long 0]) (rest := [.int y4, .ref (ad 24)]) ⟨hx, hb, hml, hown, hts⟩ (sx_X12_held l G ad I5 J6  0 _) (va_cwS 1 hts gX12_works_X12_held rfl rfl rfl hy_X12_held.2 ⟨Nat.le_of_ble_eq_true rfl, Nat.le_of_ble_eq_true rfl⟩) (z_preS hK hW) rfl rfl hl.1 rfl (lv_room (Nat.le_of_ble_eq_true rfl)) dX12_works_390 ⟨Nat.le_of_ble_eq_true rfl, Nat.le_of_ble_eq_true rfl⟩) (fun r u1 H locs hp hW hS => ?_)
                                    rw [hp] at hW
                                    refine lv_topl (fun x160 ex160 => ?_)
                                    refine z_last (i := 24) hx hb hK hW hS rfl (z_ix rfl (by omega) (by omega)) dX12_works_393 (fun H locs hz1 hW hS => ?_)
                                    obtain ⟨J161, eJ161⟩ : ∃ K : z_J, K = z_up J6 24 y4.toNatClampNeg x160 := ⟨_, rfl⟩
                                    rw [← eJ161] at hW
                                    obtain ⟨x162, ex162⟩ : ∃ y : Int32, y = y4 + 1 := ⟨_, rfl⟩
                                    have tx162 : x162.toInt = y4.toInt + 1 := z_tadd ex162 rfl z_l1 (by omega) (by omega)
                                    refine lv_iinc (v := x162) (lv' := [(2, .int x162), (8, .long 0), (6, .long w123), (4, .long w81), (3, .int x14), (0, .ref (ad 0)), (1, .int a1)]) hx hb dX12_works_394 hl (k := 4) rfl (by rw [ex162]; rfl) (by decide) rfl (fun ls hl => ?_)
                                    refine lv_goto (tgt := 7) hx hb dX12_works_397 (by decide) ?_
                                    exact lp3ih x162 I5 J161 _ _ _ (by omega) (by omega) lp3Nd lp3Asf lp3Ast (by omega) lp3fr hW hS (lv_sub hl [0, 5, 6] rfl)
                                  · have g163 := z_f_ne rfl z_l0 c158
                                    refine lv_lconst (v := 1) hx hb dX12_works_376 (by decide) ?_
                                    refine lv_goto (tgt := 381) hx hb dX12_works_377 (by decide) ?_
                                    refine lv_lstore (lv' := [(8, .long 1), (6, .long w123), (4, .long w81), (3, .int x14), (2, .int y4), (0, .ref (ad 0)), (1, .int a1)]) hx hb dX12_works_381 hl (by decide) rfl (fun ls hl => ?_)
                                    refine lv_aload_n hx hb dX12_works_383 rfl (lv_at hl 5 rfl) ?_
                                    refine z_get (T := TX12) (N := 96) (ci := 12) (i := 0) (v := .ref (ad 24)) hx hb hts zj_X12_works_X12 hown hK hW rfl rfl 29 (by decide) (hts (.fieldLink RX12 79 "PetrolBoardModel" "result" "[J") (me_s (me_l (List.mem_of_getElem? (i := 3) rfl)))) (fun _ h => h) rfl dX12_works_384 ?_
                                    refine lv_iload_n hx hb dX12_works_387 rfl (lv_at hl 4 rfl) ?_
                                    refine lv_lload hx hb dX12_works_388 (lv_at hl 0 rfl) ?_
                                    refine z_cl hW hS hA (va_runS (As := [.long 1]) (rest := [.int y4, .ref (ad 24)]) ⟨hx, hb, hml, hown, hts⟩ (sx_X12_held l G ad I5 J6  1 _) (va_cwS 1 hts gX12_works_X12_held rfl rfl rfl hy_X12_held.2 ⟨Nat.le_of_ble_eq_true rfl, Nat.le_of_ble_eq_true rfl⟩) (z_preS hK hW) rfl rfl hl.1 rfl (lv_room (Nat.le_of_ble_eq_true rfl)) dX12_works_390 ⟨Nat.le_of_ble_eq_true rfl, Nat.le_of_ble_eq_true rfl⟩) (fun r u1 H locs hp hW hS => ?_)
                                    rw [hp] at hW
                                    refine lv_topl (fun x164 ex164 => ?_)
                                    refine z_last (i := 24) hx hb hK hW hS rfl (z_ix rfl (by omega) (by omega)) dX12_works_393 (fun H locs hz1 hW hS => ?_)
                                    obtain ⟨J165, eJ165⟩ : ∃ K : z_J, K = z_up J6 24 y4.toNatClampNeg x164 := ⟨_, rfl⟩
                                    rw [← eJ165] at hW
                                    obtain ⟨x166, ex166⟩ : ∃ y : Int32, y = y4 + 1 := ⟨_, rfl⟩
                                    have tx166 : x166.toInt = y4.toInt + 1 := z_tadd ex166 rfl z_l1 (by omega) (by omega)
                                    refine lv_iinc (v := x166) (lv' := [(2, .int x166), (8, .long 1), (6, .long w123), (4, .long w81), (3, .int x14), (0, .ref (ad 0)), (1, .int a1)]) hx hb dX12_works_394 hl (k := 4) rfl (by rw [ex166]; rfl) (by decide) rfl (fun ls hl => ?_)
                                    refine lv_goto (tgt := 7) hx hb dX12_works_397 (by decide) ?_
                                    exact lp3ih x166 I5 J165 _ _ _ (by omega) (by omega) lp3Nd lp3Asf lp3Ast (by omega) lp3fr hW hS (lv_sub hl [0, 5, 6] rfl)
                              · have g167 := z_f_eq rfl z_l12 c148
                                refine lv_lload hx hb dX12_works_338 (lv_at hl 2 rfl) ?_
                                refine lv_lconst (v := 0) hx hb dX12_works_340 (by decide) ?_
                                refine W.lcmp hx hb dX12_works_341 ?_
                                refine lv_topi (fun x168 ex168 => ?_)
                                have tx168 := z_tcmp ex168
                                refine lv_if_eq (tgt := 356) hx hb dX12_works_342 (by decide) (fun c169 => ?_) (fun c169 => ?_)
                                · have g170 := z_f_eq rfl z_l0 c169
                                  refine lv_lconst (v := 0) hx hb dX12_works_356 (by decide) ?_
                                  refine lv_lstore (lv' := [(8, .long 0), (6, .long w123), (4, .long w81), (3, .int x14), (2, .int y4), (0, .ref (ad 0)), (1, .int a1)]) hx hb dX12_works_357 hl (by decide) rfl (fun ls hl => ?_)
                                  refine lv_goto (tgt := 383) hx hb dX12_works_359 (by decide) ?_
                                  refine lv_aload_n hx hb dX12_works_383 rfl (lv_at hl 5 rfl) ?_
                                  refine z_get (T := TX12) (N := 96) (ci := 12) (i := 0) (v := .ref (ad 24)) hx hb hts zj_X12_works_X12 hown hK hW rfl rfl 29 (by decide) (hts (.fieldLink RX12 79 "PetrolBoardModel" "result" "[J") (me_s (me_l (List.mem_of_getElem? (i := 3) rfl)))) (fun _ h => h) rfl dX12_works_384 ?_
                                  refine lv_iload_n hx hb dX12_works_387 rfl (lv_at hl 4 rfl) ?_
                                  refine lv_lload hx hb dX12_works_388 (lv_at hl 0 rfl) ?_
                                  refine z_cl hW hS hA (va_runS (As := [.long 0]) (rest := [.int y4, .ref (ad 24)]) ⟨hx, hb, hml, hown, hts⟩ (sx_X12_held l G ad I5 J6  0 _) (va_cwS 1 hts gX12_works_X12_held rfl rfl rfl hy_X12_held.2 ⟨Nat.le_of_ble_eq_true rfl, Nat.le_of_ble_eq_true rfl⟩) (z_preS hK hW) rfl rfl hl.1 rfl (lv_room (Nat.le_of_ble_eq_true rfl)) dX12_works_390 ⟨Nat.le_of_ble_eq_true rfl, Nat.le_of_ble_eq_true rfl⟩) (fun r u1 H locs hp hW hS => ?_)
                                  rw [hp] at hW
                                  refine lv_topl (fun x171 ex171 => ?_)
                                  refine z_last (i := 24) hx hb hK hW hS rfl (z_ix rfl (by omega) (by omega)) dX12_works_393 (fun H locs hz1 hW hS => ?_)
                                  obtain ⟨J172, eJ172⟩ : ∃ K : z_J, K = z_up J6 24 y4.toNatClampNeg x171 := ⟨_, rfl⟩
                                  rw [← eJ172] at hW
                                  obtain ⟨x173, ex173⟩ : ∃ y : Int32, y = y4 + 1 := ⟨_, rfl⟩
                                  have tx173 : x173.toInt = y4.toInt + 1 := z_tadd ex173 rfl z_l1 (by omega) (by omega)
                                  refine lv_iinc (v := x173) (lv' := [(2, .int x173), (8, .long 0), (6, .long w123), (4, .long w81), (3, .int x14), (0, .ref (ad 0)), (1, .int a1)]) hx hb dX12_works_394 hl (k := 4) rfl (by rw [ex173]; rfl) (by decide) rfl (fun ls hl => ?_)
                                  refine lv_goto (tgt := 7) hx hb dX12_works_397 (by decide) ?_
                                  exact lp3ih x173 I5 J172 _ _ _ (by omega) (by omega) lp3Nd lp3Asf lp3Ast (by omega) lp3fr hW hS (lv_sub hl [0, 5, 6] rfl)
                                · have g174 := z_f_ne rfl z_l0 c169
                                  refine lv_lload hx hb dX12_works_345 (lv_at hl 1 rfl) ?_
                                  refine lv_lconst (v := 0) hx hb dX12_works_347 (by decide) ?_
                                  refine W.lcmp hx hb dX12_works_348 ?_
                                  refine lv_topi (fun x175 ex175 => ?_)
                                  have tx175 := z_tcmp ex175
                                  refine lv_if_eq (tgt := 356) hx hb dX12_works_349 (by decide) (fun c176 => ?_) (fun c176 => ?_)
                                  · have g177 := z_f_eq rfl z_l0 c176
                                    refine lv_lconst (v := 0) hx hb dX12_works_356 (by decide) ?_
                                    refine lv_lstore (lv' := [(8, .long 0), (6, .long w123), (4, .long w81), (3, .int x14), (2, .int y4), (0, .ref (ad 0)), (1, .int a1)]) hx hb dX12_works_357 hl (by decide) rfl (fun ls hl => ?_)
                                    refine lv_goto (tgt := 383) hx hb dX12_works_359 (by decide) ?_
                                    refine lv_aload_n hx hb dX12_works_383 rfl (lv_at hl 5 rfl) ?_
                                    refine z_get (T := TX12) (N := 96) (ci := 12) (i := 0) (v := .ref (ad 24)) hx hb hts zj_X12_works_X12 hown hK hW rfl rfl 29 (by decide) (hts (.fieldLink RX12 79 "PetrolBoardModel" "result" "[J") (me_s (me_l (List.mem_of_getElem? (i := 3) rfl)))) (fun _ h => h) rfl dX12_works_384 ?_
                                    refine lv_iload_n hx hb dX12_works_387 rfl (lv_at hl 4 rfl) ?_
                                    refine lv_lload hx hb dX12_works_388 (lv_at hl 0 rfl) ?_
                                    refine z_cl hW hS hA (va_runS (As := [.long 0]) (rest := [.int y4, .ref (ad 24)]) ⟨hx, hb, hml, hown, hts⟩ (sx_X12_held l G ad I5 J6  0 _) (va_cwS 1 hts gX12_works_X12_held rfl rfl rfl hy_X12_held.2 ⟨Nat.le_of_ble_eq_true rfl, Nat.le_of_ble_eq_true rfl⟩) (z_preS hK hW) rfl rfl hl.1 rfl (lv_room (Nat.le_of_ble_eq_true rfl)) dX12_works_390 ⟨Nat.le_of_ble_eq_true rfl, Nat.le_of_ble_eq_true rfl⟩) (fun r u1 H locs hp hW hS => ?_)
                                    rw [hp] at hW
                                    refine lv_topl (fun x178 ex178 => ?_)
                                    refine z_last (i := 24) hx hb hK hW hS rfl (z_ix rfl (by omega) (by omega)) dX12_works_393 (fun H locs hz1 hW hS => ?_)
                                    obtain ⟨J179, eJ179⟩ : ∃ K : z_J, K = z_up J6 24 y4.toNatClampNeg x178 := ⟨_, rfl⟩
                                    rw [← eJ179] at hW
                                    obtain ⟨x180, ex180⟩ : ∃ y : Int32, y = y4 + 1 := ⟨_, rfl⟩
                                    have tx180 : x180.toInt = y4.toInt + 1 := z_tadd ex180 rfl z_l1 (by omega) (by omega)
                                    refine lv_iinc (v := x180) (lv' := [(2, .int x180), (8, .long 0), (6, .long w123), (4, .long w81), (3, .int x14), (0, .ref (ad 0)), (1, .int a1)]) hx hb dX12_works_394 hl (k := 4) rfl (by rw [ex180]; rfl) (by decide) rfl (fun ls hl => ?_)
                                    refine lv_goto (tgt := 7) hx hb dX12_works_397 (by decide) ?_
                                    exact lp3ih x180 I5 J179 _ _ _ (by omega) (by omega) lp3Nd lp3Asf lp3Ast (by omega) lp3fr hW hS (lv_sub hl [0, 5, 6] rfl)
                                  · have g181 := z_f_ne rfl z_l0 c176
                                    refine lv_lconst (v := 1) hx hb dX12_works_352 (by decide) ?_
                                    refine lv_goto (tgt := 357) hx hb dX12_works_353 (by decide) ?_
                                    refine lv_lstore (lv' := [(8, .long 1), (6, .long w123), (4, .long w81), (3, .int x14), (2, .int y4), (0, .ref (ad 0)), (1, .int a1)]) hx hb dX12_works_357 hl (by decide) rfl (fun ls hl => ?_)
                                    refine lv_goto (tgt := 383) hx hb dX12_works_359 (by decide) ?_
                                    refine lv_aload_n hx hb dX12_works_383 rfl (lv_at hl 5 rfl) ?_
                                    refine z_get (T := TX12) (N := 96) (ci := 12) (i := 0) (v := .ref (ad 24)) hx hb hts zj_X12_works_X12 hown hK hW rfl rfl 29 (by decide) (hts (.fieldLink RX12 79 "PetrolBoardModel" "result" "[J") (me_s (me_l (List.mem_of_getElem? (i := 3) rfl)))) (fun _ h => h) rfl dX12_works_384 ?_
                                    refine lv_iload_n hx hb dX12_works_387 rfl (lv_at hl 4 rfl) ?_
                                    refine lv_lload hx hb dX12_works_388 (lv_at hl 0 rfl) ?_
                                    refine z_cl hW hS hA (va_runS (As := [.long 1]) (rest := [.int y4, .ref (ad 24)]) ⟨hx, hb, hml, hown, hts⟩ (sx_X12_held l G ad I5 J6  1 _) (va_cwS 1 hts gX12_works_X12_held rfl rfl rfl hy_X12_held.2 ⟨Nat.le_of_ble_eq_true rfl, Nat.le_of_ble_eq_true rfl⟩) (z_preS hK hW) rfl rfl hl.1 rfl (lv_room (Nat.le_of_ble_eq_true rfl)) dX12_works_390 ⟨Nat.le_of_ble_eq_true rfl, Nat.le_of_ble_eq_true rfl⟩) (fun r u1 H locs hp hW hS => ?_)
                                    rw [hp] at hW
                                    refine lv_topl (fun x182 ex182 => ?_)
                                    refine z_last (i := 24) hx hb hK hW hS rfl (z_ix rfl (by omega) (by omega)) dX12_works_393 (fun H locs hz1 hW hS => ?_)
                                    obtain ⟨J183, eJ183⟩ : ∃ K : z_J, K = z_up J6 24 y4.toNatClampNeg x182 := ⟨_, rfl⟩
                                    rw [← eJ183] at hW
                                    obtain ⟨x184, ex184⟩ : ∃ y : Int32, y = y4 + 1 := ⟨_, rfl⟩
                                    have tx184 : x184.toInt = y4.toInt + 1 := z_tadd ex184 rfl z_l1 (by omega) (by omega)
                                    refine lv_iinc (v := x184) (lv' := [(2, .int x184), (8, .long 1), (6, .long w123), (4, .long w81), (3, .int x14), (0, .ref (ad 0)), (1, .int a1)]) hx hb dX12_works_394 hl (k := 4) rfl (by rw [ex184]; rfl) (by decide) rfl (fun ls hl => ?_)
                                    refine lv_goto (tgt := 7) hx hb dX12_works_397 (by decide) ?_
                                    exact lp3ih x184 I5 J183 _ _ _ (by omega) (by omega) lp3Nd lp3Asf lp3Ast (by omega) lp3fr hW hS (lv_sub hl [0, 5, 6] rfl)
                            · have g185 := z_f_eq rfl z_l10 c144
                              refine lv_lload hx hb dX12_works_291 (lv_at hl 2 rfl) ?_
                              refine lv_lload hx hb dX12_works_293 (lv_at hl 1 rfl) ?_
                              refine W.lcmp hx hb dX12_works_295 ?_
                              refine lv_topi (fun x186 ex186 => ?_)
                              have tx186 := z_tcmp ex186
                              refine lv_if_ne (tgt := 303) hx hb dX12_works_296 (by decide) (fun c187 => ?_) (fun c187 => ?_)
                              · have g188 := z_f_ne rfl z_l0 c187
                                refine lv_lconst (v := 0) hx hb dX12_works_303 (by decide) ?_
                                refine lv_lstore (lv' := [(8, .long 0), (6, .long w123), (4, .long w81), (3, .int x14), (2, .int y4), (0, .ref (ad 0)), (1, .int a1)]) hx hb dX12_works_304 hl (by decide) rfl (fun ls hl => ?_)
                                refine lv_goto (tgt := 383) hx hb dX12_works_306 (by decide) ?_
                                refine lv_aload_n hx hb dX12_works_383 rfl (lv_at hl 5 rfl) ?_
                                refine z_get (T := TX12) (N := 96) (ci := 12) (i := 0) (v := .ref (ad 24)) hx hb hts zj_X12_works_X12 hown hK hW rfl rfl 29 (by decide) (hts (.fieldLink RX12 79 "PetrolBoardModel" "result" "[J") (me_s (me_l (List.mem_of_getElem? (i := 3) rfl)))) (fun _ h => h) rfl dX12_works_384 ?_
                                refine lv_iload_n hx hb dX12_works_387 rfl (lv_at hl 4 rfl) ?_
                                refine lv_lload hx hb dX12_works_388 (lv_at hl 0 rfl) ?_
                                refine z_cl hW hS hA (va_runS (As := [.long 0]) (rest := [.int y4, .ref (ad 24)]) ⟨hx, hb, hml, hown, hts⟩ (sx_X12_held l G ad I5 J6  0 _) (va_cwS 1 hts gX12_works_X12_held rfl rfl rfl hy_X12_held.2 ⟨Nat.le_of_ble_eq_true rfl, Nat.le_of_ble_eq_true rfl⟩) (z_preS hK hW) rfl rfl hl.1 rfl (lv_room (Nat.le_of_ble_eq_true rfl)) dX12_works_390 ⟨Nat.le_of_ble_eq_true rfl, Nat.le_of_ble_eq_true rfl⟩) (fun r u1 H locs hp hW hS => ?_)
                                rw [hp] at hW
                                refine lv_topl (fun x189 ex189 => ?_)
                                refine z_last (i := 24) hx hb hK hW hS rfl (z_ix rfl (by omega) (by omega)) dX12_works_393 (fun H locs hz1 hW hS => ?_)
                                obtain ⟨J190, eJ190⟩ : ∃ K : z_J, K = z_up J6 24 y4.toNatClampNeg x189 := ⟨_, rfl⟩
                                rw [← eJ190] at hW
                                obtain ⟨x191, ex191⟩ : ∃ y : Int32, y = y4 + 1 := ⟨_, rfl⟩
                                have tx191 : x191.toInt = y4.toInt + 1 := z_tadd ex191 rfl z_l1 (by omega) (by omega)
                                refine lv_iinc (v := x191) (lv' := [(2, .int x191), (8, .long 0), (6, .long w123), (4, .long w81), (3, .int x14), (0, .ref (ad 0)), (1, .int a1)]) hx hb dX12_works_394 hl (k := 4) rfl (by rw [ex191]; rfl) (by decide) rfl (fun ls hl => ?_)
                                refine lv_goto (tgt := 7) hx hb dX12_works_397 (by decide) ?_
                                exact lp3ih x191 I5 J190 _ _ _ (by omega) (by omega) lp3Nd lp3Asf lp3Ast (by omega) lp3fr hW hS (lv_sub hl [0, 5, 6] rfl)
                              · have g192 := z_f_eq rfl z_l0 c187
                                refine lv_lconst (v := 1) hx hb dX12_works_299 (by decide) ?_
                                refine lv_goto (tgt := 304) hx hb dX12_works_300 (by decide) ?_
                                refine lv_lstore (lv' := [(8, .long 1), (6, .long w123), (4, .long w81), (3, .int x14), (2, .int y4), (0, .ref (ad 0)), (1, .int a1)]) hx hb dX12_works_304 hl (by decide) rfl (fun ls hl => ?_)
                                refine lv_goto (tgt := 383) hx hb dX12_works_306 (by decide) ?_
                                refine lv_aload_n hx hb dX12_works_383 rfl (lv_at hl 5 rfl) ?_
                                refine z_get (T := TX12) (N := 96) (ci := 12) (i := 0) (v := .ref (ad 24)) hx hb hts zj_X12_works_X12 hown hK hW rfl rfl 29 (by decide) (hts (.fieldLink RX12 79 "PetrolBoardModel" "result" "[J") (me_s (me_l (List.mem_of_getElem? (i := 3) rfl)))) (fun _ h => h) rfl dX12_works_384 ?_
                                refine lv_iload_n hx hb dX12_works_387 rfl (lv_at hl 4 rfl) ?_
                                refine lv_lload hx hb dX12_works_388 (lv_at hl 0 rfl) ?_
                                refine z_cl hW hS hA (va_runS (As := [.long 1]) (rest := [.int y4, .ref (ad 24)]) ⟨hx, hb, hml, hown, hts⟩ (sx_X12_held l G ad I5 J6  1 _) (va_cwS 1 hts gX12_works_X12_held rfl rfl rfl hy_X12_held.2 ⟨Nat.le_of_ble_eq_true rfl, Nat.le_of_ble_eq_true rfl⟩) (z_preS hK hW) rfl rfl hl.1 rfl (lv_room (Nat.le_of_ble_eq_true rfl)) dX12_works_390 ⟨Nat.le_of_ble_eq_true rfl, Nat.le_of_ble_eq_true rfl⟩) (fun r u1 H locs hp hW hS => ?_)
                                rw [hp] at hW
                                refine lv_topl (fun x193 ex193 => ?_)
                                refine z_last (i := 24) hx hb hK hW hS rfl (z_ix rfl (by omega) (by omega)) dX12_works_393 (fun H locs hz1 hW hS => ?_)
                                obtain ⟨J194, eJ194⟩ : ∃ K : z_J, K = z_up J6 24 y4.toNatClampNeg x193 := ⟨_, rfl⟩
                                rw [← eJ194] at hW
                                obtain ⟨x195, ex195⟩ : ∃ y : Int32, y = y4 + 1 := ⟨_, rfl⟩
                                have tx195 : x195.toInt = y4.toInt + 1 := z_tadd ex195 rfl z_l1 (by omega) (by omega)
                                refine lv_iinc (v := x195) (lv' := [(2, .int x195), (8, .long 1), (6, .long w123), (4, .long w81), (3, .int x14), (0, .ref (ad 0)), (1, .int a1)]) hx hb dX12_works_394 hl (k := 4) rfl (by rw [ex195]; rfl) (by decide) rfl (fun ls hl => ?_)
                                refine lv_goto (tgt := 7) hx hb dX12_works_397 (by decide) ?_
                                exact lp3ih x195 I5 J194 _ _ _ (by omega) (by omega) lp3Nd lp3Asf lp3Ast (by omega) lp3fr hW hS (lv_sub hl [0, 5, 6] rfl)
                          · have g196 := z_f_eq rfl z_l9 c142
                            refine lv_lload hx hb dX12_works_267 (lv_at hl 2 rfl) ?_
                            refine lv_lload hx hb dX12_works_269 (lv_at hl 1 rfl) ?_
                            refine W.lcmp hx hb dX12_works_271 ?_
                            refine lv_topi (fun x197 ex197 => ?_)
                            have tx197 := z_tcmp ex197
                            refine lv_if_le (tgt := 279) hx hb dX12_works_272 (by decide) (fun c198 => ?_) (fun c198 => ?_)
                            · have g199 := z_f_le rfl z_l0 c198
                              refine lv_lconst (v := 0) hx hb dX12_works_279 (by decide) ?_
                              refine lv_lstore (lv' := [(8, .long 0), (6, .long w123), (4, .long w81), (3, .int x14), (2, .int y4), (0, .ref (ad 0)), (1, .int a1)]) hx hb dX12_works_280 hl (by decide) rfl (fun ls hl => ?_)
                              refine lv_goto (tgt := 383) hx hb dX12_works_282 (by decide) ?_
                              refine lv_aload_n hx hb dX12_works_383 rfl (lv_at hl 5 rfl) ?_
                              refine z_get (T := TX12) (N := 96) (ci := 12) (i := 0) (v := .ref (ad 24)) hx hb hts zj_X12_works_X12 hown hK hW rfl rfl 29 (by decide) (hts (.fieldLink RX12 79 "PetrolBoardModel" "result" "[J") (me_s (me_l (List.mem_of_getElem? (i := 3) rfl)))) (fun _ h => h) rfl dX12_works_384 ?_
                              refine lv_iload_n hx hb dX12_works_387 rfl (lv_at hl 4 rfl) ?_
                              refine lv_lload hx hb dX12_works_388 (lv_at hl 0 rfl) ?_
                              refine z_cl hW hS hA (va_runS (As := [.long 0]) (rest := [.int y4, .ref (ad 24)]) ⟨hx, hb, hml, hown, hts⟩ (sx_X12_held l G ad I5 J6  0 _) (va_cwS 1 hts gX12_works_X12_held rfl rfl rfl hy_X12_held.2 ⟨Nat.le_of_ble_eq_true rfl, Nat.le_of_ble_eq_true rfl⟩) (z_preS hK hW) rfl rfl hl.1 rfl (lv_room (Nat.le_of_ble_eq_true rfl)) dX12_works_390 ⟨Nat.le_of_ble_eq_true rfl, Nat.le_of_ble_eq_true rfl⟩) (fun r u1 H locs hp hW hS => ?_)
                              rw [hp] at hW
                              refine lv_topl (fun x200 ex200 => ?_)
                              refine z_last (i := 24) hx hb hK hW hS rfl (z_ix rfl (by omega) (by omega)) dX12_works_393 (fun H locs hz1 hW hS => ?_)
                              obtain ⟨J201, eJ201⟩ : ∃ K : z_J, K = z_up J6 24 y4.toNatClampNeg x200 := ⟨_, rfl⟩
                              rw [← eJ201] at hW
                              obtain ⟨x202, ex202⟩ : ∃ y : Int32, y = y4 + 1 := ⟨_, rfl⟩
                              have tx202 : x202.toInt = y4.toInt + 1 := z_tadd ex202 rfl z_l1 (by omega) (by omega)
                              refine lv_iinc (v := x202) (lv' := [(2, .int x202), (8, .long 0), (6, .long w123), (4, .long w81), (3, .int x14), (0, .ref (ad 0)), (1, .int a1)]) hx hb dX12_works_394 hl (k := 4) rfl (by rw [ex202]; rfl) (by decide) rfl (fun ls hl => ?_)
                              refine lv_goto (tgt := 7) hx hb dX12_works_397 (by decide) ?_
                              exact lp3ih x202 I5 J201 _ _ _ (by omega) (by omega) lp3Nd lp3Asf lp3Ast (by omega) lp3fr hW hS (lv_sub hl [0, 5, 6] rfl)
                            · have g203 := z_f_nle rfl z_l0 c198
                              refine lv_lconst (v := 1) hx hb dX12_works_275 (by decide) ?_
                              refine lv_goto (tgt := 280) hx hb dX12_works_276 (by decide) ?_
                              refine lv_lstore (lv' := [(8, .long 1), (6, .long w123), (4, .long w81), (3, .int x14), (2, .int y4), (0, .ref (ad 0)), (1, .int a1)]) hx hb dX12_works_280 hl (by decide) rfl (fun ls hl => ?_)
                              refine lv_goto (tgt := 383) hx hb dX12_works_282 (by decide) ?_
                              refine lv_aload_n hx hb dX12_works_383 rfl (lv_at hl 5 rfl) ?_
                              refine z_get (T := TX12) (N := 96) (ci := 12) (i := 0) (v := .ref (ad 24)) hx hb hts zj_X12_works_X12 hown hK hW rfl rfl 29 (by decide) (hts (.fieldLink RX12 79 "PetrolBoardModel" "result" "[J") (me_s (me_l (List.mem_of_getElem? (i := 3) rfl)))) (fun _ h => h) rfl dX12_works_384 ?_
                              refine lv_iload_n hx hb dX12_works_387 rfl (lv_at hl 4 rfl) ?_
                              refine lv_lload hx hb dX12_works_388 (lv_at hl 0 rfl) ?_
                              refine z_cl hW hS hA (va_runS (As := [.long 1]) (rest := [.int y4, .ref (ad 24)]) ⟨hx, hb, hml, hown, hts⟩ (sx_X12_held l G ad I5 J6  1 _) (va_cwS 1 hts gX12_works_X12_held rfl rfl rfl hy_X12_held.2 ⟨Nat.le_of_ble_eq_true rfl, Nat.le_of_ble_eq_true rfl⟩) (z_preS hK hW) rfl rfl hl.1 rfl (lv_room (Nat.le_of_ble_eq_true rfl)) dX12_works_390 ⟨Nat.le_of_ble_eq_true rfl, Nat.le_of_ble_eq_true rfl⟩) (fun r u1 H locs hp hW hS => ?_)
                              rw [hp] at hW
                              refine lv_topl (fun x204 ex204 => ?_)
                              refine z_last (i := 24) hx hb hK hW hS rfl (z_ix rfl (by omega) (by omega)) dX12_works_393 (fun H locs hz1 hW hS => ?_)
                              obtain ⟨J205, eJ205⟩ : ∃ K : z_J, K = z_up J6 24 y4.toNatClampNeg x204 := ⟨_, rfl⟩
                              rw [← eJ205] at hW
                              obtain ⟨x206, ex206⟩ : ∃ y : Int32, y = y4 + 1 := ⟨_, rfl⟩
                              have tx206 : x206.toInt = y4.toInt + 1 := z_tadd ex206 rfl z_l1 (by omega) (by omega)
                              refine lv_iinc (v := x206) (lv' := [(2, .int x206), (8, .long 1), (6, .long w123), (4, .long w81), (3, .int x14), (0, .ref (ad 0)), (1, .int a1)]) hx hb dX12_works_394 hl (k := 4) rfl (by rw [ex206]; rfl) (by decide) rfl (fun ls hl => ?_)
                              refine lv_goto (tgt := 7) hx hb dX12_works_397 (by decide) ?_
                              exact lp3ih x206 I5 J205 _ _ _ (by omega) (by omega) lp3Nd lp3Asf lp3Ast (by omega) lp3fr hW hS (lv_sub hl [0, 5, 6] rfl)
                        · have g207 := z_f_eq rfl z_l8 c140
                          refine lv_lload hx hb dX12_works_243 (lv_at hl 2 rfl) ?_
                          refine lv_lload hx hb dX12_works_245 (lv_at hl 1 rfl) ?_
                          refine W.lcmp hx hb dX12_works_247 ?_
                          refine lv_topi (fun x208 ex208 => ?_)
                          have tx208 := z_tcmp ex208
                          refine lv_if_ge (tgt := 255) hx hb dX12_works_248 (by decide) (fun c209 => ?_) (fun c209 => ?_)
                          · have g210 := z_f_ge rfl z_l0 c209
                            refine lv_lconst (v := 0) hx hb dX12_works_255 (by decide) ?_
                            refine lv_lstore (lv' := [(8, .long 0), (6, .long w123), (4, .long w81), (3, .int x14), (2, .int y4), (0, .ref (ad 0)), (1, .int a1)]) hx hb dX12_works_256 hl (by decide) rfl (fun ls hl => ?_)
                            refine lv_goto (tgt := 383) hx hb dX12_works_258 (by decide) ?_
                            refine lv_aload_n hx hb dX12_works_383 rfl (lv_at hl 5 rfl) ?_
                            refine z_get (T := TX12) (N := 96) (ci := 12) (i := 0) (v := .ref (ad 24)) hx hb hts zj_X12_works_X12 hown hK hW rfl rfl 29 (by decide) (hts (.fieldLink RX12 79 "PetrolBoardModel" "result" "[J") (me_s (me_l (List.mem_of_getElem? (i := 3) rfl)))) (fun _ h => h) rfl dX12_works_384 ?_
                            refine lv_iload_n hx hb dX12_works_387 rfl (lv_at hl 4 rfl) ?_
                            refine lv_lload hx hb dX12_works_388 (lv_at hl 0 rfl) ?_
                            refine z_cl hW hS hA (va_runS (As := [.long 0]) (rest := [.int y4, .ref (ad 24)]) ⟨hx, hb, hml, hown, hts⟩ (sx_X12_held l G ad I5 J6  0 _) (va_cwS 1 hts gX12_works_X12_held rfl rfl rfl hy_X12_held.2 ⟨Nat.le_of_ble_eq_true rfl, Nat.le_of_ble_eq_true rfl⟩) (z_preS hK hW) rfl rfl hl.1 rfl (lv_room (Nat.le_of_ble_eq_true rfl)) dX12_works_390 ⟨Nat.le_of_ble_eq_true rfl, Nat.le_of_ble_eq_true rfl⟩) (fun r u1 H locs hp hW hS => ?_)
                            rw [hp] at hW
                            refine lv_topl (fun x211 ex211 => ?_)
                            refine z_last (i := 24) hx hb hK hW hS rfl (z_ix rfl (by omega) (by omega)) dX12_works_393 (fun H locs hz1 hW hS => ?_)
                            obtain ⟨J212, eJ212⟩ : ∃ K : z_J, K = z_up J6 24 y4.toNatClampNeg x211 := ⟨_, rfl⟩
                            rw [← eJ212] at hW
                            obtain ⟨x213, ex213⟩ : ∃ y : Int32, y = y4 + 1 := ⟨_, rfl⟩
                            have tx213 : x213.toInt = y4.toInt + 1 := z_tadd ex213 rfl z_l1 (by omega) (by omega)
                            refine lv_iinc (v := x213) (lv' := [(2, .int x213), (8, .long 0), (6, .long w123), (4, .long w81), (3, .int x14), (0, .ref (ad 0)), (1, .int a1)]) hx hb dX12_works_394 hl (k := 4) rfl (by rw [ex213]; rfl) (by decide) rfl (fun ls hl => ?_)
                            refine lv_goto (tgt := 7) hx hb dX12_works_397 (by decide) ?_
                            exact lp3ih x213 I5 J212 _ _ _ (by omega) (by omega) lp3Nd lp3Asf lp3Ast (by omega) lp3fr hW hS (lv_sub hl [0, 5, 6] rfl)
                          · have g214 := z_f_nge rfl z_l0 c209
                            refine lv_lconst (v := 1) hx hb dX12_works_251 (by decide) ?_
                            refine lv_goto (tgt := 256) hx hb dX12_works_252 (by decide) ?_
                            refine lv_lstore (lv' := [(8, .long 1), (6, .long w123), (4, .long w81), (3, .int x14), (2, .int y4), (0, .ref (ad 0)), (1, .int a1)]) hx hb dX12_works_256 hl (by decide) rfl (fun ls hl => ?_)
                            refine lv_goto (tgt := 383) hx hb dX12_works_258 (by decide) ?_
                            refine lv_aload_n hx hb dX12_works_383 rfl (lv_at hl 5 rfl) ?_
                            refine z_get (T := TX12) (N := 96) (ci := 12) (i := 0) (v := .ref (ad 24)) hx hb hts zj_X12_works_X12 hown hK hW rfl rfl 29 (by decide) (hts (.fieldLink RX12 79 "PetrolBoardModel" "result" "[J") (me_s (me_l (List.mem_of_getElem? (i := 3) rfl)))) (fun _ h => h) rfl dX12_works_384 ?_
                            refine lv_iload_n hx hb dX12_works_387 rfl (lv_at hl 4 rfl) ?_
                            refine lv_lload hx hb dX12_works_388 (lv_at hl 0 rfl) ?_
                            refine z_cl hW hS hA (va_runS (As := [.long 1]) (rest := [.int y4, .ref (ad 24)]) ⟨hx, hb, hml, hown, hts⟩ (sx_X12_held l G ad I5 J6  1 _) (va_cwS 1 hts gX12_works_X12_held rfl rfl rfl hy_X12_held.2 ⟨Nat.le_of_ble_eq_true rfl, Nat.le_of_ble_eq_true rfl⟩) (z_preS hK hW) rfl rfl hl.1 rfl (lv_room (Nat.le_of_ble_eq_true rfl)) dX12_works_390 ⟨Nat.le_of_ble_eq_true rfl, Nat.le_of_ble_eq_true rfl⟩) (fun r u1 H locs hp hW hS => ?_)
                            rw [hp] at hW
                            refine lv_topl (fun x215 ex215 => ?_)
                            refine z_last (i := 24) hx hb hK hW hS rfl (z_ix rfl (by omega) (by omega)) dX12_works_393 (fun H locs hz1 hW hS => ?_)
                            obtain ⟨J216, eJ216⟩ : ∃ K : z_J, K = z_up J6 24 y4.toNatClampNeg x215 := ⟨_, rfl⟩
                            rw [← eJ216] at hW
                            obtain ⟨x217, ex217⟩ : ∃ y : Int32, y = y4 + 1 := ⟨_, rfl⟩
                            have tx217 : x217.toInt = y4.toInt + 1 := z_tadd ex217 rfl z_l1 (by omega) (by omega)
                            refine lv_iinc (v := x217) (lv' := [(2, .int x217), (8, .long 1), (6, .long w123), (4, .long w81), (3, .int x14), (0, .ref (ad 0)), (1, .int a1)]) hx hb dX12_works_394 hl (k := 4) rfl (by rw [ex217]; rfl) (by decide) rfl (fun ls hl => ?_)
                            refine lv_goto (tgt := 7) hx hb dX12_works_397 (by decide) ?_
                            exact lp3ih x217 I5 J216 _ _ _ (by omega) (by omega) lp3Nd lp3Asf lp3Ast (by omega) lp3fr hW hS (lv_sub hl [0, 5, 6] rfl)
                      · have g218 := z_f_eq rfl z_l7 c138
                        refine lv_lload hx hb dX12_works_217 (lv_at hl 2 rfl) ?_
                        refine lv_lload hx hb dX12_works_219 (lv_at hl 1 rfl) ?_
                        refine W.lcmp hx hb dX12_works_221 ?_
                        refine lv_topi (fun x219 ex219 => ?_)
                        have tx219 := z_tcmp ex219
                        refine lv_if_le (tgt := 230) hx hb dX12_works_222 (by decide) (fun c220 => ?_) (fun c220 => ?_)
                        · have g221 := z_f_le rfl z_l0 c220
                          refine lv_lload hx hb dX12_works_230 (lv_at hl 1 rfl) ?_
                          refine lv_lstore (lv' := [(8, .long w123), (6, .long w123), (4, .long w81), (3, .int x14), (2, .int y4), (0, .ref (ad 0)), (1, .int a1)]) hx hb dX12_works_232 hl (by decide) rfl (fun ls hl => ?_)
                          refine lv_goto (tgt := 383) hx hb dX12_works_234 (by decide) ?_
                          refine lv_aload_n hx hb dX12_works_383 rfl (lv_at hl 5 rfl) ?_
                          refine z_get (T := TX12) (N := 96) (ci := 12) (i := 0) (v := .ref (ad 24)) hx hb hts zj_X12_works_X12 hown hK hW rfl rfl 29 (by decide) (hts (.fieldLink RX12 79 "PetrolBoardModel" "result" "[J") (me_s (me_l (List.mem_of_getElem? (i := 3) rfl)))) (fun _ h => h) rfl dX12_works_384 ?_
                          refine lv_iload_n hx hb dX12_works_387 rfl (lv_at hl 4 rfl) ?_
                          refine lv_lload hx hb dX12_works_388 (lv_at hl 0 rfl) ?_
                          refine z_cl hW hS hA (va_runS (As := [.long w123]) (rest := [.int y4, .ref (ad 24)]) ⟨hx, hb, hml, hown, hts⟩ (sx_X12_held l G ad I5 J6  w123 _) (va_cwS 1 hts gX12_works_X12_held rfl rfl rfl hy_X12_held.2 ⟨Nat.le_of_ble_eq_true rfl, Nat.le_of_ble_eq_true rfl⟩) (z_preS hK hW) rfl rfl hl.1 rfl (lv_room (Nat.le_of_ble_eq_true rfl)) dX12_works_390 ⟨Nat.le_of_ble_eq_true rfl, Nat.le_of_ble_eq_true rfl⟩) (fun r u1 H locs hp hW hS => ?_)
                          rw [hp] at hW
                          refine lv_topl (fun x222 ex222 => ?_)
                          refine z_last (i := 24) hx hb hK hW hS rfl (z_ix rfl (by omega) (by omega)) dX12_works_393 (fun H locs hz1 hW hS => ?_)
                          obtain ⟨J223, eJ223⟩ : ∃ K : z_J, K = z_up J6 24 y4.toNatClampNeg x222 := ⟨_, rfl⟩
                          rw [← eJ223] at hW
                          obtain ⟨x224, ex224⟩ : ∃ y : Int32, y = y4 + 1 := ⟨_, rfl⟩
                          have tx224 : x224.toInt = y4.toInt + 1 := z_tadd ex224 rfl z_l1 (by omega) (by omega)
                          refine lv_iinc (v := x224) (lv' := [(2, .int x224), (8, .long w123), (6, .long w123), (4, .long w81), (3, .int x14), (0, .ref (ad 0)), (1, .int a1)]) hx hb dX12_works_394 hl (k := 4) rfl (by rw [ex224]; rfl) (by decide) rfl (fun ls hl => ?_)
                          refine lv_goto (tgt := 7) hx hb dX12_works_397 (by decide) ?_
                          exact lp3ih x224 I5 J223 _ _ _ (by omega) (by omega) lp3Nd lp3Asf lp3Ast (by omega) lp3fr hW hS (lv_sub hl [0, 5, 6] rfl)
                        · have g225 := z_f_nle rfl z_l0 c220
                          refine lv_lload hx hb dX12_works_225 (lv_at hl 2 rfl) ?_
                          refine lv_goto (tgt := 232) hx hb dX12_works_227 (by decide) ?_
                          refine lv_lstore (lv' := [(8, .long w81), (6, .long w123), (4, .long w81), (3, .int x14), (2, .int y4), (0, .ref (ad 0)), (1, .int a1)]) hx hb dX12_works_232 hl (by decide) rfl (fun ls hl => ?_)
                          refine lv_goto (tgt := 383) hx hb dX12_works_234 (by decide) ?_
                          refine lv_aload_n hx hb dX12_works_383 rfl (lv_at hl 5 rfl) ?_
                          refine z_get (T := TX12) (N := 96) (ci := 12) (i := 0) (v := .ref (ad 24)) hx hb hts zj_X12_works_X12 hown hK hW rfl rfl 29 (by decide) (hts (.fieldLink RX12 79 "PetrolBoardModel" "result" "[J") (me_s (me_l (List.mem_of_getElem? (i := 3) rfl)))) (fun _ h => h) rfl dX12_works_384 ?_
                          refine lv_iload_n hx hb dX12_works_387 rfl (lv_at hl 4 rfl) ?_
                          refine lv_lload hx hb dX12_works_388 (lv_at hl 0 rfl) ?_
                          refine z_cl hW hS hA (va_runS (As := [.long w81]) (rest := [.int y4, .ref (ad 24)]) ⟨hx, hb, hml, hown, hts⟩ (sx_X12_held l G ad I5 J6  w81 _) (va_cwS 1 hts gX12_works_X12_held rfl rfl rfl hy_X12_held.2 ⟨Nat.le_of_ble_eq_true rfl, Nat.le_of_ble_eq_true rfl⟩) (z_preS hK hW) rfl rfl hl.1 rfl (lv_room (Nat.le_of_ble_eq_true rfl)) dX12_works_390 ⟨Nat.le_of_ble_eq_true rfl, Nat.le_of_ble_eq_true rfl⟩) (fun r u1 H locs hp hW hS => ?_)
                          rw [hp] at hW
                          refine lv_topl (fun x226 ex226 => ?_)
                          refine z_last (i := 24) hx hb hK hW hS rfl (z_ix rfl (by omega) (by omega)) dX12_works_393 (fun H locs hz1 hW hS => ?_)
                          obtain ⟨J227, eJ227⟩ : ∃ K : z_J, K = z_up J6 24 y4.toNatClampNeg x226 := ⟨_, rfl⟩
                          rw [← eJ227] at hW
                          obtain ⟨x228, ex228⟩ : ∃ y : Int32, y = y4 + 1 := ⟨_, rfl⟩
                          have tx228 : x228.toInt = y4.toInt + 1 := z_tadd ex228 rfl z_l1 (by omega) (by omega)
                          refine lv_iinc (v := x228) (lv' := [(2, .int x228), (8, .long w81), (6, .long w123), (4, .long w81), (3, .int x14), (0, .ref (ad 0)), (1, .int a1)]) hx hb dX12_works_394 hl (k := 4) rfl (by rw [ex228]; rfl) (by decide) rfl (fun ls hl => ?_)
                          refine lv_goto (tgt := 7) hx hb dX12_works_397 (by decide) ?_
                          exact lp3ih x228 I5 J227 _ _ _ (by omega) (by omega) lp3Nd lp3Asf lp3Ast (by omega) lp3fr hW hS (lv_sub hl [0, 5, 6] rfl)
                    · have g229 := z_f_eq rfl z_l6 c136
                      refine lv_lload hx hb dX12_works_191 (lv_at hl 2 rfl) ?_
                      refine lv_lload hx hb dX12_works_193 (lv_at hl 1 rfl) ?_
                      refine W.lcmp hx hb dX12_works_195 ?_
                      refine lv_topi (fun x230 ex230 => ?_)
                      have tx230 := z_tcmp ex230
                      refine lv_if_ge (tgt := 204) hx hb dX12_works_196 (by decide) (fun c231 => ?_) (fun c231 => ?_)
                      · have g232 := z_f_ge rfl z_l0 c231
                        refine lv_lload hx hb dX12_works_204 (lv_at hl 1 rfl) ?_
                        refine lv_lstore (lv' := [(8, .long w123), (6, .long w123), (4, .long w81), (3, .int x14), (2, .int y4), (0, .ref (ad 0)), (1, .int a1)]) hx hb dX12_works_206 hl (by decide) rfl (fun ls hl => ?_)
                        refine lv_goto (tgt := 383) hx hb dX12_works_208 (by decide) ?_
                        refine lv_aload_n hx hb dX12_works_383 rfl (lv_at hl 5 rfl) ?_
                        refine z_get (T := TX12) (N := 96) (ci := 12) (i := 0) (v := .ref (ad 24)) hx hb hts zj_X12_works_X12 hown hK hW rfl rfl 29 (by decide) (hts (.fieldLink RX12 79 "PetrolBoardModel" "result" "[J") (me_s (me_l (List.mem_of_getElem? (i := 3) rfl)))) (fun _ h => h) rfl dX12_works_384 ?_
                        refine lv_iload_n hx hb dX12_works_387 rfl (lv_at hl 4 rfl) ?_
                        refine lv_lload hx hb dX12_works_388 (lv_at hl 0 rfl) ?_
                        refine z_cl hW hS hA (va_runS (As := [.long w123]) (rest := [.int y4, .ref (ad 24)]) ⟨hx, hb, hml, hown, hts⟩ (sx_X12_held l G ad I5 J6  w123 _) (va_cwS 1 hts gX12_works_X12_held rfl rfl rfl hy_X12_held.2 ⟨Nat.le_of_ble_eq_true rfl, Nat.le_of_ble_eq_true rfl⟩) (z_preS hK hW) rfl rfl hl.1 rfl (lv_room (Nat.le_of_ble_eq_true rfl)) dX12_works_390 ⟨Nat.le_of_ble_eq_true rfl, Nat.le_of_ble_eq_true rfl⟩) (fun r u1 H locs hp hW hS => ?_)
                        rw [hp] at hW
                        refine lv_topl (fun x233 ex233 => ?_)
                        refine z_last (i := 24) hx hb hK hW hS rfl (z_ix rfl (by omega) (by omega)) dX12_works_393 (fun H locs hz1 hW hS => ?_)
                        obtain ⟨J234, eJ234⟩ : ∃ K : z_J, K = z_up J6 24 y4.toNatClampNeg x233 := ⟨_, rfl⟩
                        rw [← eJ234] at hW
                        obtain ⟨x235, ex235⟩ : ∃ y : Int32, y = y4 + 1 := ⟨_, rfl⟩
                        have tx235 : x235.toInt = y4.toInt + 1 := z_tadd ex235 rfl z_l1 (by omega) (by omega)
                        refine lv_iinc (v := x235) (lv' := [(2, .int x235), (8, .long w123), (6, .long w123), (4, .long w81), (3, .int x14), (0, .ref (ad 0)), (1, .int a1)]) hx hb dX12_works_394 hl (k := 4) rfl (by rw [ex235]; rfl) (by decide) rfl (fun ls hl => ?_)
                        refine lv_goto (tgt := 7) hx hb dX12_works_397 (by decide) ?_
                        exact lp3ih x235 I5 J234 _ _ _ (by omega) (by omega) lp3Nd lp3Asf lp3Ast (by omega) lp3fr hW hS (lv_sub hl [0, 5, 6] rfl)
                      · have g236 := z_f_nge rfl z_l0 c231
                        refine lv_lload hx hb dX12_works_199 (lv_at hl 2 rfl) ?_
                        refine lv_goto (tgt := 206) hx hb dX12_works_201 (by decide) ?_
                        refine lv_lstore (lv' := [(8, .long w81), (6, .long w123), (4, .long w81), (3, .int x14), (2, .int y4), (0, .ref (ad 0)), (1, .int a1)]) hx hb dX12_works_206 hl (by decide) rfl (fun ls hl => ?_)
                        refine lv_goto (tgt := 383) hx hb dX12_works_208 (by decide) ?_
                        refine lv_aload_n hx hb dX12_works_383 rfl (lv_at hl 5 rfl) ?_
                        refine z_get (T := TX12) (N := 96) (ci := 12) (i := 0) (v := .ref (ad 24)) hx hb hts zj_X12_works_X12 hown hK hW rfl rfl 29 (by decide) (hts (.fieldLink RX12 79 "PetrolBoardModel" "result" "[J") (me_s (me_l (List.mem_of_getElem? (i := 3) rfl)))) (fun _ h => h) rfl dX12_works_384 ?_
                        refine lv_iload_n hx hb dX12_works_387 rfl (lv_at hl 4 rfl) ?_
                        refine lv_lload hx hb dX12_works_388 (lv_at hl 0 rfl) ?_
                        refine z_cl hW hS hA (va_runS (As := [.long w81]) (rest := [.int y4, .ref (ad 24)]) ⟨hx, hb, hml, hown, hts⟩ (sx_X12_held l G ad I5 J6  w81 _) (va_cwS 1 hts gX12_works_X12_held rfl rfl rfl hy_X12_held.2 ⟨Nat.le_of_ble_eq_true rfl, Nat.le_of_ble_eq_true rfl⟩) (z_preS hK hW) rfl rfl hl.1 rfl (lv_room (Nat.le_of_ble_eq_true rfl)) dX12_works_390 ⟨Nat.le_of_ble_eq_true rfl, Nat.le_of_ble_eq_true rfl⟩) (fun r u1 H locs hp hW hS => ?_)
                        rw [hp] at hW
                        refine lv_topl (fun x237 ex237 => ?_)
                        refine z_last (i := 24) hx hb hK hW hS rfl (z_ix rfl (by omega) (by omega)) dX12_works_393 (fun H locs hz1 hW hS => ?_)
                        obtain ⟨J238, eJ238⟩ : ∃ K : z_J, K = z_up J6 24 y4.toNatClampNeg x237 := ⟨_, rfl⟩
                        rw [← eJ238] at hW
                        obtain ⟨x239, ex239⟩ : ∃ y : Int32, y = y4 + 1 := ⟨_, rfl⟩
                        have tx239 : x239.toInt = y4.toInt + 1 := z_tadd ex239 rfl z_l1 (by omega) (by omega)
                        refine lv_iinc (v := x239) (lv' := [(2, .int x239), (8, .long w81), (6, .long w123), (4, .long w81), (3, .int x14), (0, .ref (ad 0)), (1, .int a1)]) hx hb dX12_works_394 hl (k := 4) rfl (by rw [ex239]; rfl) (by decide) rfl (fun ls hl => ?_)
                        refine lv_goto (tgt := 7) hx hb dX12_works_397 (by decide) ?_
                        exact lp3ih x239 I5 J238 _ _ _ (by omega) (by omega) lp3Nd lp3Asf lp3Ast (by omega) lp3fr hW hS (lv_sub hl [0, 5, 6] rfl)
                  · have g240 := z_f_eq rfl z_l5 c134
                    refine lv_lload hx hb dX12_works_164 (lv_at hl 1 rfl) ?_
                    refine lv_lconst (v := 0) hx hb dX12_works_166 (by decide) ?_
                    refine W.lcmp hx hb dX12_works_167 ?_
                    refine lv_topi (fun x241 ex241 => ?_)
                    have tx241 := z_tcmp ex241
                    refine lv_if_ne (tgt := 175) hx hb dX12_works_168 (by decide) (fun c242 => ?_) (fun c242 => ?_)
                    · have g243 := z_f_ne rfl z_l0 c242
                      refine lv_lload hx hb dX12_works_175 (lv_at hl 2 rfl) ?_
                      refine lv_lload hx hb dX12_works_177 (lv_at hl 1 rfl) ?_
                      refine lv_ldiv hx hb dX12_works_179 (fun q => absurd (z_cmp0 ex241 q) (by omega)) ?_
                      refine lv_topl (fun w244 ew244 => ?_)
                      refine lv_lstore (lv' := [(8, .long w244), (6, .long w123), (4, .long w81), (3, .int x14), (2, .int y4), (0, .ref (ad 0)), (1, .int a1)]) hx hb dX12_works_180 hl (by decide) rfl (fun ls hl => ?_)
                      refine lv_goto (tgt := 383) hx hb dX12_works_182 (by decide) ?_
                      refine lv_aload_n hx hb dX12_works_383 rfl (lv_at hl 5 rfl) ?_
                      refine z_get (T := TX12) (N := 96) (ci := 12) (i := 0) (v := .ref (ad 24)) hx hb hts zj_X12_works_X12 hown hK hW rfl rfl 29 (by decide) (hts (.fieldLink RX12 79 "PetrolBoardModel" "result" "[J") (me_s (me_l (List.mem_of_getElem? (i := 3) rfl)))) (fun _ h => h) rfl dX12_works_384 ?_
                      refine lv_iload_n hx hb dX12_works_387 rfl (lv_at hl 4 rfl) ?_
                      refine lv_lload hx hb dX12_works_388 (lv_at hl 0 rfl) ?_
                      refine z_cl hW hS hA (va_runS (As := [.long w244]) (rest := [.int y4, .ref (ad 24)]) ⟨hx, hb, hml, hown, hts⟩ (sx_X12_held l G ad I5 J6  w244 _) (va_cwS 1 hts gX12_works_X12_held rfl rfl rfl hy_X12_held.2 ⟨Nat.le_of_ble_eq_true rfl, Nat.le_of_ble_eq_true rfl⟩) (z_preS hK hW) rfl rfl hl.1 rfl (lv_room (Nat.le_of_ble_eq_true rfl)) dX12_works_390 ⟨Nat.le_of_ble_eq_true rfl, Nat.le_of_ble_eq_true rfl⟩) (fun r u1 H locs hp hW hS => ?_)
                      rw [hp] at hW
                      refine lv_topl (fun x245 ex245 => ?_)
                      refine z_last (i := 24) hx hb hK hW hS rfl (z_ix rfl (by omega) (by omega)) dX12_works_393 (fun H locs hz1 hW hS => ?_)
                      obtain ⟨J246, eJ246⟩ : ∃ K : z_J, K = z_up J6 24 y4.toNatClampNeg x245 := ⟨_, rfl⟩
                      rw [← eJ246] at hW
                      obtain ⟨x247, ex247⟩ : ∃ y : Int32, y = y4 + 1 := ⟨_, rfl⟩
                      have tx247 : x247.toInt = y4.toInt + 1 := z_tadd ex247 rfl z_l1 (by omega) (by omega)
                      refine lv_iinc (v := x247) (lv' := [(2, .int x247), (8, .long w244), (6, .long w123), (4, .long w81), (3, .int x14), (0, .ref (ad 0)), (1, .int a1)]) hx hb dX12_works_394 hl (k := 4) rfl (by rw [ex247]; rfl) (by decide) rfl (fun ls hl => ?_)
                      refine lv_goto (tgt := 7) hx hb dX12_works_397 (by decide) ?_
                      exact lp3ih x247 I5 J246 _ _ _ (by omega) (by omega) lp3Nd lp3Asf lp3Ast (by omega) lp3fr hW hS (lv_sub hl [0, 5, 6] rfl)
                    · have g248 := z_f_eq rfl z_l0 c242
                      refine lv_lconst (v := 0) hx hb dX12_works_171 (by decide) ?_
                      refine lv_goto (tgt := 180) hx hb dX12_works_172 (by decide) ?_
                      refine lv_lstore (lv' := [(8, .long 0), (6, .long w123), (4, .long w81), (3, .int x14), (2, .int y4), (0, .ref (ad 0)), (1, .int a1)]) hx hb dX12_works_180 hl (by decide) rfl (fun ls hl => ?_)
                      refine lv_goto (tgt := 383) hx hb dX12_works_182 (by decide) ?_
                      refine lv_aload_n hx hb dX12_works_383 rfl (lv_at hl 5 rfl) ?_
                      refine z_get (T := TX12) (N := 96) (ci := 12) (i := 0) (v := .ref (ad 24)) hx hb hts zj_X12_works_X12 hown hK hW rfl rfl 29 (by decide) (hts (.fieldLink RX12 79 "PetrolBoardModel" "result" "[J") (me_s (me_l (List.mem_of_getElem? (i := 3) rfl)))) (fun _ h => h) rfl dX12_works_384 ?_
                      refine lv_iload_n hx hb dX12_works_387 rfl (lv_at hl 4 rfl) ?_
                      refine lv_lload hx hb dX12_works_388 (lv_at hl 0 rfl) ?_
                      refine z_cl hW hS hA (va_runS (As := [.long 0]) (rest := [.int y4, .ref (ad 24)]) ⟨hx, hb, hml, hown, hts⟩ (sx_X12_held l G ad I5 J6  0 _) (va_cwS 1 hts gX12_works_X12_held rfl rfl rfl hy_X12_held.2 ⟨Nat.le_of_ble_eq_true rfl, Nat.le_of_ble_eq_true rfl⟩) (z_preS hK hW) rfl rfl hl.1 rfl (lv_room (Nat.le_of_ble_eq_true rfl)) dX12_works_390 ⟨Nat.le_of_ble_eq_true rfl, Nat.le_of_ble_eq_true rfl⟩) (fun r u1 H locs hp hW hS => ?_)
                      rw [hp] at hW
                      refine lv_topl (fun x249 ex249 => ?_)
                      refine z_last (i := 24) hx hb hK hW hS rfl (z_ix rfl (by omega) (by omega)) dX12_works_393 (fun H locs hz1 hW hS => ?_)
                      obtain ⟨J250, eJ250⟩ : ∃ K : z_J, K = z_up J6 24 y4.toNatClampNeg x249 := ⟨_, rfl⟩
                      rw [← eJ250] at hW
                      obtain ⟨x251, ex251⟩ : ∃ y : Int32, y = y4 + 1 := ⟨_, rfl⟩
                      have tx251 : x251.toInt = y4.toInt + 1 := z_tadd ex251 rfl z_l1 (by omega) (by omega)
                      refine lv_iinc (v := x251) (lv' := [(2, .int x251), (8, .long 0), (6, .long w123), (4, .long w81), (3, .int x14), (0, .ref (ad 0)), (1, .int a1)]) hx hb dX12_works_394 hl (k := 4) rfl (by rw [ex251]; rfl) (by decide) rfl (fun ls hl => ?_)
                      refine lv_goto (tgt := 7) hx hb dX12_works_397 (by decide) ?_
                      exact lp3ih x251 I5 J250 _ _ _ (by omega) (by omega) lp3Nd lp3Asf lp3Ast (by omega) lp3fr hW hS (lv_sub hl [0, 5, 6] rfl)
                · have g252 := z_f_eq rfl z_l4 c132
                  refine lv_lload hx hb dX12_works_149 (lv_at hl 2 rfl) ?_
                  refine lv_lload hx hb dX12_works_151 (lv_at hl 1 rfl) ?_
                  refine lv_lmul hx hb dX12_works_153 ?_
                  refine lv_topl (fun w253 ew253 => ?_)
                  refine lv_lstore (lv' := [(8, .long w253), (6, .long w123), (4, .long w81), (3, .int x14), (2, .int y4), (0, .ref (ad 0)), (1, .int a1)]) hx hb dX12_works_154 hl (by decide) rfl (fun ls hl => ?_)
                  refine lv_goto (tgt := 383) hx hb dX12_works_156 (by decide) ?_
                  refine lv_aload_n hx hb dX12_works_383 rfl (lv_at hl 5 rfl) ?_
                  refine z_get (T := TX12) (N := 96) (ci := 12) (i := 0) (v := .ref (ad 24)) hx hb hts zj_X12_works_X12 hown hK hW rfl rfl 29 (by decide) (hts (.fieldLink RX12 79 "PetrolBoardModel" "result" "[J") (me_s (me_l (List.mem_of_getElem? (i := 3) rfl)))) (fun _ h => h) rfl dX12_works_384 ?_
                  refine lv_iload_n hx hb dX12_works_387 rfl (lv_at hl 4 rfl) ?_
                  refine lv_lload hx hb dX12_works_388 (lv_at hl 0 rfl) ?_
                  refine z_cl hW hS hA (va_runS (As := [.long w253]) (rest := [.int y4, .ref (ad 24)]) ⟨hx, hb, hml, hown, hts⟩ (sx_X12_held l G ad I5 J6  w253 _) (va_cwS 1 hts gX12_works_X12_held rfl rfl rfl hy_X12_held.2 ⟨Nat.le_of_ble_eq_true rfl, Nat.le_of_ble_eq_true rfl⟩) (z_preS hK hW) rfl rfl hl.1 rfl (lv_room (Nat.le_of_ble_eq_true rfl)) dX12_works_390 ⟨Nat.le_of_ble_eq_true rfl, Nat.le_of_ble_eq_true rfl⟩) (fun r u1 H locs hp hW hS => ?_)
                  rw [hp] at hW
                  refine lv_topl (fun x254 ex254 => ?_)
                  refine z_last (i := 24) hx hb hK hW hS rfl (z_ix rfl (by omega) (by omega)) dX12_works_393 (fun H locs hz1 hW hS => ?_)
                  obtain ⟨J255, eJ255⟩ : ∃ K : z_J, K = z_up J6 24 y4.toNatClampNeg x254 := ⟨_, rfl⟩
                  rw [← eJ255] at hW
                  obtain ⟨x256, ex256⟩ : ∃ y : Int32, y = y4 + 1 := ⟨_, rfl⟩
                  have tx256 : x256.toInt = y4.toInt + 1 := z_tadd ex256 rfl z_l1 (by omega) (by omega)
                  refine lv_iinc (v := x256) (lv' := [(2, .int x256), (8, .long w253), (6, .long w123), (4, .long w81), (3, .int x14), (0, .ref (ad 0)), (1, .int a1)]) hx hb dX12_works_394 hl (k := 4) rfl (by rw [ex256]; rfl) (by decide) rfl (fun ls hl => ?_)
                  refine lv_goto (tgt := 7) hx hb dX12_works_397 (by decide) ?_
                  exact lp3ih x256 I5 J255 _ _ _ (by omega) (by omega) lp3Nd lp3Asf lp3Ast (by omega) lp3fr hW hS (lv_sub hl [0, 5, 6] rfl)
              · have g257 := z_f_eq rfl z_l3 c130
                refine lv_lload hx hb dX12_works_134 (lv_at hl 2 rfl) ?_
                refine lv_lload hx hb dX12_works_136 (lv_at hl 1 rfl) ?_
                refine lv_lsub hx hb dX12_works_138 ?_
                refine lv_topl (fun w258 ew258 => ?_)
                refine lv_lstore (lv' := [(8, .long w258), (6, .long w123), (4, .long w81), (3, .int x14), (2, .int y4), (0, .ref (ad 0)), (1, .int a1)]) hx hb dX12_works_139 hl (by decide) rfl (fun ls hl => ?_)
                refine lv_goto (tgt := 383) hx hb dX12_works_141 (by decide) ?_
                refine lv_aload_n hx hb dX12_works_383 rfl (lv_at hl 5 rfl) ?_
                refine z_get (T := TX12) (N := 96) (ci := 12) (i := 0) (v := .ref (ad 24)) hx hb hts zj_X12_works_X12 hown hK hW rfl rfl 29 (by decide) (hts (.fieldLink RX12 79 "PetrolBoardModel" "result" "[J") (me_s (me_l (List.mem_of_getElem? (i := 3) rfl)))) (fun _ h => h) rfl dX12_works_384 ?_
                refine lv_iload_n hx hb dX12_works_387 rfl (lv_at hl 4 rfl) ?_
                refine lv_lload hx hb dX12_works_388 (lv_at hl 0 rfl) ?_
                refine z_cl hW hS hA (va_runS (As := [.long w258]) (rest := [.int y4, .ref (ad 24)]) ⟨hx, hb, hml, hown, hts⟩ (sx_X12_held l G ad I5 J6  w258 _) (va_cwS 1 hts gX12_works_X12_held rfl rfl rfl hy_X12_held.2 ⟨Nat.le_of_ble_eq_true rfl, Nat.le_of_ble_eq_true rfl⟩) (z_preS hK hW) rfl rfl hl.1 rfl (lv_room (Nat.le_of_ble_eq_true rfl)) dX12_works_390 ⟨Nat.le_of_ble_eq_true rfl, Nat.le_of_ble_eq_true rfl⟩) (fun r u1 H locs hp hW hS => ?_)
                rw [hp] at hW
                refine lv_topl (fun x259 ex259 => ?_)
                refine z_last (i := 24) hx hb hK hW hS rfl (z_ix rfl (by omega) (by omega)) dX12_works_393 (fun H locs hz1 hW hS => ?_)
                obtain ⟨J260, eJ260⟩ : ∃ K : z_J, K = z_up J6 24 y4.toNatClampNeg x259 := ⟨_, rfl⟩
                rw [← eJ260] at hW
                obtain ⟨x261, ex261⟩ : ∃ y : Int32, y = y4 + 1 := ⟨_, rfl⟩
                have tx261 : x261.toInt = y4.toInt + 1 := z_tadd ex261 rfl z_l1 (by omega) (by omega)
                refine lv_iinc (v := x261) (lv' := [(2, .int x261), (8, .long w258), (6, .long w123), (4, .long w81), (3, .int x14), (0, .ref (ad 0)), (1, .int a1)]) hx hb dX12_works_394 hl (k := 4) rfl (by rw [ex261]; rfl) (by decide) rfl (fun ls hl => ?_)
                refine lv_goto (tgt := 7) hx hb dX12_works_397 (by decide) ?_
                exact lp3ih x261 I5 J260 _ _ _ (by omega) (by omega) lp3Nd lp3Asf lp3Ast (by omega) lp3fr hW hS (lv_sub hl [0, 5, 6] rfl)
            · have g262 := z_f_eq rfl z_l2 c128
              refine lv_lload hx hb dX12_works_119 (lv_at hl 2 rfl) ?_
              refine lv_lload hx hb dX12_works_121 (lv_at hl 1 rfl) ?_
              refine lv_ladd hx hb dX12_works_123 ?_
              refine lv_topl (fun w263 ew263 => ?_)
              refine lv_lstore (lv' := [(8, .long w263), (6, .long w123), (4, .long w81), (3, .int x14), (2, .int y4), (0, .ref (ad 0)), (1, .int a1)]) hx hb dX12_works_124 hl (by decide) rfl (fun ls hl => ?_)
              refine lv_goto (tgt := 383) hx hb dX12_works_126 (by decide) ?_
              refine lv_aload_n hx hb dX12_works_383 rfl (lv_at hl 5 rfl) ?_
              refine z_get (T := TX12) (N := 96) (ci := 12) (i := 0) (v := .ref (ad 24)) hx hb hts zj_X12_works_X12 hown hK hW rfl rfl 29 (by decide) (hts (.fieldLink RX12 79 "PetrolBoardModel" "result" "[J") (me_s (me_l (List.mem_of_getElem? (i := 3) rfl)))) (fun _ h => h) rfl dX12_works_384 ?_
              refine lv_iload_n hx hb dX12_works_387 rfl (lv_at hl 4 rfl) ?_
              refine lv_lload hx hb dX12_works_388 (lv_at hl 0 rfl) ?_
              refine z_cl hW hS hA (va_runS (As := [.long w263]) (rest := [.int y4, .ref (ad 24)]) ⟨hx, hb, hml, hown, hts⟩ (sx_X12_held l G ad I5 J6  w263 _) (va_cwS 1 hts gX12_works_X12_held rfl rfl rfl hy_X12_held.2 ⟨Nat.le_of_ble_eq_true rfl, Nat.le_of_ble_eq_true rfl⟩) (z_preS hK hW) rfl rfl hl.1 rfl (lv_room (Nat.le_of_ble_eq_true rfl)) dX12_works_390 ⟨Nat.le_of_ble_eq_true rfl, Nat.le_of_ble_eq_true rfl⟩) (fun r u1 H locs hp hW hS => ?_)
              rw [hp] at hW
              refine lv_topl (fun x264 ex264 => ?_)
              refine z_last (i := 24) hx hb hK hW hS rfl (z_ix rfl (by omega) (by omega)) dX12_works_393 (fun H locs hz1 hW hS => ?_)
              obtain ⟨J265, eJ265⟩ : ∃ K : z_J, K = z_up J6 24 y4.toNatClampNeg x264 := ⟨_, rfl⟩
              rw [← eJ265] at hW
              obtain ⟨x266, ex266⟩ : ∃ y : Int32, y = y4 + 1 := ⟨_, rfl⟩
              have tx266 : x266.toInt = y4.toInt + 1 := z_tadd ex266 rfl z_l1 (by omega) (by omega)
              refine lv_iinc (v := x266) (lv' := [(2, .int x266), (8, .long w263), (6, .long w123), (4, .long w81), (3, .int x14), (0, .ref (ad 0)), (1, .int a1)]) hx hb dX12_works_394 hl (k := 4) rfl (by rw [ex266]; rfl) (by decide) rfl (fun ls hl => ?_)
              refine lv_goto (tgt := 7) hx hb dX12_works_397 (by decide) ?_
              exact lp3ih x266 I5 J265 _ _ _ (by omega) (by omega) lp3Nd lp3Asf lp3Ast (by omega) lp3fr hW hS (lv_sub hl [0, 5, 6] rfl)
  exact lp3 4294967296 x1 I J _ _ _ (z_m0u _) (by omega) hNd hAsf hAst (by omega) z_fr_0 hW hS (lv_sub hl [0, 1, 2] rfl)
noncomputable def L_X12_holds : z_L := [(24, 999)]
theorem zj_X12_holds_X12 : ∀ w ∈ wsX120, w ∈ wsX12_holds := fun w h => (List.mem_cons_of_mem _ (List.mem_append_right _ h))
set_option maxHeartbeats 8000000 in
set_option maxRecDepth 100000 in
theorem sx_X12_holds (l : Launch) (G : z_G) (ad : Nat → Nat) (I : z_I) (J : z_J) (hNd : z_Nd I) (hAsf : z_rg 19 0 6200 I) (hAst : z_rg 20 0 6200 I) (hAsc : z_rg 18 (-1) 6199 I) (a1 : Int32) (q1 : 0 ≤ a1.toInt ∧ a1.toInt ≤ 319) : z_M l yX12_holds wsX12_holds { frames := 3, cells := 0, slots := 0, locals := 62 } [.ref (ad 0), .int a1] G (shM, ad, I, J, PM ad) (fun r u1 => ∃ (I1 : z_I) (J1 : z_J), u1 = (shM, ad, I1, J1, PM ad) ∧ z_Nd I1 ∧ z_rg 19 0 6200 I1 ∧ z_rg 20 0 6200 I1 ∧ z_rg 18 (-1) 6199 I1 ∧ z_fr L_X12_holds I1 I ∧ (r = 1 ∨ r = 0)) 0 0 := by
  intro sz
  refine z_headQ (cc := cX12_holds) (maxL := 2) (ret := (some .boolean)) (by decide) rfl (Nat.le_of_ble_eq_true rfl) ?_
  intro p e s m below meth c0 ls hIn hK hsz hW hl
  obtain ⟨hx, hb, hr, hml, hown, hts, hlocks, hname⟩ := hIn
  subst hsz
  have hown : s.vm.findClass RX12 = some m.cls := hown
  have hA : ∀ q : Nat, s.heap.size ≤ q → z_A (shM, ad, I, J, PM ad) s.heap.size q := fun q h => Or.inr h
  generalize hAe : z_A (shM, ad, I, J, PM ad) s.heap.size = A at *
  have hS : va_S A s.heap s.heap [] := va_S.rf
  have hl : lv_has ls 2 [(0, .ref (ad 0)), (1, .int a1)] := hl
  refine lv_aload_n hx hb dX12_holds_0 rfl (lv_at hl 0 rfl) ?_
  refine lv_iload_n hx hb dX12_holds_1 rfl (lv_at hl 1 rfl) ?_
  refine z_cv hW hS hA (va_runV (As := [.int a1]) (rest := []) ⟨hx, hb, hml, hown, hts⟩ (sx_X12_works l G ad I J hNd hAsf hAst a1 (by first | omega | decide) _) (cwV 1 hts gX12_holds_X12_works rfl rfl rfl hy_X12_works ⟨Nat.le_of_ble_eq_true rfl, Nat.le_of_ble_eq_true rfl⟩) (z_preV (i := 0) hK hW rfl rfl) rfl rfl hl.1 rfl (lv_room (Nat.le_of_ble_eq_true rfl)) dX12_holds_2 ⟨Nat.le_of_ble_eq_true rfl, Nat.le_of_ble_eq_true rfl⟩) (fun u1 H locs hp hW hS => ?_)
  obtain ⟨I1, J3, e9, hI1Nd, hI1Asf, hI1Ast, fI1⟩ := hp
  rw [e9] at hW
  have f2 := z_fr_sub (L := L_X12_holds) z_fr_0 fI1 (by decide)
  refine lv_aload_n hx hb dX12_holds_5 rfl (lv_at hl 0 rfl) ?_
  refine z_get (T := TX12) (N := 96) (ci := 12) (i := 0) (v := .ref (ad 18)) hx hb hts zj_X12_holds_X12 hown hK hW rfl rfl 23 (by decide) (hts (.fieldLink RX12 61 "PetrolBoardModel" "stCond" "[I") (me_s (me_l (List.mem_of_getElem? (i := 0) rfl)))) (fun _ h => h) rfl dX12_holds_6 ?_
  refine lv_iload_n hx hb dX12_holds_9 rfl (lv_at hl 1 rfl) ?_
  refine z_iald (i := 18) hx hb hK hW rfl (z_ix rfl (by omega) (by omega)) dX12_holds_10 ?_
  refine lv_topi (fun x4 ex4 => ?_)
  have h5 : (-1) ≤ x4.toInt ∧ x4.toInt ≤ 6199 := by rw [ex4]; exact (z_rg_fr hAsc fI1 (by decide)) _
  refine lv_if_lt (tgt := 30) hx hb dX12_holds_11 (by decide) (fun c6 => ?_) (fun c6 => ?_)
  · have g7 := z_f_lt rfl z_l0 c6
    refine lv_iconst (v := 1) hx hb dX12_holds_30 (by decide) ?_
    refine lv_goto (tgt := 35) hx hb dX12_holds_31 (by decide) ?_
    exact z_zret hx hb hr (by decide) hK hS (Nat.le_of_ble_eq_true rfl) (Nat.le_of_ble_eq_true rfl) hlocks dX12_holds_35 (shM, ad, I1, J3, PM ad) hW ⟨I1, J3, rfl, hI1Nd, hI1Asf, hI1Ast, (z_rg_fr hAsc fI1 (by decide)), f2, Or.inl rfl⟩
  · have g8 := z_f_nlt rfl z_l0 c6
    refine lv_aload_n hx hb dX12_holds_14 rfl (lv_at hl 0 rfl) ?_
    refine z_get (T := TX12) (N := 96) (ci := 12) (i := 0) (v := .ref (ad 24)) hx hb hts zj_X12_holds_X12 hown hK hW rfl rfl 29 (by decide) (hts (.fieldLink RX12 79 "PetrolBoardModel" "result" "[J") (me_s (me_l (List.mem_of_getElem? (i := 1) rfl)))) (fun _ h => h) rfl dX12_holds_15 ?_
    refine lv_aload_n hx hb dX12_holds_18 rfl (lv_at hl 0 rfl) ?_
    refine z_get (T := TX12) (N := 96) (ci := 12) (i := 0) (v := .ref (ad 18)) hx hb hts zj_X12_holds_X12 hown hK hW rfl rfl 23 (by decide) (hts (.fieldLink RX12 61 "PetrolBoardModel" "stCond" "[I") (me_s (me_l (List.mem_of_getElem? (i := 0) rfl)))) (fun _ h => h) rfl dX12_holds_19 ?_
    refine lv_iload_n hx hb dX12_holds_22 rfl (lv_at hl 1 rfl) ?_
    refine z_iald (i := 18) hx hb hK hW rfl (z_ix rfl (by omega) (by omega)) dX12_holds_23 ?_
    refine z_topi (v := x4) ex4.symm ?_
    refine z_lald (i := 24) hx hb hK hW rfl (z_ix rfl (by omega) (by omega)) dX12_holds_24 ?_
    refine lv_topl (fun w9 ew9 => ?_)
    refine lv_lconst (v := 0) hx hb dX12_holds_25 (by decide) ?_
    refine W.lcmp hx hb dX12_holds_26 ?_
    refine lv_topi (fun x10 ex10 => ?_)
    have tx10 := z_tcmp ex10
    refine lv_if_eq (tgt := 34) hx hb dX12_holds_27 (by decide) (fun c11 => ?_) (fun c11 => ?_)
    · have g12 := z_f_eq rfl z_l0 c11
      refine lv_iconst (v := 0) hx hb dX12_holds_34 (by decide) ?_
      exact z_zret hx hb hr (by decide) hK hS (Nat.le_of_ble_eq_true rfl) (Nat.le_of_ble_eq_true rfl) hlocks dX12_holds_35 (shM, ad, I1, J3, PM ad) hW ⟨I1, J3, rfl, hI1Nd, hI1Asf, hI1Ast, (z_rg_fr hAsc fI1 (by decide)), f2, Or.inr rfl⟩
    · have g13 := z_f_ne rfl z_l0 c11
      refine lv_iconst (v := 1) hx hb dX12_holds_30 (by decide) ?_
      refine lv_goto (tgt := 35) hx hb dX12_holds_31 (by decide) ?_
      exact z_zret hx hb hr (by decide) hK hS (Nat.le_of_ble_eq_true rfl) (Nat.le_of_ble_eq_true rfl) hlocks dX12_holds_35 (shM, ad, I1, J3, PM ad) hW ⟨I1, J3, rfl, hI1Nd, hI1Asf, hI1Ast, (z_rg_fr hAsc fI1 (by decide)), f2, Or.inl rfl⟩
noncomputable def L_X12_first : z_L := [(24, 999)]
theorem zj_X12_first_X12 : ∀ w ∈ wsX120, w ∈ wsX12_first := fun w h => (List.mem_cons_of_mem _ (List.mem_append_right _ h))
set_option maxHeartbeats 8000000 in
set_option maxRecDepth 100000 in
theorem sx_X12_first (l : Launch) (G : z_G) (ad : Nat → Nat) (I : z_I) (J : z_J) (hmb : z_imb I) (hAtf : z_rg 11 0 288 I) (hAtm : z_rg 12 0 24 I) (hNd : z_Nd I) (hAsf : z_rg 19 0 6200 I) (hAst : z_rg 20 0 6200 I) (hAsc : z_rg 18 (-1) 6199 I) (hEx : z_Ex I) (a1 : Int32) (a2 : Int32) (q1 : (-1) ≤ a1.toInt ∧ a1.toInt ≤ 11) (q2 : 0 ≤ a2.toInt ∧ a2.toInt ≤ 1) : z_M l yX12_first wsX12_first { frames := 4, cells := 0, slots := 0, locals := 83 } [.ref (ad 0), .int a1, .int a2] G (shM, ad, I, J, PM ad) (fun r u1 => ∃ (I1 : z_I) (J1 : z_J), u1 = (shM, ad, I1, J1, PM ad) ∧ z_imb I1 ∧ z_rg 11 0 288 I1 ∧ z_rg 12 0 24 I1 ∧ z_Nd I1 ∧ z_rg 19 0 6200 I1 ∧ z_rg 20 0 6200 I1 ∧ z_rg 18 (-1) 6199 I1 ∧ z_Ex I1 ∧ z_fr L_X12_first I1 I) 0 0 := by
  intro sz
  refine z_headQ (cc := cX12_first) (maxL := 6) (ret := (some .int)) (by decide) rfl (Nat.le_of_ble_eq_true rfl) ?_
  intro p e s m below meth c0 ls hIn hK hsz hW hl
  obtain ⟨hx, hb, hr, hml, hown, hts, hlocks, hname⟩ := hIn
  subst hsz
  have hown : s.vm.findClass RX12 = some m.cls := hown
  have hA : ∀ q : Nat, s.heap.size ≤ q → z_A (shM, ad, I, J, PM ad) s.heap.size q := fun q h => Or.inr h
  generalize hAe : z_A (shM, ad, I, J, PM ad) s.heap.size = A at *
  have hS : va_S A s.heap s.heap [] := va_S.rf
  have hl : lv_has ls 6 [(0, .ref (ad 0)), (1, .int a1), (2, .int a2)] := hl
  refine lv_iload_n hx hb dX12_first_0 rfl (lv_at hl 1 rfl) ?_
  refine lv_if_ge (tgt := 6) hx hb dX12_first_1 (by decide) (fun c1 => ?_) (fun c1 => ?_)
  · have g2 := z_f_ge rfl z_l0 c1
    refine lv_aload_n hx hb dX12_first_6 rfl (lv_at hl 0 rfl) ?_
    refine z_get (T := TX12) (N := 96) (ci := 12) (i := 0) (v := .ref (ad 11)) hx hb hts zj_X12_first_X12 hown hK hW rfl rfl 16 (by decide) (hts (.fieldLink RX12 40 "PetrolBoardModel" "textFirst" "[I") (me_s (me_l (me_l (List.mem_of_getElem? (i := 0) rfl))))) (fun _ h => h) rfl dX12_first_7 ?_
    refine lv_iload_n hx hb dX12_first_10 rfl (lv_at hl 1 rfl) ?_
    refine z_iald (i := 11) hx hb hK hW rfl (z_ix rfl (by omega) (by omega)) dX12_first_11 ?_
    refine lv_topi (fun x3 ex3 => ?_)
    have h4 : 0 ≤ x3.toInt ∧ x3.toInt ≤ 288 := by rw [ex3]; exact hAtf _
    refine lv_istore_n (lv' := [(3, .int x3), (0, .ref (ad 0)), (1, .int a1), (2, .int a2)]) hx hb dX12_first_12 rfl hl (by decide) rfl (fun ls hl => ?_)
    have lp5 : ∀ (f : Nat) (y6 : Int32) (I7 : z_I) (J8 : z_J) (H : Heap) (locs : List Loc) (ls : Array Slot), (2147483647 < y6.toInt + (f : Int)) → (0 ≤ y6.toInt) → (z_imb I7) → (z_rg 11 0 288 I7) → (z_rg 12 0 24 I7) → (z_Nd I7) → (z_rg 19 0 6200 I7) → (z_rg 20 0 6200 I7) → (z_rg 18 (-1) 6199 I7) → (z_Ex I7) → (x3.toInt ≤ y6.toInt) → (z_fr L_X12_first I7 I) → z_W G A (shM, ad, I7, J8, PM ad) H → va_S A s.heap H locs → lv_has ls 6 [(3, .int y6), (0, .ref (ad 0)), (1, .int a1), (2, .int a2)] → W p l e (headSpec wsX12_first { frames := 4, cells := 0, slots := 0, locals := 83 }).room s m ([.ref (ad 0), .int a1, .int a2] : List Value).toArray below meth c0 H locs 0 0 (MQ below (va_Qi (fun (r : Int32) (u1 : z_U) => ∃ (I1 : z_I) (J1 : z_J), u1 = (shM, ad, I1, J1, PM ad) ∧ z_imb I1 ∧ z_rg 11 0 288 I1 ∧ z_rg 12 0 24 I1 ∧ z_Nd I1 ∧ z_rg 19 0 6200 I1 ∧ z_rg 20 0 6200 I1 ∧ z_rg 18 (-1) 6199 I1 ∧ z_Ex I1 ∧ z_fr L_X12_first I1 I) (z_B G A) A) ([.ref (ad 0), .int a1, .int a2] : List Value).toArray s 0 0 A) (F0 m 13 ls []) := by
      intro f
      induction f with
      | zero => intro y6 I7 J8 H locs ls lp5m lp5l3 lp5mb lp5Atf lp5Atm lp5Nd lp5Asf lp5Ast lp5Asc lp5Ex lp5z lp5fr hW hS hl; exact absurd lp5m (by have := Int32.toInt_lt y6; have := Int32.le_toInt y6; omega)
      | succ f lp5ih =>
        intro y6 I7 J8 H locs ls lp5m lp5l3 lp5mb lp5Atf lp5Atm lp5Nd lp5Asf lp5Ast lp5Asc lp5Ex lp5z lp5fr hW hS hl
        refine lv_iload_n hx hb dX12_first_13 rfl (lv_at hl 0 rfl) ?_
        refine lv_aload_n hx hb dX12_first_14 rfl (lv_at hl 1 rfl) ?_
        refine z_get (T := TX12) (N := 96) (ci := 12) (i := 0) (v := .ref (ad 11)) hx hb hts zj_X12_first_X12 hown hK hW rfl rfl 16 (by decide) (hts (.fieldLink RX12 40 "PetrolBoardModel" "textFirst" "[I") (me_s (me_l (me_l (List.mem_of_getElem? (i := 0) rfl))))) (fun _ h => h) rfl dX12_first_15 ?_
        refine lv_iload_n hx hb dX12_first_18 rfl (lv_at hl 2 rfl) ?_
        refine z_iald (i := 11) hx hb hK hW rfl (z_ix rfl (by omega) (by omega)) dX12_first_19 ?_
        refine lv_topi (fun x9 ex9 => ?_)
        have h11 : 0 ≤ x9.toInt ∧ x9.toInt ≤ 288 := by rw [ex9]; exact lp5Atf _
        refine lv_aload_n hx hb dX12_first_20 rfl (lv_at hl 1 rfl) ?_
        refine z_get (T := TX12) (N := 96) (ci := 12) (i := 0) (v := .ref (ad 12)) hx hb hts zj_X12_first_X12 hown hK hW rfl rfl 17 (by decide) (hts (.fieldLink RX12 43 "PetrolBoardModel" "textMany" "[I") (me_s (me_l (me_l (List.mem_of_getElem? (i := 1) rfl))))) (fun _ h => h) rfl dX12_first_21 ?_
        refine lv_iload_n hx hb dX12_first_24 rfl (lv_at hl 2 rfl) ?_
        refine z_iald (i := 12) hx hb hK hW rfl (z_ix rfl (by omega) (by omega)) dX12_first_25 ?_
        refine lv_topi (fun x12 ex12 => ?_)
        have h13 : 0 ≤ x12.toInt ∧ x12.toInt ≤ 24 := by rw [ex12]; exact lp5Atm _
        refine lv_iadd hx hb dX12_first_26 ?_
        refine lv_topi (fun x14 ex14 => ?_)
        have tx14 : x14.toInt = x9.toInt + x12.toInt := z_tadd ex14 rfl rfl (by omega) (by omega)
        refine lv_icmp_ge (tgt := 99) hx hb dX12_first_27 (by decide) (fun c15 => ?_) (fun c15 => ?_)
        · have g16 := z_f_ge rfl rfl c15
          have b17 := Int32.toInt_lt y6
          refine lv_iconst (v := 0) hx hb dX12_first_99 (by decide) ?_
          exact z_iret hx hb hr hK hS (Nat.le_of_ble_eq_true rfl) (Nat.le_of_ble_eq_true rfl) hlocks dX12_first_100 (shM, ad, I7, J8, PM ad) hW ⟨I7, J8, rfl, ⟨(by show 0 ≤ (I7 0 13).toInt ∧ (I7 0 13).toInt ≤ 12; exact lp5mb.1), (by show 0 ≤ (I7 0 14).toInt ∧ (I7 0 14).toInt ≤ 288; exact lp5mb.2)⟩, lp5Atf, lp5Atm, lp5Nd, lp5Asf, lp5Ast, lp5Asc, lp5Ex, lp5fr⟩
        · have g18 := z_f_nge rfl rfl c15
          have b19 := Int32.toInt_lt y6
          refine lv_aload_n hx hb dX12_first_30 rfl (lv_at hl 1 rfl) ?_
          refine z_get (T := TX12) (N := 96) (ci := 12) (i := 0) (v := .ref (ad 15)) hx hb hts zj_X12_first_X12 hown hK hW rfl rfl 20 (by decide) (hts (.fieldLink RX12 52 "PetrolBoardModel" "stRule" "[I") (me_s (me_l (me_l (List.mem_of_getElem? (i := 2) rfl))))) (fun _ h => h) rfl dX12_first_31 ?_
          refine lv_iload_n hx hb dX12_first_34 rfl (lv_at hl 0 rfl) ?_
          refine z_iald (i := 15) hx hb hK hW rfl (z_ix rfl (by omega) (by omega)) dX12_first_35 ?_
          refine lv_topi (fun x20 ex20 => ?_)
          have h21 := lp5Ex (y6 : Int32).toNatClampNeg
          rw [← ex20] at h21
          refine lv_iload_n hx hb dX12_first_36 rfl (lv_at hl 3 rfl) ?_
          refine lv_icmp_ne (tgt := 93) hx hb dX12_first_37 (by decide) (fun c22 => ?_) (fun c22 => ?_)
          · have g23 := z_f_ne rfl rfl c22
            have b24 := Int32.toInt_lt x20
            obtain ⟨x25, ex25⟩ : ∃ y : Int32, y = y6 + 1 := ⟨_, rfl⟩
            have tx25 : x25.toInt = y6.toInt + 1 := z_tadd ex25 rfl z_l1 (by omega) (by omega)
            refine lv_iinc (v := x25) (lv' := [(3, .int x25), (0, .ref (ad 0)), (1, .int a1), (2, .int a2)]) hx hb dX12_first_93 hl (k := 0) rfl (by rw [ex25]; rfl) (by decide) rfl (fun ls hl => ?_)
            refine lv_goto (tgt := 13) hx hb dX12_first_96 (by decide) ?_
            exact lp5ih x25 I7 J8 _ _ _ (by omega) (by omega) ⟨(by show 0 ≤ (I7 0 13).toInt ∧ (I7 0 13).toInt ≤ 12; exact lp5mb.1), (by show 0 ≤ (I7 0 14).toInt ∧ (I7 0 14).toInt ≤ 288; exact lp5mb.2)⟩ lp5Atf lp5Atm lp5Nd lp5Asf lp5Ast lp5Asc lp5Ex (by omega) lp5fr hW hS (lv_sub hl [0, 1, 2, 3] rfl)
          · have g26 := z_f_eq rfl rfl c22
            have b27 := Int32.toInt_lt x20
            refine lv_aload_n hx hb dX12_first_40 rfl (lv_at hl 1 rfl) ?_
            refine lv_iload_n hx hb dX12_first_41 rfl (lv_at hl 0 rfl) ?_
            refine z_ci hW hS hA (va_runV (As := [.int y6]) (rest := []) ⟨hx, hb, hml, hown, hts⟩ (sx_X12_holds l G ad I7 J8 lp5Nd lp5Asf lp5Ast lp5Asc y6 (by first | omega | decide) _) (cwV 1 hts gX12_first_X12_holds rfl rfl rfl hy_X12_holds ⟨Nat.le_of_ble_eq_true rfl, Nat.le_of_ble_eq_true rfl⟩) (z_preV (i := 0) hK hW rfl rfl) rfl rfl hl.1 rfl (lv_room (Nat.le_of_ble_eq_true rfl)) dX12_first_42 ⟨Nat.le_of_ble_eq_true rfl, Nat.le_of_ble_eq_true rfl⟩) (fun r u1 H locs hp hW hS => ?_)
            obtain ⟨I28, J30, e9, hI28Nd, hI28Asf, hI28Ast, hI28Asc, fI28, hp⟩ := hp
            rw [e9] at hW
            have f29 := z_fr_sub (L := L_X12_first) lp5fr fI28 (by decide)
            have k31 : 0 ≤ (I28 0 13).toInt ∧ (I28 0 13).toInt ≤ 12 := by rw [fI28 0 13 (by decide)]; exact (by show 0 ≤ (I7 0 13).toInt ∧ (I7 0 13).toInt ≤ 12; exact lp5mb.1)
            have k32 : 0 ≤ (I28 0 14).toInt ∧ (I28 0 14).toInt ≤ 288 := by rw [fI28 0 14 (by decide)]; exact (by show 0 ≤ (I7 0 14).toInt ∧ (I7 0 14).toInt ≤ 288; exact lp5mb.2)
            rcases hp with rfl | rfl
            · refine lv_if_ne (tgt := 51) hx hb dX12_first_45 (by decide) (fun c33 => ?_) (fun c33 => absurd c33 (by decide))
              refine lv_aload_n hx hb dX12_first_51 rfl (lv_at hl 1 rfl) ?_
              refine z_get (T := TX12) (N := 96) (ci := 12) (i := 0) (v := .ref (ad 24)) hx hb hts zj_X12_first_X12 hown hK hW rfl rfl 29 (by decide) (hts (.fieldLink RX12 79 "PetrolBoardModel" "result" "[J") (me_s (me_l (me_l (List.mem_of_getElem? (i := 3) rfl))))) (fun _ h => h) rfl dX12_first_52 ?_
              refine lv_aload_n hx hb dX12_first_55 rfl (lv_at hl 1 rfl) ?_
              refine z_get (T := TX12) (N := 96) (ci := 12) (i := 0) (v := .ref (ad 17)) hx hb hts zj_X12_first_X12 hown hK hW rfl rfl 22 (by decide) (hts (.fieldLink RX12 58 "PetrolBoardModel" "stEx" "[I") (me_s (me_l (me_l (List.mem_of_getElem? (i := 4) rfl))))) (fun _ h => h) rfl dX12_first_56 ?_
              refine lv_iload_n hx hb dX12_first_59 rfl (lv_at hl 0 rfl) ?_
              refine z_iald (i := 17) hx hb hK hW rfl (z_ix rfl (by omega) (by omega)) dX12_first_60 ?_
              refine lv_topi (fun x34 ex34 => ?_)
              have q35 := ex34
              rw [fI28 17 _ (z_wr_c (by decide))] at q35
              rw [← q35] at h21
              refine z_lald (i := 24) hx hb hK hW rfl (z_ix rfl (by omega) (by omega)) dX12_first_61 ?_
              refine lv_topl (fun w36 ew36 => ?_)
              refine lv_lstore (lv' := [(4, .long w36), (3, .int y6), (0, .ref (ad 0)), (1, .int a1), (2, .int a2)]) hx hb dX12_first_62 hl (by decide) rfl (fun ls hl => ?_)
              refine lv_lload hx hb dX12_first_64 (lv_at hl 0 rfl) ?_
              refine lv_lconst (v := 0) hx hb dX12_first_66 (by decide) ?_
              refine W.lcmp hx hb dX12_first_67 ?_
              refine lv_topi (fun x37 ex37 => ?_)
              have tx37 := z_tcmp ex37
              refine lv_if_ge (tgt := 75) hx hb dX12_first_68 (by decide) (fun c38 => ?_) (fun c38 => ?_)
              · have g39 := z_f_ge rfl z_l0 c38
                refine lv_lload hx hb dX12_first_75 (lv_at hl 0 rfl) ?_
                refine lv_ldc2 (v := 99) hx hb hown (hts (.constantLong RX12 437 (99)) (me_s (me_l (me_l (List.mem_of_getElem? (i := 5) rfl))))) dX12_first_77 ?_
                refine W.lcmp hx hb dX12_first_80 ?_
                refine lv_topi (fun x40 ex40 => ?_)
                have tx40 := z_tcmp ex40
                refine lv_if_le (tgt := 89) hx hb dX12_first_81 (by decide) (fun c41 => ?_) (fun c41 => ?_)
                · have g42 := z_f_le rfl z_l0 c41
                  refine lv_lload hx hb dX12_first_89 (lv_at hl 0 rfl) ?_
                  refine lv_l2i (v := w36.toInt32) hx hb dX12_first_91 rfl ?_
                  refine lv_topi (fun x43 ex43 => ?_)
                  exact z_iret hx hb hr hK hS (Nat.le_of_ble_eq_true rfl) (Nat.le_of_ble_eq_true rfl) hlocks dX12_first_92 (shM, ad, I28, J30, PM ad) hW ⟨I28, J30, rfl, ⟨(by show 0 ≤ (I28 0 13).toInt ∧ (I28 0 13).toInt ≤ 12; exact k31), (by show 0 ≤ (I28 0 14).toInt ∧ (I28 0 14).toInt ≤ 288; exact k32)⟩, (z_rg_fr lp5Atf fI28 (by decide)), (z_rg_fr lp5Atm fI28 (by decide)), hI28Nd, hI28Asf, hI28Ast, hI28Asc, (z_Ex_fr lp5Ex fI28 (by decide)), f29⟩
                · have g44 := z_f_nle rfl z_l0 c41
                  refine lv_bipush (v := 99) hx hb dX12_first_84 (by decide) ?_
                  refine lv_goto (tgt := 92) hx hb dX12_first_86 (by decide) ?_
                  exact z_iret hx hb hr hK hS (Nat.le_of_ble_eq_true rfl) (Nat.le_of_ble_eq_true rfl) hlocks dX12_first_92 (shM, ad, I28, J30, PM ad) hW ⟨I28, J30, rfl, ⟨(by show 0 ≤ (I28 0 13).toInt ∧ (I28 0 13).toInt ≤ 12; exact k31), (by show 0 ≤ (I28 0 14).toInt ∧ (I28 0 14).toInt ≤ 288; exact k32)⟩, (z_rg_fr lp5Atf fI28 (by decide)), (z_rg_fr lp5Atm fI28 (by decide)), hI28Nd, hI28Asf, hI28Ast, hI28Asc, (z_Ex_fr lp5Ex fI28 (by decide)), f29⟩
              · have g45 := z_f_nge rfl z_l0 c38
                refine lv_iconst (v := 0) hx hb dX12_first_71 (by decide) ?_
                refine lv_goto (tgt := 92) hx hb dX12_first_72 (by decide) ?_
                exact z_iret hx hb hr hK hS (Nat.le_of_ble_eq_true rfl) (Nat.le_of_ble_eq_true rfl) hlocks dX12_first_92 (shM, ad, I28, J30, PM ad) hW ⟨I28, J30, rfl, ⟨(by show 0 ≤ (I28 0 13).toInt ∧ (I28 0 13).toInt ≤ 12; exact k31), (by show 0 ≤ (I28 0 14).toInt ∧ (I28 0 14).toInt ≤ 288; exact k32)⟩, (z_rg_fr lp5Atf fI28 (by decide)), (z_rg_fr lp5Atm fI28 (by decide)), hI28Nd, hI28Asf, hI28Ast, hI28Asc, (z_Ex_fr lp5Ex fI28 (by decide)), f29⟩
            · refine lv_if_ne (tgt := 51) hx hb dX12_first_45 (by decide) (fun c46 => absurd (by decide) c46) (fun c46 => ?_)
              refine lv_goto (tgt := 93) hx hb dX12_first_48 (by decide) ?_
              obtain ⟨x47, ex47⟩ : ∃ y : Int32, y = y6 + 1 := ⟨_, rfl⟩
              have tx47 : x47.toInt = y6.toInt + 1 := z_tadd ex47 rfl z_l1 (by omega) (by omega)
              refine lv_iinc (v := x47) (lv' := [(3, .int x47), (0, .ref (ad 0)), (1, .int a1), (2, .int a2)]) hx hb dX12_first_93 hl (k := 0) rfl (by rw [ex47]; rfl) (by decide) rfl (fun ls hl => ?_)
              refine lv_goto (tgt := 13) hx hb dX12_first_96 (by decide) ?_
              exact lp5ih x47 I28 J30 _ _ _ (by omega) (by omega) ⟨(by show 0 ≤ (I28 0 13).toInt ∧ (I28 0 13).toInt ≤ 12; exact k31), (by show 0 ≤ (I28 0 14).toInt ∧ (I28 0 14).toInt ≤ 288; exact k32)⟩ (z_rg_fr lp5Atf fI28 (by decide)) (z_rg_fr lp5Atm fI28 (by decide)) hI28Nd hI28Asf hI28Ast hI28Asc (z_Ex_fr lp5Ex fI28 (by decide)) (by omega) f29 hW hS (lv_sub hl [0, 1, 2, 3] rfl)
    exact lp5 4294967296 x3 I J _ _ _ (z_m0u _) (by omega) ⟨(by show 0 ≤ (I 0 13).toInt ∧ (I 0 13).toInt ≤ 12; exact hmb.1), (by show 0 ≤ (I 0 14).toInt ∧ (I 0 14).toInt ≤ 288; exact hmb.2)⟩ hAtf hAtm hNd hAsf hAst hAsc hEx (by omega) z_fr_0 hW hS (lv_sub hl [0, 1, 2, 3] rfl)
  · have g48 := z_f_nge rfl z_l0 c1
    refine lv_iconst (v := 0) hx hb dX12_first_4 (by decide) ?_
    exact z_iret hx hb hr hK hS (Nat.le_of_ble_eq_true rfl) (Nat.le_of_ble_eq_true rfl) hlocks dX12_first_5 (shM, ad, I, J, PM ad) hW ⟨I, J, rfl, ⟨(by show 0 ≤ (I 0 13).toInt ∧ (I 0 13).toInt ≤ 12; exact hmb.1), (by show 0 ≤ (I 0 14).toInt ∧ (I 0 14).toInt ≤ 288; exact hmb.2)⟩, hAtf, hAtm, hNd, hAsf, hAst, hAsc, hEx, z_fr_0⟩
noncomputable def L_X12_unitsOf : z_L := [(24, 999), (30, 999)]
theorem zj_X12_unitsOf_X12 : ∀ w ∈ wsX120, w ∈ wsX12_unitsOf := fun w h => (List.mem_cons_of_mem _ (List.mem_append_right _ h))
set_option maxHeartbeats 8000000 in
set_option maxRecDepth 100000 in
theorem sx_X12_unitsOf (l : Launch) (G : z_G) (ad : Nat → Nat) (I : z_I) (J : z_J) (hma : z_ima I) (hmb : z_imb I) (hAtf : z_rg 11 0 288 I) (hAtm : z_rg 12 0 24 I) (hNd : z_Nd I) (hAsf : z_rg 19 0 6200 I) (hAst : z_rg 20 0 6200 I) (hAsc : z_rg 18 (-1) 6199 I) (hEx : z_Ex I) (a1 : Int32) (a2 : Int32) (a3 : Int32) (q1 : 0 ≤ a1.toInt ∧ a1.toInt ≤ 29) : z_M l yX12_unitsOf wsX12_unitsOf { frames := 5, cells := 0, slots := 0, locals := 108 } [.ref (ad 0), .int a1, .int a2, .int a3] G (shM, ad, I, J, PM ad) (fun r u1 => ∃ (I1 : z_I) (J1 : z_J), u1 = (shM, ad, I1, J1, PM ad) ∧ z_ima I1 ∧ z_imb I1 ∧ z_rg 11 0 288 I1 ∧ z_rg 12 0 24 I1 ∧ z_Nd I1 ∧ z_rg 19 0 6200 I1 ∧ z_rg 20 0 6200 I1 ∧ z_rg 18 (-1) 6199 I1 ∧ z_Ex I1 ∧ z_fr L_X12_unitsOf I1 I) 0 0 := by
  intro sz
  refine z_headQ (cc := cX12_unitsOf) (maxL := 6) (ret := (some .int)) (by decide) rfl (Nat.le_of_ble_eq_true rfl) ?_
  intro p e s m below meth c0 ls hIn hK hsz hW hl
  obtain ⟨hx, hb, hr, hml, hown, hts, hlocks, hname⟩ := hIn
  subst hsz
  have hown : s.vm.findClass RX12 = some m.cls := hown
  have hA : ∀ q : Nat, s.heap.size ≤ q → z_A (shM, ad, I, J, PM ad) s.heap.size q := fun q h => Or.inr h
  generalize hAe : z_A (shM, ad, I, J, PM ad) s.heap.size = A at *
  have hS : va_S A s.heap s.heap [] := va_S.rf
  have hl : lv_has ls 6 [(0, .ref (ad 0)), (1, .int a1), (2, .int a2), (3, .int a3)] := hl
  refine lv_aload_n hx hb dX12_unitsOf_0 rfl (lv_at hl 0 rfl) ?_
  refine lv_iload_n hx hb dX12_unitsOf_1 rfl (lv_at hl 1 rfl) ?_
  refine lv_aload_n hx hb dX12_unitsOf_2 rfl (lv_at hl 0 rfl) ?_
  refine lv_iload_n hx hb dX12_unitsOf_3 rfl (lv_at hl 1 rfl) ?_
  refine lv_bipush (v := 30) hx hb dX12_unitsOf_4 (by decide) ?_
  refine lv_iload_n hx hb dX12_unitsOf_6 rfl (lv_at hl 2 rfl) ?_
  refine lv_imul hx hb dX12_unitsOf_7 ?_
  refine lv_topi (fun x1 ex1 => ?_)
  refine lv_iload_n hx hb dX12_unitsOf_8 rfl (lv_at hl 3 rfl) ?_
  refine z_ci hW hS hA (va_runV (As := [.int a1, .int x1, .int a3]) (rest := [.int a1, .ref (ad 0)]) ⟨hx, hb, hml, hown, hts⟩ (sx_X12_kindOn l G ad I J ⟨(by show 0 ≤ (I 0 0).toInt ∧ (I 0 0).toInt ≤ 719; exact hma.1), (by show 0 ≤ (I 0 1).toInt ∧ (I 0 1).toInt ≤ 30; exact hma.2.1), (by show 0 ≤ (I 0 2).toInt ∧ (I 0 2).toInt ≤ 200; exact hma.2.2)⟩ a1 x1 a3 _) (cwV 3 hts gX12_unitsOf_X12_kindOn rfl rfl rfl hy_X12_kindOn ⟨Nat.le_of_ble_eq_true rfl, Nat.le_of_ble_eq_true rfl⟩) (z_preV (i := 0) hK hW rfl rfl) rfl rfl hl.1 rfl (lv_room (Nat.le_of_ble_eq_true rfl)) dX12_unitsOf_9 ⟨Nat.le_of_ble_eq_true rfl, Nat.le_of_ble_eq_true rfl⟩) (fun r u1 H locs hp hW hS => ?_)
  rw [hp] at hW
  refine lv_topi (fun x2 ex2 => ?_)
  refine lv_iload_n hx hb dX12_unitsOf_12 rfl (lv_at hl 2 rfl) ?_
  refine lv_iconst (v := 0) hx hb dX12_unitsOf_13 (by decide) ?_
  refine lv_iconst (v := 0) hx hb dX12_unitsOf_14 (by decide) ?_
  refine lv_iconst (v := 0) hx hb dX12_unitsOf_15 (by decide) ?_
  refine z_cv hW hS hA (va_runV (As := [.int a1, .int x2, .int a2, .int 0, .int 0, .int 0]) (rest := []) ⟨hx, hb, hml, hown, hts⟩ (sx_X12_asked l G ad I J  a1 x2 a2 0 0 0 (by first | omega | decide) _) (cwV 6 hts gX12_unitsOf_X12_asked rfl rfl rfl hy_X12_asked ⟨Nat.le_of_ble_eq_true rfl, Nat.le_of_ble_eq_true rfl⟩) (z_preV (i := 0) hK hW rfl rfl) rfl rfl hl.1 rfl (lv_room (Nat.le_of_ble_eq_true rfl)) dX12_unitsOf_16 ⟨Nat.le_of_ble_eq_true rfl, Nat.le_of_ble_eq_true rfl⟩) (fun u1 H locs hp hW hS => ?_)
  obtain ⟨I3, J5, e9, fI3⟩ := hp
  rw [e9] at hW
  have f4 := z_fr_sub (L := L_X12_unitsOf) z_fr_0 fI3 (by decide)
  have k6 : 0 ≤ (I3 0 0).toInt ∧ (I3 0 0).toInt ≤ 719 := by rw [fI3 0 0 (by decide)]; exact (by show 0 ≤ (I 0 0).toInt ∧ (I 0 0).toInt ≤ 719; exact hma.1)
  have k7 : 0 ≤ (I3 0 1).toInt ∧ (I3 0 1).toInt ≤ 30 := by rw [fI3 0 1 (by decide)]; exact (by show 0 ≤ (I 0 1).toInt ∧ (I 0 1).toInt ≤ 30; exact hma.2.1)
  have k8 : 0 ≤ (I3 0 2).toInt ∧ (I3 0 2).toInt ≤ 200 := by rw [fI3 0 2 (by decide)]; exact (by show 0 ≤ (I 0 2).toInt ∧ (I 0 2).toInt ≤ 200; exact hma.2.2)
  have k9 : 0 ≤ (I3 0 13).toInt ∧ (I3 0 13).toInt ≤ 12 := by rw [fI3 0 13 (by decide)]; exact (by show 0 ≤ (I 0 13).toInt ∧ (I 0 13).toInt ≤ 12; exact hmb.1)
  have k10 : 0 ≤ (I3 0 14).toInt ∧ (I3 0 14).toInt ≤ 288 := by rw [fI3 0 14 (by decide)]; exact (by show 0 ≤ (I 0 14).toInt ∧ (I 0 14).toInt ≤ 288; exact hmb.2)
  refine lv_aload_n hx hb dX12_unitsOf_19 rfl (lv_at hl 0 rfl) ?_
  refine lv_iload_n hx hb dX12_unitsOf_20 rfl (lv_at hl 2 rfl) ?_
  refine lv_iload_n hx hb dX12_unitsOf_21 rfl (lv_at hl 3 rfl) ?_
  refine z_ci hW hS hA (va_runV (As := [.int a2, .int a3]) (rest := []) ⟨hx, hb, hml, hown, hts⟩ (sx_X12_inForce l G ad I3 J5 ⟨(by show 0 ≤ (I3 0 13).toInt ∧ (I3 0 13).toInt ≤ 12; exact k9), (by show 0 ≤ (I3 0 14).toInt ∧ (I3 0 14).toInt ≤ 288; exact k10)⟩ a2 a3 _) (cwV 2 hts gX12_unitsOf_X12_inForce rfl rfl rfl hy_X12_inForce ⟨Nat.le_of_ble_eq_true rfl, Nat.le_of_ble_eq_true rfl⟩) (z_preV (i := 0) hK hW rfl rfl) rfl rfl hl.1 rfl (lv_room (Nat.le_of_ble_eq_true rfl)) dX12_unitsOf_22 ⟨Nat.le_of_ble_eq_true rfl, Nat.le_of_ble_eq_true rfl⟩) (fun r u1 H locs hp hW hS => ?_)
  obtain ⟨e9, hp⟩ := hp
  rw [e9] at hW
  have hq := hp
  generalize r = x11 at hq ⊢
  have h12 := hq
  refine lv_istore (lv' := [(4, .int x11), (0, .ref (ad 0)), (1, .int a1), (2, .int a2), (3, .int a3)]) hx hb dX12_unitsOf_25 hl (by decide) rfl (fun ls hl => ?_)
  refine lv_iload hx hb dX12_unitsOf_27 (lv_at hl 0 rfl) ?_
  refine lv_if_ge (tgt := 34) hx hb dX12_unitsOf_29 (by decide) (fun c13 => ?_) (fun c13 => ?_)
  · have g14 := z_f_ge rfl z_l0 c13
    refine lv_aload_n hx hb dX12_unitsOf_34 rfl (lv_at hl 1 rfl) ?_
    refine z_get (T := TX12) (N := 96) (ci := 12) (i := 0) (v := .ref (ad 11)) hx hb hts zj_X12_unitsOf_X12 hown hK hW rfl rfl 16 (by decide) (hts (.fieldLink RX12 40 "PetrolBoardModel" "textFirst" "[I") (me_s (me_l (me_l (List.mem_of_getElem? (i := 0) rfl))))) (fun _ h => h) rfl dX12_unitsOf_35 ?_
    refine lv_iload hx hb dX12_unitsOf_38 (lv_at hl 0 rfl) ?_
    refine z_iald (i := 11) hx hb hK hW rfl (z_ix rfl (by omega) (by omega)) dX12_unitsOf_40 ?_
    refine lv_topi (fun x15 ex15 => ?_)
    have h16 : 0 ≤ x15.toInt ∧ x15.toInt ≤ 288 := by rw [ex15]; exact (z_rg_fr hAtf fI3 (by decide)) _
    refine lv_istore (lv' := [(5, .int x15), (4, .int x11), (0, .ref (ad 0)), (1, .int a1), (2, .int a2), (3, .int a3)]) hx hb dX12_unitsOf_41 hl (by decide) rfl (fun ls hl => ?_)
    have lp17 : ∀ (f : Nat) (y18 : Int32) (I19 : z_I) (J20 : z_J) (H : Heap) (locs : List Loc) (ls : Array Slot), (2147483647 < y18.toInt + (f : Int)) → (0 ≤ y18.toInt) → (z_ima I19) → (z_imb I19) → (z_rg 11 0 288 I19) → (z_rg 12 0 24 I19) → (z_Nd I19) → (z_rg 19 0 6200 I19) → (z_rg 20 0 6200 I19) → (z_rg 18 (-1) 6199 I19) → (z_Ex I19) → (x15.toInt ≤ y18.toInt) → (z_fr L_X12_unitsOf I19 I) → z_W G A (shM, ad, I19, J20, PM ad) H → va_S A s.heap H locs → lv_has ls 6 [(5, .int y18), (4, .int x11), (0, .ref (ad 0)), (1, .int a1), (2, .int a2), (3, .int a3)] → W p l e (headSpec wsX12_unitsOf { frames := 5, cells := 0, slots := 0, locals := 108 }).room s m ([.ref (ad 0), .int a1, .int a2, .int a3] : List Value).toArray below meth c0 H locs 0 0 (MQ below (va_Qi (fun (r : Int32) (u1 : z_U) => ∃ (I1 : z_I) (J1 : z_J), u1 = (shM, ad, I1, J1, PM ad) ∧ z_ima I1 ∧ z_imb I1 ∧ z_rg 11 0 288 I1 ∧ z_rg 12 0 24 I1 ∧ z_Nd I1 ∧ z_rg 19 0 6200 I1 ∧ z_rg 20 0 6200 I1 ∧ z_rg 18 (-1) 6199 I1 ∧ z_Ex I1 ∧ z_fr L_X12_unitsOf I1 I) (z_B G A) A) ([.ref (ad 0), .int a1, .int a2, .int a3] : List Value).toArray s 0 0 A) (F0 m 43 ls []) := by
      intro f
      induction f with
      | zero => intro y18 I19 J20 H locs ls lp17m lp17l5 lp17ma lp17mb lp17Atf lp17Atm lp17Nd lp17Asf lp17Ast lp17Asc lp17Ex lp17z lp17fr hW hS hl; exact absurd lp17m (by have := Int32.toInt_lt y18; have := Int32.le_toInt y18; omega)
      | succ f lp17ih =>
        intro y18 I19 J20 H locs ls lp17m lp17l5 lp17ma lp17mb lp17Atf lp17Atm lp17Nd lp17Asf lp17Ast lp17Asc lp17Ex lp17z lp17fr hW hS hl
        refine lv_iload hx hb dX12_unitsOf_43 (lv_at hl 0 rfl) ?_
        refine lv_aload_n hx hb dX12_unitsOf_45 rfl (lv_at hl 2 rfl) ?_
        refine z_get (T := TX12) (N := 96) (ci := 12) (i := 0) (v := .ref (ad 11)) hx hb hts zj_X12_unitsOf_X12 hown hK hW rfl rfl 16 (by decide) (hts (.fieldLink RX12 40 "PetrolBoardModel" "textFirst" "[I") (me_s (me_l (me_l (List.mem_of_getElem? (i := 0) rfl))))) (fun _ h => h) rfl dX12_unitsOf_46 ?_
        refine lv_iload hx hb dX12_unitsOf_49 (lv_at hl 1 rfl) ?_
        refine z_iald (i := 11) hx hb hK hW rfl (z_ix rfl (by omega) (by omega)) dX12_unitsOf_51 ?_
        refine lv_topi (fun x21 ex21 => ?_)
        have h22 : 0 ≤ x21.toInt ∧ x21.toInt ≤ 288 := by rw [ex21]; exact lp17Atf _
        refine lv_aload_n hx hb dX12_unitsOf_52 rfl (lv_at hl 2 rfl) ?_
        refine z_get (T := TX12) (N := 96) (ci := 12) (i := 0) (v := .ref (ad 12)) hx hb hts zj_X12_unitsOf_X12 hown hK hW rfl rfl 17 (by decide) (hts (.fieldLink RX12 43 "PetrolBoardModel" "textMany" "[I") (me_s (me_l (me_l (List.mem_of_getElem? (i := 1) rfl))))) (fun _ h => h) rfl dX12_unitsOf_53 ?_
        refine lv_iload hx hb dX12_unitsOf_56 (lv_at hl 1 rfl) ?_
        refine z_iald (i := 12) hx hb hK hW rfl (z_ix rfl (by omega) (by omega)) dX12_unitsOf_58 ?_
        refine lv_topi (fun x23 ex23 => ?_)
        have h24 : 0 ≤ x23.toInt ∧ x23.toInt ≤ 24 := by rw [ex23]; exact lp17Atm _
        refine lv_iadd hx hb dX12_unitsOf_59 ?_
        refine lv_topi (fun x25 ex25 => ?_)
        have tx25 : x25.toInt = x21.toInt + x23.toInt := z_tadd ex25 rfl rfl (by omega) (by omega)
        refine lv_icmp_ge (tgt := 91) hx hb dX12_unitsOf_60 (by decide) (fun c26 => ?_) (fun c26 => ?_)
        · have g27 := z_f_ge rfl rfl c26
          have b28 := Int32.toInt_lt y18
          refine lv_aload_n hx hb dX12_unitsOf_91 rfl (lv_at hl 2 rfl) ?_
          refine lv_iload hx hb dX12_unitsOf_92 (lv_at hl 1 rfl) ?_
          refine lv_iconst (v := 0) hx hb dX12_unitsOf_94 (by decide) ?_
          refine z_ci hW hS hA (va_runV (As := [.int x11, .int 0]) (rest := []) ⟨hx, hb, hml, hown, hts⟩ (sx_X12_first l G ad I19 J20 ⟨(by show 0 ≤ (I19 0 13).toInt ∧ (I19 0 13).toInt ≤ 12; exact lp17mb.1), (by show 0 ≤ (I19 0 14).toInt ∧ (I19 0 14).toInt ≤ 288; exact lp17mb.2)⟩ lp17Atf lp17Atm lp17Nd lp17Asf lp17Ast lp17Asc lp17Ex x11 0 (by first | omega | decide) (by first | omega | decide) _) (cwV 2 hts gX12_unitsOf_X12_first rfl rfl rfl hy_X12_first ⟨Nat.le_of_ble_eq_true rfl, Nat.le_of_ble_eq_true rfl⟩) (z_preV (i := 0) hK hW rfl rfl) rfl rfl hl.1 rfl (lv_room (Nat.le_of_ble_eq_true rfl)) dX12_unitsOf_95 ⟨Nat.le_of_ble_eq_true rfl, Nat.le_of_ble_eq_true rfl⟩) (fun r u1 H locs hp hW hS => ?_)
          obtain ⟨I29, J31, e9, hI29mb, hI29Atf, hI29Atm, hI29Nd, hI29Asf, hI29Ast, hI29Asc, hI29Ex, fI29⟩ := hp
          rw [e9] at hW
          have f30 := z_fr_sub (L := L_X12_unitsOf) lp17fr fI29 (by decide)
          have k32 : 0 ≤ (I29 0 0).toInt ∧ (I29 0 0).toInt ≤ 719 := by rw [fI29 0 0 (by decide)]; exact (by show 0 ≤ (I19 0 0).toInt ∧ (I19 0 0).toInt ≤ 719; exact lp17ma.1)
          have k33 : 0 ≤ (I29 0 1).toInt ∧ (I29 0 1).toInt ≤ 30 := by rw [fI29 0 1 (by decide)]; exact (by show 0 ≤ (I19 0 1).toInt ∧ (I19 0 1).toInt ≤ 30; exact lp17ma.2.1)
          have k34 : 0 ≤ (I29 0 2).toInt ∧ (I29 0 2).toInt ≤ 200 := by rw [fI29 0 2 (by decide)]; exact (by show 0 ≤ (I19 0 2).toInt ∧ (I19 0 2).toInt ≤ 200; exact lp17ma.2.2)
          refine lv_topi (fun x35 ex35 => ?_)
          exact z_iret hx hb hr hK hS (Nat.le_of_ble_eq_true rfl) (Nat.le_of_ble_eq_true rfl) hlocks dX12_unitsOf_98 (shM, ad, I29, J31, PM ad) hW ⟨I29, J31, rfl, ⟨(by show 0 ≤ (I29 0 0).toInt ∧ (I29 0 0).toInt ≤ 719; exact k32), (by show 0 ≤ (I29 0 1).toInt ∧ (I29 0 1).toInt ≤ 30; exact k33), (by show 0 ≤ (I29 0 2).toInt ∧ (I29 0 2).toInt ≤ 200; exact k34)⟩, ⟨(by show 0 ≤ (I29 0 13).toInt ∧ (I29 0 13).toInt ≤ 12; exact hI29mb.1), (by show 0 ≤ (I29 0 14).toInt ∧ (I29 0 14).toInt ≤ 288; exact hI29mb.2)⟩, hI29Atf, hI29Atm, hI29Nd, hI29Asf, hI29Ast, hI29Asc, hI29Ex, f30⟩
        · have g36 := z_f_nge rfl rfl c26
          have b37 := Int32.toInt_lt y18
          refine lv_aload_n hx hb dX12_unitsOf_63 rfl (lv_at hl 2 rfl) ?_
          refine z_get (T := TX12) (N := 96) (ci := 12) (i := 0) (v := .ref (ad 15)) hx hb hts zj_X12_unitsOf_X12 hown hK hW rfl rfl 20 (by decide) (hts (.fieldLink RX12 52 "PetrolBoardModel" "stRule" "[I") (me_s (me_l (me_l (List.mem_of_getElem? (i := 2) rfl))))) (fun _ h => h) rfl dX12_unitsOf_64 ?_
          refine lv_iload hx hb dX12_unitsOf_67 (lv_at hl 0 rfl) ?_
          refine z_iald (i := 15) hx hb hK hW rfl (z_ix rfl (by omega) (by omega)) dX12_unitsOf_69 ?_
          refine lv_topi (fun x38 ex38 => ?_)
          have h39 := lp17Ex (y18 : Int32).toNatClampNeg
          rw [← ex38] at h39
          refine lv_iconst (v := 2) hx hb dX12_unitsOf_70 (by decide) ?_
          refine lv_icmp_ne (tgt := 85) hx hb dX12_unitsOf_71 (by decide) (fun c40 => ?_) (fun c40 => ?_)
          · have g41 := z_f_ne rfl z_l2 c40
            have b42 := Int32.toInt_lt x38
            obtain ⟨x43, ex43⟩ : ∃ y : Int32, y = y18 + 1 := ⟨_, rfl⟩
            have tx43 : x43.toInt = y18.toInt + 1 := z_tadd ex43 rfl z_l1 (by omega) (by omega)
            refine lv_iinc (v := x43) (lv' := [(5, .int x43), (4, .int x11), (0, .ref (ad 0)), (1, .int a1), (2, .int a2), (3, .int a3)]) hx hb dX12_unitsOf_85 hl (k := 0) rfl (by rw [ex43]; rfl) (by decide) rfl (fun ls hl => ?_)
            refine lv_goto (tgt := 43) hx hb dX12_unitsOf_88 (by decide) ?_
            exact lp17ih x43 I19 J20 _ _ _ (by omega) (by omega) ⟨(by show 0 ≤ (I19 0 0).toInt ∧ (I19 0 0).toInt ≤ 719; exact lp17ma.1), (by show 0 ≤ (I19 0 1).toInt ∧ (I19 0 1).toInt ≤ 30; exact lp17ma.2.1), (by show 0 ≤ (I19 0 2).toInt ∧ (I19 0 2).toInt ≤ 200; exact lp17ma.2.2)⟩ ⟨(by show 0 ≤ (I19 0 13).toInt ∧ (I19 0 13).toInt ≤ 12; exact lp17mb.1), (by show 0 ≤ (I19 0 14).toInt ∧ (I19 0 14).toInt ≤ 288; exact lp17mb.2)⟩ lp17Atf lp17Atm lp17Nd lp17Asf lp17Ast lp17Asc lp17Ex (by omega) lp17fr hW hS (lv_sub hl [0, 1, 2, 3, 4, 5] rfl)
          · have g44 := z_f_eq rfl z_l2 c40
            have b45 := Int32.toInt_lt x38
            refine lv_aload_n hx hb dX12_unitsOf_74 rfl (lv_at hl 2 rfl) ?_
            refine lv_iload hx hb dX12_unitsOf_75 (lv_at hl 0 rfl) ?_
            refine z_ci hW hS hA (va_runV (As := [.int y18]) (rest := []) ⟨hx, hb, hml, hown, hts⟩ (sx_X12_holds l G ad I19 J20 lp17Nd lp17Asf lp17Ast lp17Asc y18 (by first | omega | decide) _) (cwV 1 hts gX12_unitsOf_X12_holds rfl rfl rfl hy_X12_holds ⟨Nat.le_of_ble_eq_true rfl, Nat.le_of_ble_eq_true rfl⟩) (z_preV (i := 0) hK hW rfl rfl) rfl rfl hl.1 rfl (lv_room (Nat.le_of_ble_eq_true rfl)) dX12_unitsOf_77 ⟨Nat.le_of_ble_eq_true rfl, Nat.le_of_ble_eq_true rfl⟩) (fun r u1 H locs hp hW hS => ?_)
            obtain ⟨I46, J48, e9, hI46Nd, hI46Asf, hI46Ast, hI46Asc, fI46, hp⟩ := hp
            rw [e9] at hW
            have f47 := z_fr_sub (L := L_X12_unitsOf) lp17fr fI46 (by decide)
            have k49 : 0 ≤ (I46 0 0).toInt ∧ (I46 0 0).toInt ≤ 719 := by rw [fI46 0 0 (by decide)]; exact (by show 0 ≤ (I19 0 0).toInt ∧ (I19 0 0).toInt ≤ 719; exact lp17ma.1)
            have k50 : 0 ≤ (I46 0 1).toInt ∧ (I46 0 1).toInt ≤ 30 := by rw [fI46 0 1 (by decide)]; exact (by show 0 ≤ (I19 0 1).toInt ∧ (I19 0 1).toInt ≤ 30; exact lp17ma.2.1)
            have k51 : 0 ≤ (I46 0 2).toInt ∧ (I46 0 2).toInt ≤ 200 := by rw [fI46 0 2 (by decide)]; exact (by show 0 ≤ (I19 0 2).toInt ∧ (I19 0 2).toInt ≤ 200; exact lp17ma.2.2)
            have k52 : 0 ≤ (I46 0 13).toInt ∧ (I46 0 13).toInt ≤ 12 := by rw [fI46 0 13 (by decide)]; exact (by show 0 ≤ (I19 0 13).toInt ∧ (I19 0 13).toInt ≤ 12; exact lp17mb.1)
            have k53 : 0 ≤ (I46 0 14).toInt ∧ (I46 0 14).toInt ≤ 288 := by rw [fI46 0 14 (by decide)]; exact (by show 0 ≤ (I19 0 14).toInt ∧ (I19 0 14).toInt ≤ 288; exact lp17mb.2)
            rcases hp with rfl | rfl
            · refine lv_if_eq (tgt := 85) hx hb dX12_unitsOf_80 (by decide) (fun c54 => absurd c54 (by decide)) (fun c54 => ?_)
              refine lv_iconst (v := 0) hx hb dX12_unitsOf_83 (by decide) ?_
              exact z_iret hx hb hr hK hS (Nat.le_of_ble_eq_true rfl) (Nat.le_of_ble_eq_true rfl) hlocks dX12_unitsOf_84 (shM, ad, I46, J48, PM ad) hW ⟨I46, J48, rfl, ⟨(by show 0 ≤ (I46 0 0).toInt ∧ (I46 0 0).toInt ≤ 719; exact k49), (by show 0 ≤ (I46 0 1).toInt ∧ (I46 0 1).toInt ≤ 30; exact k50), (by show 0 ≤ (I46 0 2).toInt ∧ (I46 0 2).toInt ≤ 200; exact k51)⟩, ⟨(by show 0 ≤ (I46 0 13).toInt ∧ (I46 0 13).toInt ≤ 12; exact k52), (by show 0 ≤ (I46 0 14).toInt ∧ (I46 0 14).toInt ≤ 288; exact k53)⟩, (z_rg_fr lp17Atf fI46 (by decide)), (z_rg_fr lp17Atm fI46 (by decide)), hI46Nd, hI46Asf, hI46Ast, hI46Asc, (z_Ex_fr lp17Ex fI46 (by decide)), f47⟩
            · refine lv_if_eq (tgt := 85) hx hb dX12_unitsOf_80 (by decide) (fun c55 => ?_) (fun c55 => absurd (by decide) c55)
              obtain ⟨x56, ex56⟩ : ∃ y : Int32, y = y18 + 1 := ⟨_, rfl⟩
              have tx56 : x56.toInt = y18.toInt + 1 := z_tadd ex56 rfl z_l1 (by omega) (by omega)
              refine lv_iinc (v := x56) (lv' := [(5, .int x56), (4, .int x11), (0, .ref (ad 0)), (1, .int a1), (2, .int a2), (3, .int a3)]) hx hb dX12_unitsOf_85 hl (k := 0) rfl (by rw [ex56]; rfl) (by decide) rfl (fun ls hl => ?_)
              refine lv_goto (tgt := 43) hx hb dX12_unitsOf_88 (by decide) ?_
              exact lp17ih x56 I46 J48 _ _ _ (by omega) (by omega) ⟨(by show 0 ≤ (I46 0 0).toInt ∧ (I46 0 0).toInt ≤ 719; exact k49), (by show 0 ≤ (I46 0 1).toInt ∧ (I46 0 1).toInt ≤ 30; exact k50), (by show 0 ≤ (I46 0 2).toInt ∧ (I46 0 2).toInt ≤ 200; exact k51)⟩ ⟨(by show 0 ≤ (I46 0 13).toInt ∧ (I46 0 13).toInt ≤ 12; exact k52), (by show 0 ≤ (I46 0 14).toInt ∧ (I46 0 14).toInt ≤ 288; exact k53)⟩ (z_rg_fr lp17Atf fI46 (by decide)) (z_rg_fr lp17Atm fI46 (by decide)) hI46Nd hI46Asf hI46Ast hI46Asc (z_Ex_fr lp17Ex fI46 (by decide)) (by omega) f47 hW hS (lv_sub hl [0, 1, 2, 3, 4, 5] rfl)
    exact lp17 4294967296 x15 I3 J5 _ _ _ (z_m0u _) (by omega) ⟨(by show 0 ≤ (I3 0 0).toInt ∧ (I3 0 0).toInt ≤ 719; exact k6), (by show 0 ≤ (I3 0 1).toInt ∧ (I3 0 1).toInt ≤ 30; exact k7), (by show 0 ≤ (I3 0 2).toInt ∧ (I3 0 2).toInt ≤ 200; exact k8)⟩ ⟨(by show 0 ≤ (I3 0 13).toInt ∧ (I3 0 13).toInt ≤ 12; exact k9), (by show 0 ≤ (I3 0 14).toInt ∧ (I3 0 14).toInt ≤ 288; exact k10)⟩ (z_rg_fr hAtf fI3 (by decide)) (z_rg_fr hAtm fI3 (by decide)) (z_Nd_fr hNd fI3 (by decide)) (z_rg_fr hAsf fI3 (by decide)) (z_rg_fr hAst fI3 (by decide)) (z_rg_fr hAsc fI3 (by decide)) (z_Ex_fr hEx fI3 (by decide)) (by omega) f4 hW hS (lv_sub hl [0, 1, 2, 3, 4, 5] rfl)
  · have g57 := z_f_nge rfl z_l0 c13
    refine lv_iconst (v := 0) hx hb dX12_unitsOf_32 (by decide) ?_
    exact z_iret hx hb hr hK hS (Nat.le_of_ble_eq_true rfl) (Nat.le_of_ble_eq_true rfl) hlocks dX12_unitsOf_33 (shM, ad, I3, J5, PM ad) hW ⟨I3, J5, rfl, ⟨(by show 0 ≤ (I3 0 0).toInt ∧ (I3 0 0).toInt ≤ 719; exact k6), (by show 0 ≤ (I3 0 1).toInt ∧ (I3 0 1).toInt ≤ 30; exact k7), (by show 0 ≤ (I3 0 2).toInt ∧ (I3 0 2).toInt ≤ 200; exact k8)⟩, ⟨(by show 0 ≤ (I3 0 13).toInt ∧ (I3 0 13).toInt ≤ 12; exact k9), (by show 0 ≤ (I3 0 14).toInt ∧ (I3 0 14).toInt ≤ 288; exact k10)⟩, (z_rg_fr hAtf fI3 (by decide)), (z_rg_fr hAtm fI3 (by decide)), (z_Nd_fr hNd fI3 (by decide)), (z_rg_fr hAsf fI3 (by decide)), (z_rg_fr hAst fI3 (by decide)), (z_rg_fr hAsc fI3 (by decide)), (z_Ex_fr hEx fI3 (by decide)), f4⟩
noncomputable def L_X12_units : z_L := [(24, 999), (30, 999)]
set_option maxHeartbeats 8000000 in
set_option maxRecDepth 100000 in
theorem sx_X12_units (l : Launch) (G : z_G) (ad : Nat → Nat) (I : z_I) (J : z_J) (hma : z_ima I) (hmb : z_imb I) (hAtf : z_rg 11 0 288 I) (hAtm : z_rg 12 0 24 I) (hNd : z_Nd I) (hAsf : z_rg 19 0 6200 I) (hAst : z_rg 20 0 6200 I) (hAsc : z_rg 18 (-1) 6199 I) (hEx : z_Ex I) (a1 : Int32) (a2 : Int32) (a3 : Int32) : z_M l yX12_units wsX12_units { frames := 6, cells := 0, slots := 0, locals := 133 } [.ref (ad 0), .int a1, .int a2, .int a3] G (shM, ad, I, J, PM ad) (fun r u1 => ∃ (I1 : z_I) (J1 : z_J), u1 = (shM, ad, I1, J1, PM ad) ∧ z_ima I1 ∧ z_imb I1 ∧ z_rg 11 0 288 I1 ∧ z_rg 12 0 24 I1 ∧ z_Nd I1 ∧ z_rg 19 0 6200 I1 ∧ z_rg 20 0 6200 I1 ∧ z_rg 18 (-1) 6199 I1 ∧ z_Ex I1 ∧ z_fr L_X12_units I1 I) 0 0 := by
  intro sz
  refine z_headQ (cc := cX12_units) (maxL := 4) (ret := (some .int)) (by decide) rfl (Nat.le_of_ble_eq_true rfl) ?_
  intro p e s m below meth c0 ls hIn hK hsz hW hl
  obtain ⟨hx, hb, hr, hml, hown, hts, hlocks, hname⟩ := hIn
  subst hsz
  have hown : s.vm.findClass RX12 = some m.cls := hown
  have hA : ∀ q : Nat, s.heap.size ≤ q → z_A (shM, ad, I, J, PM ad) s.heap.size q := fun q h => Or.inr h
  generalize hAe : z_A (shM, ad, I, J, PM ad) s.heap.size = A at *
  have hS : va_S A s.heap s.heap [] := va_S.rf
  have hl : lv_has ls 4 [(0, .ref (ad 0)), (1, .int a1), (2, .int a2), (3, .int a3)] := hl
  refine lv_aload_n hx hb dX12_units_0 rfl (lv_at hl 0 rfl) ?_
  refine lv_iload_n hx hb dX12_units_1 rfl (lv_at hl 1 rfl) ?_
  refine z_ci hW hS hA (va_runV (As := [.int a1]) (rest := []) ⟨hx, hb, hml, hown, hts⟩ (sx_X12_isHolder l G ad I J ⟨(by show 0 ≤ (I 0 0).toInt ∧ (I 0 0).toInt ≤ 719; exact hma.1), (by show 0 ≤ (I 0 1).toInt ∧ (I 0 1).toInt ≤ 30; exact hma.2.1), (by show 0 ≤ (I 0 2).toInt ∧ (I 0 2).toInt ≤ 200; exact hma.2.2)⟩ a1 _) (cwV 1 hts gX12_units_X12_isHolder rfl rfl rfl hy_X12_isHolder ⟨Nat.le_of_ble_eq_true rfl, Nat.le_of_ble_eq_true rfl⟩) (z_preV (i := 0) hK hW rfl rfl) rfl rfl hl.1 rfl (lv_room (Nat.le_of_ble_eq_true rfl)) dX12_units_2 ⟨Nat.le_of_ble_eq_true rfl, Nat.le_of_ble_eq_true rfl⟩) (fun r u1 H locs hp hW hS => ?_)
  obtain ⟨e9, hp⟩ := hp
  rw [e9] at hW
  rcases hp with ⟨rfl, h1, h2⟩ | rfl
  · refine lv_if_eq (tgt := 32) hx hb dX12_units_5 (by decide) (fun c3 => absurd c3 (by decide)) (fun c3 => ?_)
    refine lv_iload_n hx hb dX12_units_8 rfl (lv_at hl 2 rfl) ?_
    refine z_ci hW hS hA (va_runS (As := [.int a2]) (rest := []) ⟨hx, hb, hml, hown, hts⟩ (sx_X12_isMonth l G ad I J  a2 _) (va_cwS 1 hts gX12_units_X12_isMonth rfl rfl rfl hy_X12_isMonth.2 ⟨Nat.le_of_ble_eq_true rfl, Nat.le_of_ble_eq_true rfl⟩) (z_preS hK hW) rfl rfl hl.1 rfl (lv_room (Nat.le_of_ble_eq_true rfl)) dX12_units_9 ⟨Nat.le_of_ble_eq_true rfl, Nat.le_of_ble_eq_true rfl⟩) (fun r u1 H locs hp hW hS => ?_)
    obtain ⟨e9, hp⟩ := hp
    rw [e9] at hW
    rcases hp with ⟨rfl, h4, h5⟩ | rfl
    · refine lv_if_eq (tgt := 32) hx hb dX12_units_12 (by decide) (fun c6 => absurd c6 (by decide)) (fun c6 => ?_)
      refine lv_iload_n hx hb dX12_units_15 rfl (lv_at hl 3 rfl) ?_
      refine z_ci hW hS hA (va_runS (As := [.int a3]) (rest := []) ⟨hx, hb, hml, hown, hts⟩ (sx_X12_isDay l G ad I J  a3 _) (va_cwS 1 hts gX12_units_X12_isDay rfl rfl rfl hy_X12_isDay.2 ⟨Nat.le_of_ble_eq_true rfl, Nat.le_of_ble_eq_true rfl⟩) (z_preS hK hW) rfl rfl hl.1 rfl (lv_room (Nat.le_of_ble_eq_true rfl)) dX12_units_16 ⟨Nat.le_of_ble_eq_true rfl, Nat.le_of_ble_eq_true rfl⟩) (fun r u1 H locs hp hW hS => ?_)
      obtain ⟨e9, hp⟩ := hp
      rw [e9] at hW
      rcases hp with ⟨rfl, h7, h8⟩ | rfl
      · refine lv_if_eq (tgt := 32) hx hb dX12_units_19 (by decide) (fun c9 => absurd c9 (by decide)) (fun c9 => ?_)
        refine lv_aload_n hx hb dX12_units_22 rfl (lv_at hl 0 rfl) ?_
        refine lv_iload_n hx hb dX12_units_23 rfl (lv_at hl 1 rfl) ?_
        refine lv_iload_n hx hb dX12_units_24 rfl (lv_at hl 2 rfl) ?_
        refine lv_iload_n hx hb dX12_units_25 rfl (lv_at hl 3 rfl) ?_
        refine z_ci hW hS hA (va_runV (As := [.int a1, .int a2, .int a3]) (rest := []) ⟨hx, hb, hml, hown, hts⟩ (sx_X12_unitsOf l G ad I J ⟨(by show 0 ≤ (I 0 0).toInt ∧ (I 0 0).toInt ≤ 719; exact hma.1), (by show 0 ≤ (I 0 1).toInt ∧ (I 0 1).toInt ≤ 30; exact hma.2.1), (by show 0 ≤ (I 0 2).toInt ∧ (I 0 2).toInt ≤ 200; exact hma.2.2)⟩ ⟨(by show 0 ≤ (I 0 13).toInt ∧ (I 0 13).toInt ≤ 12; exact hmb.1), (by show 0 ≤ (I 0 14).toInt ∧ (I 0 14).toInt ≤ 288; exact hmb.2)⟩ hAtf hAtm hNd hAsf hAst hAsc hEx a1 a2 a3 (by first | omega | decide) _) (cwV 3 hts gX12_units_X12_unitsOf rfl rfl rfl hy_X12_unitsOf ⟨Nat.le_of_ble_eq_true rfl, Nat.le_of_ble_eq_true rfl⟩) (z_preV (i := 0) hK hW rfl rfl) rfl rfl hl.1 rfl (lv_room (Nat.le_of_ble_eq_true rfl)) dX12_units_26 ⟨Nat.le_of_ble_eq_true rfl, Nat.le_of_ble_eq_true rfl⟩) (fun r u1 H locs hp hW hS => ?_)
        obtain ⟨I10, J12, e9, hI10ma, hI10mb, hI10Atf, hI10Atm, hI10Nd, hI10Asf, hI10Ast, hI10Asc, hI10Ex, fI10⟩ := hp
        rw [e9] at hW
        have f11 := z_fr_sub (L := L_X12_units) z_fr_0 fI10 (by decide)
        refine lv_topi (fun x13 ex13 => ?_)
        refine lv_goto (tgt := 33) hx hb dX12_units_29 (by decide) ?_
        exact z_iret hx hb hr hK hS (Nat.le_of_ble_eq_true rfl) (Nat.le_of_ble_eq_true rfl) hlocks dX12_units_33 (shM, ad, I10, J12, PM ad) hW ⟨I10, J12, rfl, ⟨(by show 0 ≤ (I10 0 0).toInt ∧ (I10 0 0).toInt ≤ 719; exact hI10ma.1), (by show 0 ≤ (I10 0 1).toInt ∧ (I10 0 1).toInt ≤ 30; exact hI10ma.2.1), (by show 0 ≤ (I10 0 2).toInt ∧ (I10 0 2).toInt ≤ 200; exact hI10ma.2.2)⟩, ⟨(by show 0 ≤ (I10 0 13).toInt ∧ (I10 0 13).toInt ≤ 12; exact hI10mb.1), (by show 0 ≤ (I10 0 14).toInt ∧ (I10 0 14).toInt ≤ 288; exact hI10mb.2)⟩, hI10Atf, hI10Atm, hI10Nd, hI10Asf, hI10Ast, hI10Asc, hI10Ex, f11⟩
      · refine lv_if_eq (tgt := 32) hx hb dX12_units_19 (by decide) (fun c14 => ?_) (fun c14 => absurd (by decide) c14)
        refine lv_iconst (v := (-1)) hx hb dX12_units_32 (by decide) ?_
        exact z_iret hx hb hr hK hS (Nat.le_of_ble_eq_true rfl) (Nat.le_of_ble_eq_true rfl) hlocks dX12_units_33 (shM, ad, I, J, PM ad) hW ⟨I, J, rfl, ⟨(by show 0 ≤ (I 0 0).toInt ∧ (I 0 0).toInt ≤ 719; exact hma.1), (by show 0 ≤ (I 0 1).toInt ∧ (I 0 1).toInt ≤ 30; exact hma.2.1), (by show 0 ≤ (I 0 2).toInt ∧ (I 0 2).toInt ≤ 200; exact hma.2.2)⟩, ⟨(by show 0 ≤ (I 0 13).toInt ∧ (I 0 13).toInt ≤ 12; exact hmb.1), (by show 0 ≤ (I 0 14).toInt ∧ (I 0 14).toInt ≤ 288; exact hmb.2)⟩, hAtf, hAtm, hNd, hAsf, hAst, hAsc, hEx, z_fr_0⟩
    · refine lv_if_eq (tgt := 32) hx hb dX12_units_12 (by decide) (fun c15 => ?_) (fun c15 => absurd (by decide) c15)
      refine lv_iconst (v := (-1)) hx hb dX12_units_32 (by decide) ?_
      exact z_iret hx hb hr hK hS (Nat.le_of_ble_eq_true rfl) (Nat.le_of_ble_eq_true rfl) hlocks dX12_units_33 (shM, ad, I, J, PM ad) hW ⟨I, J, rfl, ⟨(by show 0 ≤ (I 0 0).toInt ∧ (I 0 0).toInt ≤ 719; exact hma.1), (by show 0 ≤ (I 0 1).toInt ∧ (I 0 1).toInt ≤ 30; exact hma.2.1), (by show 0 ≤ (I 0 2).toInt ∧ (I 0 2).toInt ≤ 200; exact hma.2.2)⟩, ⟨(by show 0 ≤ (I 0 13).toInt ∧ (I 0 13).toInt ≤ 12; exact hmb.1), (by show 0 ≤ (I 0 14).toInt ∧ (I 0 14).toInt ≤ 288; exact hmb.2)⟩, hAtf, hAtm, hNd, hAsf, hAst, hAsc, hEx, z_fr_0⟩
  · refine lv_if_eq (tgt := 32) hx hb dX12_units_5 (by decide) (fun c16 => ?_) (fun c16 => absurd (by decide) c16)
    refine lv_iconst (v := (-1)) hx hb dX12_units_32 (by decide) ?_
    exact z_iret hx hb hr hK hS (Nat.le_of_ble_eq_true rfl) (Nat.le_of_ble_eq_true rfl) hlocks dX12_units_33 (shM, ad, I, J, PM ad) hW ⟨I, J, rfl, ⟨(by show 0 ≤ (I 0 0).toInt ∧ (I 0 0).toInt ≤ 719; exact hma.1), (by show 0 ≤ (I 0 1).toInt ∧ (I 0 1).toInt ≤ 30; exact hma.2.1), (by show 0 ≤ (I 0 2).toInt ∧ (I 0 2).toInt ≤ 200; exact hma.2.2)⟩, ⟨(by show 0 ≤ (I 0 13).toInt ∧ (I 0 13).toInt ≤ 12; exact hmb.1), (by show 0 ≤ (I 0 14).toInt ∧ (I 0 14).toInt ≤ 288; exact hmb.2)⟩, hAtf, hAtm, hNd, hAsf, hAst, hAsc, hEx, z_fr_0⟩
noncomputable def L_X12_issue : z_L := [(24, 999), (30, 999), (31, 999), (0, 50)]
theorem zj_X12_issue_X12 : ∀ w ∈ wsX120, w ∈ wsX12_issue := fun w h => (List.mem_cons_of_mem _ (List.mem_append_right _ h))
set_option maxHeartbeats 8000000 in
set_option maxRecDepth 100000 in
theorem sx_X12_issue (l : Launch) (G : z_G) (ad : Nat → Nat) (I : z_I) (J : z_J) (hma : z_ima I) (hmb : z_imb I) (hAtf : z_rg 11 0 288 I) (hAtm : z_rg 12 0 24 I) (hNd : z_Nd I) (hAsf : z_rg 19 0 6200 I) (hAst : z_rg 20 0 6200 I) (hAsc : z_rg 18 (-1) 6199 I) (hEx : z_Ex I) (a1 : Int32) (a2 : Int32) : z_M l yX12_issue wsX12_issue { frames := 6, cells := 0, slots := 0, locals := 133 } [.ref (ad 0), .int a1, .int a2] G (shM, ad, I, J, PM ad) (fun r u1 => ∃ (I1 : z_I) (J1 : z_J), u1 = (shM, ad, I1, J1, PM ad) ∧ z_ima I1 ∧ z_imb I1 ∧ z_rg 11 0 288 I1 ∧ z_rg 12 0 24 I1 ∧ z_Nd I1 ∧ z_rg 19 0 6200 I1 ∧ z_rg 20 0 6200 I1 ∧ z_rg 18 (-1) 6199 I1 ∧ z_Ex I1 ∧ z_fr L_X12_issue I1 I) 0 0 := by
  intro sz
  refine z_headQ (cc := cX12_issue) (maxL := 4) (ret := (some .int)) (by decide) rfl (Nat.le_of_ble_eq_true rfl) ?_
  intro p e s m below meth c0 ls hIn hK hsz hW hl
  obtain ⟨hx, hb, hr, hml, hown, hts, hlocks, hname⟩ := hIn
  subst hsz
  have hown : s.vm.findClass RX12 = some m.cls := hown
  have hA : ∀ q : Nat, s.heap.size ≤ q → z_A (shM, ad, I, J, PM ad) s.heap.size q := fun q h => Or.inr h
  generalize hAe : z_A (shM, ad, I, J, PM ad) s.heap.size = A at *
  have hS : va_S A s.heap s.heap [] := va_S.rf
  have hl : lv_has ls 4 [(0, .ref (ad 0)), (1, .int a1), (2, .int a2)] := hl
  refine lv_aload_n hx hb dX12_issue_0 rfl (lv_at hl 0 rfl) ?_
  refine lv_iload_n hx hb dX12_issue_1 rfl (lv_at hl 1 rfl) ?_
  refine z_ci hW hS hA (va_runV (As := [.int a1]) (rest := []) ⟨hx, hb, hml, hown, hts⟩ (sx_X12_isHolder l G ad I J ⟨(by show 0 ≤ (I 0 0).toInt ∧ (I 0 0).toInt ≤ 719; exact hma.1), (by show 0 ≤ (I 0 1).toInt ∧ (I 0 1).toInt ≤ 30; exact hma.2.1), (by show 0 ≤ (I 0 2).toInt ∧ (I 0 2).toInt ≤ 200; exact hma.2.2)⟩ a1 _) (cwV 1 hts gX12_issue_X12_isHolder rfl rfl rfl hy_X12_isHolder ⟨Nat.le_of_ble_eq_true rfl, Nat.le_of_ble_eq_true rfl⟩) (z_preV (i := 0) hK hW rfl rfl) rfl rfl hl.1 rfl (lv_room (Nat.le_of_ble_eq_true rfl)) dX12_issue_2 ⟨Nat.le_of_ble_eq_true rfl, Nat.le_of_ble_eq_true rfl⟩) (fun r u1 H locs hp hW hS => ?_)
  obtain ⟨e9, hp⟩ := hp
  rw [e9] at hW
  rcases hp with ⟨rfl, h1, h2⟩ | rfl
  · refine lv_if_eq (tgt := 53) hx hb dX12_issue_5 (by decide) (fun c3 => absurd c3 (by decide)) (fun c3 => ?_)
    refine lv_iload_n hx hb dX12_issue_8 rfl (lv_at hl 2 rfl) ?_
    refine z_ci hW hS hA (va_runS (As := [.int a2]) (rest := []) ⟨hx, hb, hml, hown, hts⟩ (sx_X12_isMonth l G ad I J  a2 _) (va_cwS 1 hts gX12_issue_X12_isMonth rfl rfl rfl hy_X12_isMonth.2 ⟨Nat.le_of_ble_eq_true rfl, Nat.le_of_ble_eq_true rfl⟩) (z_preS hK hW) rfl rfl hl.1 rfl (lv_room (Nat.le_of_ble_eq_true rfl)) dX12_issue_9 ⟨Nat.le_of_ble_eq_true rfl, Nat.le_of_ble_eq_true rfl⟩) (fun r u1 H locs hp hW hS => ?_)
    obtain ⟨e9, hp⟩ := hp
    rw [e9] at hW
    rcases hp with ⟨rfl, h4, h5⟩ | rfl
    · refine lv_if_eq (tgt := 53) hx hb dX12_issue_12 (by decide) (fun c6 => absurd c6 (by decide)) (fun c6 => ?_)
      refine lv_iload_n hx hb dX12_issue_15 rfl (lv_at hl 2 rfl) ?_
      refine lv_aload_n hx hb dX12_issue_16 rfl (lv_at hl 0 rfl) ?_
      have r7 : 0 ≤ (I 0 0).toInt ∧ (I 0 0).toInt ≤ 719 := hma.1
      refine z_get (T := TX12) (N := 96) (ci := 12) (i := 0) (v := .int (I 0 0)) hx hb hts zj_X12_issue_X12 hown hK hW rfl rfl 0 (by decide) (hts (.fieldLink RX12 232 "PetrolBoardModel" "today" "I") (me_s (me_l (me_l (List.mem_of_getElem? (i := 0) rfl))))) (fun _ h => h) rfl dX12_issue_17 ?_
      refine lv_bipush (v := 30) hx hb dX12_issue_20 (by decide) ?_
      refine lv_idiv hx hb dX12_issue_22 (by decide) ?_
      refine lv_topi (fun x8 ex8 => ?_)
      have tx8 := z_tdiv ex8 rfl z_l30 (by decide)
      refine lv_icmp_lt (tgt := 53) hx hb dX12_issue_23 (by decide) (fun c9 => ?_) (fun c9 => ?_)
      · have g10 := z_f_lt rfl rfl c9
        refine lv_iconst (v := (-1)) hx hb dX12_issue_53 (by decide) ?_
        exact z_iret hx hb hr hK hS (Nat.le_of_ble_eq_true rfl) (Nat.le_of_ble_eq_true rfl) hlocks dX12_issue_54 (shM, ad, I, J, PM ad) hW ⟨I, J, rfl, ⟨(by show 0 ≤ (I 0 0).toInt ∧ (I 0 0).toInt ≤ 719; exact hma.1), (by show 0 ≤ (I 0 1).toInt ∧ (I 0 1).toInt ≤ 30; exact hma.2.1), (by show 0 ≤ (I 0 2).toInt ∧ (I 0 2).toInt ≤ 200; exact hma.2.2)⟩, ⟨(by show 0 ≤ (I 0 13).toInt ∧ (I 0 13).toInt ≤ 12; exact hmb.1), (by show 0 ≤ (I 0 14).toInt ∧ (I 0 14).toInt ≤ 288; exact hmb.2)⟩, hAtf, hAtm, hNd, hAsf, hAst, hAsc, hEx, z_fr_0⟩
      · have g11 := z_f_nlt rfl rfl c9
        refine lv_iload_n hx hb dX12_issue_26 rfl (lv_at hl 2 rfl) ?_
        refine lv_aload_n hx hb dX12_issue_27 rfl (lv_at hl 0 rfl) ?_
        refine z_get (T := TX12) (N := 96) (ci := 12) (i := 0) (v := .int (I 0 0)) hx hb hts zj_X12_issue_X12 hown hK hW rfl rfl 0 (by decide) (hts (.fieldLink RX12 232 "PetrolBoardModel" "today" "I") (me_s (me_l (me_l (List.mem_of_getElem? (i := 0) rfl))))) (fun _ h => h) rfl dX12_issue_28 ?_
        refine lv_bipush (v := 30) hx hb dX12_issue_31 (by decide) ?_
        refine lv_idiv hx hb dX12_issue_33 (by decide) ?_
        refine lv_topi (fun x12 ex12 => ?_)
        have tx12 := z_tdiv ex12 rfl z_l30 (by decide)
        refine lv_iconst (v := 1) hx hb dX12_issue_34 (by decide) ?_
        refine lv_iadd hx hb dX12_issue_35 ?_
        refine lv_topi (fun x13 ex13 => ?_)
        have tx13 : x13.toInt = x12.toInt + 1 := z_tadd ex13 rfl z_l1 (by omega) (by omega)
        refine lv_icmp_gt (tgt := 53) hx hb dX12_issue_36 (by decide) (fun c14 => ?_) (fun c14 => ?_)
        · have g15 := z_f_gt rfl rfl c14
          refine lv_iconst (v := (-1)) hx hb dX12_issue_53 (by decide) ?_
          exact z_iret hx hb hr hK hS (Nat.le_of_ble_eq_true rfl) (Nat.le_of_ble_eq_true rfl) hlocks dX12_issue_54 (shM, ad, I, J, PM ad) hW ⟨I, J, rfl, ⟨(by show 0 ≤ (I 0 0).toInt ∧ (I 0 0).toInt ≤ 719; exact hma.1), (by show 0 ≤ (I 0 1).toInt ∧ (I 0 1).toInt ≤ 30; exact hma.2.1), (by show 0 ≤ (I 0 2).toInt ∧ (I 0 2).toInt ≤ 200; exact hma.2.2)⟩, ⟨(by show 0 ≤ (I 0 13).toInt ∧ (I 0 13).toInt ≤ 12; exact hmb.1), (by show 0 ≤ (I 0 14).toInt ∧ (I 0 14).toInt ≤ 288; exact hmb.2)⟩, hAtf, hAtm, hNd, hAsf, hAst, hAsc, hEx, z_fr_0⟩
        · have g16 := z_f_ngt rfl rfl c14
          refine lv_aload_n hx hb dX12_issue_39 rfl (lv_at hl 0 rfl) ?_
          refine z_get (T := TX12) (N := 96) (ci := 12) (i := 0) (v := .ref (ad 31)) hx hb hts zj_X12_issue_X12 hown hK hW rfl rfl 49 (by decide) (hts (.fieldLink RX12 106 "PetrolBoardModel" "issued" "[I") (me_s (me_l (me_l (List.mem_of_getElem? (i := 1) rfl))))) (fun _ h => h) rfl dX12_issue_40 ?_
          refine lv_bipush (v := 24) hx hb dX12_issue_43 (by decide) ?_
          refine lv_iload_n hx hb dX12_issue_45 rfl (lv_at hl 1 rfl) ?_
          refine lv_imul hx hb dX12_issue_46 ?_
          refine lv_topi (fun x17 ex17 => ?_)
          have tx17 : x17.toInt = 24 * a1.toInt := z_tmul ex17 z_l24 rfl (by omega) (by omega)
          refine lv_iload_n hx hb dX12_issue_47 rfl (lv_at hl 2 rfl) ?_
          refine lv_iadd hx hb dX12_issue_48 ?_
          refine lv_topi (fun x18 ex18 => ?_)
          have tx18 : x18.toInt = x17.toInt + a2.toInt := z_tadd ex18 rfl rfl (by omega) (by omega)
          refine z_iald (i := 31) hx hb hK hW rfl (z_ix rfl (by omega) (by omega)) dX12_issue_49 ?_
          refine lv_topi (fun x19 ex19 => ?_)
          refine lv_if_le (tgt := 55) hx hb dX12_issue_50 (by decide) (fun c20 => ?_) (fun c20 => ?_)
          · have g21 := z_f_le rfl z_l0 c20
            have b22 := Int32.toInt_lt x19
            refine lv_aload_n hx hb dX12_issue_55 rfl (lv_at hl 0 rfl) ?_
            refine lv_iload_n hx hb dX12_issue_56 rfl (lv_at hl 1 rfl) ?_
            refine lv_iload_n hx hb dX12_issue_57 rfl (lv_at hl 2 rfl) ?_
            refine lv_aload_n hx hb dX12_issue_58 rfl (lv_at hl 0 rfl) ?_
            refine z_get (T := TX12) (N := 96) (ci := 12) (i := 0) (v := .int (I 0 0)) hx hb hts zj_X12_issue_X12 hown hK hW rfl rfl 0 (by decide) (hts (.fieldLink RX12 232 "PetrolBoardModel" "today" "I") (me_s (me_l (me_l (List.mem_of_getElem? (i := 0) rfl))))) (fun _ h => h) rfl dX12_issue_59 ?_
            refine z_ci hW hS hA (va_runV (As := [.int a1, .int a2, .int (I 0 0)]) (rest := []) ⟨hx, hb, hml, hown, hts⟩ (sx_X12_unitsOf l G ad I J ⟨(by show 0 ≤ (I 0 0).toInt ∧ (I 0 0).toInt ≤ 719; exact hma.1), (by show 0 ≤ (I 0 1).toInt ∧ (I 0 1).toInt ≤ 30; exact hma.2.1), (by show 0 ≤ (I 0 2).toInt ∧ (I 0 2).toInt ≤ 200; exact hma.2.2)⟩ ⟨(by show 0 ≤ (I 0 13).toInt ∧ (I 0 13).toInt ≤ 12; exact hmb.1), (by show 0 ≤ (I 0 14).toInt ∧ (I 0 14).toInt ≤ 288; exact hmb.2)⟩ hAtf hAtm hNd hAsf hAst hAsc hEx a1 a2 (I 0 0) (by first | omega | decide) _) (cwV 3 hts gX12_issue_X12_unitsOf rfl rfl rfl hy_X12_unitsOf ⟨Nat.le_of_ble_eq_true rfl, Nat.le_of_ble_eq_true rfl⟩) (z_preV (i := 0) hK hW rfl rfl) rfl rfl hl.1 rfl (lv_room (Nat.le_of_ble_eq_true rfl)) dX12_issue_62 ⟨Nat.le_of_ble_eq_true rfl, Nat.le_of_ble_eq_true rfl⟩) (fun r u1 H locs hp hW hS => ?_)
            obtain ⟨I23, J25, e9, hI23ma, hI23mb, hI23Atf, hI23Atm, hI23Nd, hI23Asf, hI23Ast, hI23Asc, hI23Ex, fI23⟩ := hp
            rw [e9] at hW
            have f24 := z_fr_sub (L := L_X12_issue) z_fr_0 fI23 (by decide)
            refine lv_topi (fun x26 ex26 => ?_)
            refine lv_istore_n (lv' := [(3, .int x26), (0, .ref (ad 0)), (1, .int a1), (2, .int a2)]) hx hb dX12_issue_65 rfl hl (by decide) rfl (fun ls hl => ?_)
            refine lv_aload_n hx hb dX12_issue_66 rfl (lv_at hl 1 rfl) ?_
            refine z_get (T := TX12) (N := 96) (ci := 12) (i := 0) (v := .ref (ad 31)) hx hb hts zj_X12_issue_X12 hown hK hW rfl rfl 49 (by decide) (hts (.fieldLink RX12 106 "PetrolBoardModel" "issued" "[I") (me_s (me_l (me_l (List.mem_of_getElem? (i := 1) rfl))))) (fun _ h => h) rfl dX12_issue_67 ?_
            refine lv_bipush (v := 24) hx hb dX12_issue_70 (by decide) ?_
            refine lv_iload_n hx hb dX12_issue_72 rfl (lv_at hl 2 rfl) ?_
            refine lv_imul hx hb dX12_issue_73 ?_
            refine lv_topi (fun x27 ex27 => ?_)
            have tx27 : x27.toInt = 24 * a1.toInt := z_tmul ex27 z_l24 rfl (by omega) (by omega)
            refine lv_iload_n hx hb dX12_issue_74 rfl (lv_at hl 3 rfl) ?_
            refine lv_iadd hx hb dX12_issue_75 ?_
            refine lv_topi (fun x28 ex28 => ?_)
            have tx28 : x28.toInt = x27.toInt + a2.toInt := z_tadd ex28 rfl rfl (by omega) (by omega)
            refine lv_iload_n hx hb dX12_issue_76 rfl (lv_at hl 0 rfl) ?_
            refine lv_iconst (v := 1) hx hb dX12_issue_77 (by decide) ?_
            refine lv_iadd hx hb dX12_issue_78 ?_
            refine lv_topi (fun x29 ex29 => ?_)
            refine z_iast (i := 31) hx hb hK hW hS rfl (z_ix rfl (by omega) (by omega)) dX12_issue_79 (fun H locs hz1 hW hS => ?_)
            obtain ⟨I30, eI30⟩ : ∃ K : z_I, K = z_up I23 31 x28.toNatClampNeg x29 := ⟨_, rfl⟩
            rw [← eI30] at hW
            have f31 := z_fr_a f24 (show z_wa L_X12_issue 31 = true by decide) eI30
            have a32 := z_rg_n hI23Atf (by decide) eI30
            have a33 := z_rg_n hI23Atm (by decide) eI30
            have a34 := z_Nd_n hI23Nd (by decide) eI30
            have a35 := z_rg_n hI23Asf (by decide) eI30
            have a36 := z_rg_n hI23Ast (by decide) eI30
            have a37 := z_rg_n hI23Asc (by decide) eI30
            have a38 := z_Ex_n hI23Ex (by decide) eI30
            refine lv_aload_n hx hb dX12_issue_80 rfl (lv_at hl 1 rfl) ?_
            refine lv_dup hx hb dX12_issue_81 rfl ?_
            refine z_get (T := TX12) (N := 96) (ci := 12) (i := 0) (v := .int (I23 0 50)) hx hb hts zj_X12_issue_X12 hown hK hW rfl rfl 50 (by decide) (hts (.fieldLink RX12 449 "PetrolBoardModel" "books" "I") (me_s (me_l (me_l (List.mem_of_getElem? (i := 2) rfl))))) (fun _ h => h) (congrArg Value.int (by rw [eI30, z_up_n (by decide)])) dX12_issue_82 ?_
            refine lv_iconst (v := 1) hx hb dX12_issue_85 (by decide) ?_
            refine lv_iadd hx hb dX12_issue_86 ?_
            refine lv_topi (fun x39 ex39 => ?_)
            refine z_put (T := TX12) (N := 96) (ci := 12) (i := 0) (v := .int x39) (I1 := z_up I30 0 50 x39) (J1 := J25) (P1 := PM ad) hx hb hts zj_X12_issue_X12 tyX12 tyX12_ok nmX12 hown hK hW hS rfl rfl 50 (by decide) (hts (.fieldLink RX12 449 "PetrolBoardModel" "books" "I") (me_s (me_l (me_l (List.mem_of_getElem? (i := 2) rfl))))) (fun _ h => h) rfl rfl rfl (by first | rfl | exact congrArg _ z_up_s) (fun a b h ty => z_vI h ty) dX12_issue_87 (fun H locs hz1 hW hS => ?_)
            obtain ⟨I40, eI40⟩ : ∃ K : z_I, K = z_up I30 0 50 x39 := ⟨_, rfl⟩
            rw [← eI40] at hW
            have f41 := z_fr_k f31 (show z_wr L_X12_issue 0 50 = true by decide) eI40
            have a42 := z_rg_n a32 (by decide) eI40
            have a43 := z_rg_n a33 (by decide) eI40
            have a44 := z_Nd_n a34 (by decide) eI40
            have a45 := z_rg_n a35 (by decide) eI40
            have a46 := z_rg_n a36 (by decide) eI40
            have a47 := z_rg_n a37 (by decide) eI40
            have a48 := z_Ex_n a38 (by decide) eI40
            refine lv_iload_n hx hb dX12_issue_90 rfl (lv_at hl 0 rfl) ?_
            exact z_iret hx hb hr hK hS (Nat.le_of_ble_eq_true rfl) (Nat.le_of_ble_eq_true rfl) hlocks dX12_issue_91 (shM, ad, I40, J25, PM ad) hW ⟨I40, J25, rfl, ⟨(by show 0 ≤ (I40 0 0).toInt ∧ (I40 0 0).toInt ≤ 719; rw [eI40, z_up_k (by decide), eI30, z_up_n (by decide)]; exact hI23ma.1), (by show 0 ≤ (I40 0 1).toInt ∧ (I40 0 1).toInt ≤ 30; rw [eI40, z_up_k (by decide), eI30, z_up_n (by decide)]; exact hI23ma.2.1), (by show 0 ≤ (I40 0 2).toInt ∧ (I40 0 2).toInt ≤ 200; rw [eI40, z_up_k (by decide), eI30, z_up_n (by decide)]; exact hI23ma.2.2)⟩, ⟨(by show 0 ≤ (I40 0 13).toInt ∧ (I40 0 13).toInt ≤ 12; rw [eI40, z_up_k (by decide), eI30, z_up_n (by decide)]; exact hI23mb.1), (by show 0 ≤ (I40 0 14).toInt ∧ (I40 0 14).toInt ≤ 288; rw [eI40, z_up_k (by decide), eI30, z_up_n (by decide)]; exact hI23mb.2)⟩, a42, a43, a44, a45, a46, a47, a48, f41⟩
          · have g49 := z_f_nle rfl z_l0 c20
            have b50 := Int32.toInt_lt x19
            refine lv_iconst (v := (-1)) hx hb dX12_issue_53 (by decide) ?_
            exact z_iret hx hb hr hK hS (Nat.le_of_ble_eq_true rfl) (Nat.le_of_ble_eq_true rfl) hlocks dX12_issue_54 (shM, ad, I, J, PM ad) hW ⟨I, J, rfl, ⟨(by show 0 ≤ (I 0 0).toInt ∧ (I 0 0).toInt ≤ 719; exact hma.1), (by show 0 ≤ (I 0 1).toInt ∧ (I 0 1).toInt ≤ 30; exact hma.2.1), (by show 0 ≤ (I 0 2).toInt ∧ (I 0 2).toInt ≤ 200; exact hma.2.2)⟩, ⟨(by show 0 ≤ (I 0 13).toInt ∧ (I 0 13).toInt ≤ 12; exact hmb.1), (by show 0 ≤ (I 0 14).toInt ∧ (I 0 14).toInt ≤ 288; exact hmb.2)⟩, hAtf, hAtm, hNd, hAsf, hAst, hAsc, hEx, z_fr_0⟩
    · refine lv_if_eq (tgt := 53) hx hb dX12_issue_12 (by decide) (fun c51 => ?_) (fun c51 => absurd (by decide) c51)
      refine lv_iconst (v := (-1)) hx hb dX12_issue_53 (by decide) ?_
      exact z_iret hx hb hr hK hS (Nat.le_of_ble_eq_true rfl) (Nat.le_of_ble_eq_true rfl) hlocks dX12_issue_54 (shM, ad, I, J, PM ad) hW ⟨I, J, rfl, ⟨(by show 0 ≤ (I 0 0).toInt ∧ (I 0 0).toInt ≤ 719; exact hma.1), (by show 0 ≤ (I 0 1).toInt ∧ (I 0 1).toInt ≤ 30; exact hma.2.1), (by show 0 ≤ (I 0 2).toInt ∧ (I 0 2).toInt ≤ 200; exact hma.2.2)⟩, ⟨(by show 0 ≤ (I 0 13).toInt ∧ (I 0 13).toInt ≤ 12; exact hmb.1), (by show 0 ≤ (I 0 14).toInt ∧ (I 0 14).toInt ≤ 288; exact hmb.2)⟩, hAtf, hAtm, hNd, hAsf, hAst, hAsc, hEx, z_fr_0⟩
  · refine lv_if_eq (tgt := 53) hx hb dX12_issue_5 (by decide) (fun c52 => ?_) (fun c52 => absurd (by decide) c52)
    refine lv_iconst (v := (-1)) hx hb dX12_issue_53 (by decide) ?_
    exact z_iret hx hb hr hK hS (Nat.le_of_ble_eq_true rfl) (Nat.le_of_ble_eq_true rfl) hlocks dX12_issue_54 (shM, ad, I, J, PM ad) hW ⟨I, J, rfl, ⟨(by show 0 ≤ (I 0 0).toInt ∧ (I 0 0).toInt ≤ 719; exact hma.1), (by show 0 ≤ (I 0 1).toInt ∧ (I 0 1).toInt ≤ 30; exact hma.2.1), (by show 0 ≤ (I 0 2).toInt ∧ (I 0 2).toInt ≤ 200; exact hma.2.2)⟩, ⟨(by show 0 ≤ (I 0 13).toInt ∧ (I 0 13).toInt ≤ 12; exact hmb.1), (by show 0 ≤ (I 0 14).toInt ∧ (I 0 14).toInt ≤ 288; exact hmb.2)⟩, hAtf, hAtm, hNd, hAsf, hAst, hAsc, hEx, z_fr_0⟩
noncomputable def L_X12_granted : z_L := [(24, 999), (30, 999)]
theorem zj_X12_granted_X12 : ∀ w ∈ wsX120, w ∈ wsX12_granted := fun w h => (List.mem_cons_of_mem _ (List.mem_append_right _ h))
set_option maxHeartbeats 8000000 in
set_option maxRecDepth 100000 in
theorem sx_X12_granted (l : Launch) (G : z_G) (ad : Nat → Nat) (I : z_I) (J : z_J) (hma : z_ima I) (hmb : z_imb I) (hmj : z_imj I) (hAtf : z_rg 11 0 288 I) (hAtm : z_rg 12 0 24 I) (hAjw : z_rg 59 0 29 I) (hNd : z_Nd I) (hAsf : z_rg 19 0 6200 I) (hAst : z_rg 20 0 6200 I) (hAsc : z_rg 18 (-1) 6199 I) (hEx : z_Ex I) (a1 : Int32) (q1 : 0 ≤ a1.toInt ∧ a1.toInt ≤ 59) : z_M l yX12_granted wsX12_granted { frames := 5, cells := 0, slots := 0, locals := 108 } [.ref (ad 0), .int a1] G (shM, ad, I, J, PM ad) (fun r u1 => ∃ (I1 : z_I) (J1 : z_J), u1 = (shM, ad, I1, J1, PM ad) ∧ z_ima I1 ∧ z_imb I1 ∧ z_imj I1 ∧ z_rg 11 0 288 I1 ∧ z_rg 12 0 24 I1 ∧ z_rg 59 0 29 I1 ∧ z_Nd I1 ∧ z_rg 19 0 6200 I1 ∧ z_rg 20 0 6200 I1 ∧ z_rg 18 (-1) 6199 I1 ∧ z_Ex I1 ∧ z_fr L_X12_granted I1 I) 0 0 := by
  intro sz
  refine z_headQ (cc := cX12_granted) (maxL := 3) (ret := (some .int)) (by decide) rfl (Nat.le_of_ble_eq_true rfl) ?_
  intro p e s m below meth c0 ls hIn hK hsz hW hl
  obtain ⟨hx, hb, hr, hml, hown, hts, hlocks, hname⟩ := hIn
  subst hsz
  have hown : s.vm.findClass RX12 = some m.cls := hown
  have hA : ∀ q : Nat, s.heap.size ≤ q → z_A (shM, ad, I, J, PM ad) s.heap.size q := fun q h => Or.inr h
  generalize hAe : z_A (shM, ad, I, J, PM ad) s.heap.size = A at *
  have hS : va_S A s.heap s.heap [] := va_S.rf
  have hl : lv_has ls 3 [(0, .ref (ad 0)), (1, .int a1)] := hl
  refine lv_aload_n hx hb dX12_granted_0 rfl (lv_at hl 0 rfl) ?_
  refine z_get (T := TX12) (N := 96) (ci := 12) (i := 0) (v := .ref (ad 63)) hx hb hts zj_X12_granted_X12 hown hK hW rfl rfl 88 (by decide) (hts (.fieldLink RX12 205 "PetrolBoardModel" "jDay" "[I") (me_s (me_l (me_l (List.mem_of_getElem? (i := 0) rfl))))) (fun _ h => h) rfl dX12_granted_1 ?_
  refine lv_iload_n hx hb dX12_granted_4 rfl (lv_at hl 1 rfl) ?_
  refine z_iald (i := 63) hx hb hK hW rfl (z_ix rfl (by omega) (by omega)) dX12_granted_5 ?_
  refine lv_topi (fun x1 ex1 => ?_)
  refine lv_bipush (v := 30) hx hb dX12_granted_6 (by decide) ?_
  refine lv_idiv hx hb dX12_granted_8 (by decide) ?_
  refine lv_topi (fun x2 ex2 => ?_)
  have tx2 := z_tdiv ex2 rfl z_l30 (by decide)
  refine lv_istore_n (lv' := [(2, .int x2), (0, .ref (ad 0)), (1, .int a1)]) hx hb dX12_granted_9 rfl hl (by decide) rfl (fun ls hl => ?_)
  refine lv_aload_n hx hb dX12_granted_10 rfl (lv_at hl 1 rfl) ?_
  refine lv_aload_n hx hb dX12_granted_11 rfl (lv_at hl 1 rfl) ?_
  refine z_get (T := TX12) (N := 96) (ci := 12) (i := 0) (v := .ref (ad 59)) hx hb hts zj_X12_granted_X12 hown hK hW rfl rfl 84 (by decide) (hts (.fieldLink RX12 193 "PetrolBoardModel" "jWho" "[I") (me_s (me_l (me_l (List.mem_of_getElem? (i := 1) rfl))))) (fun _ h => h) rfl dX12_granted_12 ?_
  refine lv_iload_n hx hb dX12_granted_15 rfl (lv_at hl 2 rfl) ?_
  refine z_iald (i := 59) hx hb hK hW rfl (z_ix rfl (by omega) (by omega)) dX12_granted_16 ?_
  refine lv_topi (fun x3 ex3 => ?_)
  have h4 : 0 ≤ x3.toInt ∧ x3.toInt ≤ 29 := by rw [ex3]; exact hAjw _
  refine lv_aload_n hx hb dX12_granted_17 rfl (lv_at hl 1 rfl) ?_
  refine lv_aload_n hx hb dX12_granted_18 rfl (lv_at hl 1 rfl) ?_
  refine z_get (T := TX12) (N := 96) (ci := 12) (i := 0) (v := .ref (ad 59)) hx hb hts zj_X12_granted_X12 hown hK hW rfl rfl 84 (by decide) (hts (.fieldLink RX12 193 "PetrolBoardModel" "jWho" "[I") (me_s (me_l (me_l (List.mem_of_getElem? (i := 1) rfl))))) (fun _ h => h) rfl dX12_granted_19 ?_
  refine lv_iload_n hx hb dX12_granted_22 rfl (lv_at hl 2 rfl) ?_
  refine z_iald (i := 59) hx hb hK hW rfl (z_ix rfl (by omega) (by omega)) dX12_granted_23 ?_
  refine z_topi (v := x3) ex3.symm ?_
  refine lv_aload_n hx hb dX12_granted_24 rfl (lv_at hl 1 rfl) ?_
  refine z_get (T := TX12) (N := 96) (ci := 12) (i := 0) (v := .ref (ad 63)) hx hb hts zj_X12_granted_X12 hown hK hW rfl rfl 88 (by decide) (hts (.fieldLink RX12 205 "PetrolBoardModel" "jDay" "[I") (me_s (me_l (me_l (List.mem_of_getElem? (i := 0) rfl))))) (fun _ h => h) rfl dX12_granted_25 ?_
  refine lv_iload_n hx hb dX12_granted_28 rfl (lv_at hl 2 rfl) ?_
  refine z_iald (i := 63) hx hb hK hW rfl (z_ix rfl (by omega) (by omega)) dX12_granted_29 ?_
  refine z_topi (v := x1) ex1.symm ?_
  refine lv_aload_n hx hb dX12_granted_30 rfl (lv_at hl 1 rfl) ?_
  refine z_get (T := TX12) (N := 96) (ci := 12) (i := 0) (v := .ref (ad 65)) hx hb hts zj_X12_granted_X12 hown hK hW rfl rfl 90 (by decide) (hts (.fieldLink RX12 211 "PetrolBoardModel" "jAsked" "[I") (me_s (me_l (me_l (List.mem_of_getElem? (i := 2) rfl))))) (fun _ h => h) rfl dX12_granted_31 ?_
  refine lv_iload_n hx hb dX12_granted_34 rfl (lv_at hl 2 rfl) ?_
  refine z_iald (i := 65) hx hb hK hW rfl (z_ix rfl (by omega) (by omega)) dX12_granted_35 ?_
  refine lv_topi (fun x5 ex5 => ?_)
  refine z_ci hW hS hA (va_runV (As := [.int x3, .int x1, .int x5]) (rest := [.int x3, .ref (ad 0)]) ⟨hx, hb, hml, hown, hts⟩ (sx_X12_kindOn l G ad I J ⟨(by show 0 ≤ (I 0 0).toInt ∧ (I 0 0).toInt ≤ 719; exact hma.1), (by show 0 ≤ (I 0 1).toInt ∧ (I 0 1).toInt ≤ 30; exact hma.2.1), (by show 0 ≤ (I 0 2).toInt ∧ (I 0 2).toInt ≤ 200; exact hma.2.2)⟩ x3 x1 x5 _) (cwV 3 hts gX12_granted_X12_kindOn rfl rfl rfl hy_X12_kindOn ⟨Nat.le_of_ble_eq_true rfl, Nat.le_of_ble_eq_true rfl⟩) (z_preV (i := 0) hK hW rfl rfl) rfl rfl hl.1 rfl (lv_room (Nat.le_of_ble_eq_true rfl)) dX12_granted_36 ⟨Nat.le_of_ble_eq_true rfl, Nat.le_of_ble_eq_true rfl⟩) (fun r u1 H locs hp hW hS => ?_)
  rw [hp] at hW
  refine lv_topi (fun x6 ex6 => ?_)
  refine lv_iload_n hx hb dX12_granted_39 rfl (lv_at hl 0 rfl) ?_
  refine lv_aload_n hx hb dX12_granted_40 rfl (lv_at hl 1 rfl) ?_
  refine z_get (T := TX12) (N := 96) (ci := 12) (i := 0) (v := .ref (ad 60)) hx hb hts zj_X12_granted_X12 hown hK hW rfl rfl 85 (by decide) (hts (.fieldLink RX12 196 "PetrolBoardModel" "jMiles" "[I") (me_s (me_l (me_l (List.mem_of_getElem? (i := 3) rfl))))) (fun _ h => h) rfl dX12_granted_41 ?_
  refine lv_iload_n hx hb dX12_granted_44 rfl (lv_at hl 2 rfl) ?_
  refine z_iald (i := 60) hx hb hK hW rfl (z_ix rfl (by omega) (by omega)) dX12_granted_45 ?_
  refine lv_topi (fun x7 ex7 => ?_)
  refine lv_aload_n hx hb dX12_granted_46 rfl (lv_at hl 1 rfl) ?_
  refine z_get (T := TX12) (N := 96) (ci := 12) (i := 0) (v := .ref (ad 61)) hx hb hts zj_X12_granted_X12 hown hK hW rfl rfl 86 (by decide) (hts (.fieldLink RX12 199 "PetrolBoardModel" "jPeople" "[I") (me_s (me_l (me_l (List.mem_of_getElem? (i := 4) rfl))))) (fun _ h => h) rfl dX12_granted_47 ?_
  refine lv_iload_n hx hb dX12_granted_50 rfl (lv_at hl 2 rfl) ?_
  refine z_iald (i := 61) hx hb hK hW rfl (z_ix rfl (by omega) (by omega)) dX12_granted_51 ?_
  refine lv_topi (fun x8 ex8 => ?_)
  refine lv_aload_n hx hb dX12_granted_52 rfl (lv_at hl 1 rfl) ?_
  refine z_get (T := TX12) (N := 96) (ci := 12) (i := 0) (v := .ref (ad 62)) hx hb hts zj_X12_granted_X12 hown hK hW rfl rfl 87 (by decide) (hts (.fieldLink RX12 202 "PetrolBoardModel" "jReason" "[I") (me_s (me_l (me_l (List.mem_of_getElem? (i := 5) rfl))))) (fun _ h => h) rfl dX12_granted_53 ?_
  refine lv_iload_n hx hb dX12_granted_56 rfl (lv_at hl 2 rfl) ?_
  refine z_iald (i := 62) hx hb hK hW rfl (z_ix rfl (by omega) (by omega)) dX12_granted_57 ?_
  refine lv_topi (fun x9 ex9 => ?_)
  refine z_cv hW hS hA (va_runV (As := [.int x3, .int x6, .int x2, .int x7, .int x8, .int x9]) (rest := []) ⟨hx, hb, hml, hown, hts⟩ (sx_X12_asked l G ad I J  x3 x6 x2 x7 x8 x9 (by first | omega | decide) _) (cwV 6 hts gX12_granted_X12_asked rfl rfl rfl hy_X12_asked ⟨Nat.le_of_ble_eq_true rfl, Nat.le_of_ble_eq_true rfl⟩) (z_preV (i := 0) hK hW rfl rfl) rfl rfl hl.1 rfl (lv_room (Nat.le_of_ble_eq_true rfl)) dX12_granted_58 ⟨Nat.le_of_ble_eq_true rfl, Nat.le_of_ble_eq_true rfl⟩) (fun u1 H locs hp hW hS => ?_)
  obtain ⟨I10, J12, e9, fI10⟩ := hp
  rw [e9] at hW
  have f11 := z_fr_sub (L := L_X12_granted) z_fr_0 fI10 (by decide)
  have k13 : 0 ≤ (I10 0 0).toInt ∧ (I10 0 0).toInt ≤ 719 := by rw [fI10 0 0 (by decide)]; exact (by show 0 ≤ (I 0 0).toInt ∧ (I 0 0).toInt ≤ 719; exact hma.1)
  have k14 : 0 ≤ (I10 0 1).toInt ∧ (I10 0 1).toInt ≤ 30 := by rw [fI10 0 1 (by decide)]; exact (by show 0 ≤ (I 0 1).toInt ∧ (I 0 1).toInt ≤ 30; exact hma.2.1)
  have k15 : 0 ≤ (I10 0 2).toInt ∧ (I10 0 2).toInt ≤ 200 := by rw [fI10 0 2 (by decide)]; exact (by show 0 ≤ (I 0 2).toInt ∧ (I 0 2).toInt ≤ 200; exact hma.2.2)
  have k16 : 0 ≤ (I10 0 13).toInt ∧ (I10 0 13).toInt ≤ 12 := by rw [fI10 0 13 (by decide)]; exact (by show 0 ≤ (I 0 13).toInt ∧ (I 0 13).toInt ≤ 12; exact hmb.1)
  have k17 : 0 ≤ (I10 0 14).toInt ∧ (I10 0 14).toInt ≤ 288 := by rw [fI10 0 14 (by decide)]; exact (by show 0 ≤ (I 0 14).toInt ∧ (I 0 14).toInt ≤ 288; exact hmb.2)
  have k18 : 0 ≤ (I10 0 83).toInt ∧ (I10 0 83).toInt ≤ 60 := by rw [fI10 0 83 (by decide)]; exact (by show 0 ≤ (I 0 83).toInt ∧ (I 0 83).toInt ≤ 60; exact hmj)
  refine lv_aload_n hx hb dX12_granted_61 rfl (lv_at hl 1 rfl) ?_
  refine lv_aload_n hx hb dX12_granted_62 rfl (lv_at hl 1 rfl) ?_
  refine lv_iload_n hx hb dX12_granted_63 rfl (lv_at hl 0 rfl) ?_
  refine lv_aload_n hx hb dX12_granted_64 rfl (lv_at hl 1 rfl) ?_
  refine z_get (T := TX12) (N := 96) (ci := 12) (i := 0) (v := .ref (ad 65)) hx hb hts zj_X12_granted_X12 hown hK hW rfl rfl 90 (by decide) (hts (.fieldLink RX12 211 "PetrolBoardModel" "jAsked" "[I") (me_s (me_l (me_l (List.mem_of_getElem? (i := 2) rfl))))) (fun _ h => h) rfl dX12_granted_65 ?_
  refine lv_iload_n hx hb dX12_granted_68 rfl (lv_at hl 2 rfl) ?_
  refine z_iald (i := 65) hx hb hK hW rfl (z_ix rfl (by omega) (by omega)) dX12_granted_69 ?_
  refine lv_topi (fun x19 ex19 => ?_)
  refine z_ci hW hS hA (va_runV (As := [.int x2, .int x19]) (rest := [.ref (ad 0)]) ⟨hx, hb, hml, hown, hts⟩ (sx_X12_inForce l G ad I10 J12 ⟨(by show 0 ≤ (I10 0 13).toInt ∧ (I10 0 13).toInt ≤ 12; exact k16), (by show 0 ≤ (I10 0 14).toInt ∧ (I10 0 14).toInt ≤ 288; exact k17)⟩ x2 x19 _) (cwV 2 hts gX12_granted_X12_inForce rfl rfl rfl hy_X12_inForce ⟨Nat.le_of_ble_eq_true rfl, Nat.le_of_ble_eq_true rfl⟩) (z_preV (i := 0) hK hW rfl rfl) rfl rfl hl.1 rfl (lv_room (Nat.le_of_ble_eq_true rfl)) dX12_granted_70 ⟨Nat.le_of_ble_eq_true rfl, Nat.le_of_ble_eq_true rfl⟩) (fun r u1 H locs hp hW hS => ?_)
  obtain ⟨e9, hp⟩ := hp
  rw [e9] at hW
  have hq := hp
  generalize r = x20 at hq ⊢
  have h21 := hq
  refine lv_iconst (v := 1) hx hb dX12_granted_73 (by decide) ?_
  refine z_ci hW hS hA (va_runV (As := [.int x20, .int 1]) (rest := []) ⟨hx, hb, hml, hown, hts⟩ (sx_X12_first l G ad I10 J12 ⟨(by show 0 ≤ (I10 0 13).toInt ∧ (I10 0 13).toInt ≤ 12; exact k16), (by show 0 ≤ (I10 0 14).toInt ∧ (I10 0 14).toInt ≤ 288; exact k17)⟩ (z_rg_fr hAtf fI10 (by decide)) (z_rg_fr hAtm fI10 (by decide)) (z_Nd_fr hNd fI10 (by decide)) (z_rg_fr hAsf fI10 (by decide)) (z_rg_fr hAst fI10 (by decide)) (z_rg_fr hAsc fI10 (by decide)) (z_Ex_fr hEx fI10 (by decide)) x20 1 (by first | omega | decide) (by first | omega | decide) _) (cwV 2 hts gX12_granted_X12_first rfl rfl rfl hy_X12_first ⟨Nat.le_of_ble_eq_true rfl, Nat.le_of_ble_eq_true rfl⟩) (z_preV (i := 0) hK hW rfl rfl) rfl rfl hl.1 rfl (lv_room (Nat.le_of_ble_eq_true rfl)) dX12_granted_74 ⟨Nat.le_of_ble_eq_true rfl, Nat.le_of_ble_eq_true rfl⟩) (fun r u1 H locs hp hW hS => ?_)
  obtain ⟨I22, J24, e9, hI22mb, hI22Atf, hI22Atm, hI22Nd, hI22Asf, hI22Ast, hI22Asc, hI22Ex, fI22⟩ := hp
  rw [e9] at hW
  have f23 := z_fr_sub (L := L_X12_granted) f11 fI22 (by decide)
  have k25 : 0 ≤ (I22 0 0).toInt ∧ (I22 0 0).toInt ≤ 719 := by rw [fI22 0 0 (by decide)]; exact (by show 0 ≤ (I10 0 0).toInt ∧ (I10 0 0).toInt ≤ 719; exact k13)
  have k26 : 0 ≤ (I22 0 1).toInt ∧ (I22 0 1).toInt ≤ 30 := by rw [fI22 0 1 (by decide)]; exact (by show 0 ≤ (I10 0 1).toInt ∧ (I10 0 1).toInt ≤ 30; exact k14)
  have k27 : 0 ≤ (I22 0 2).toInt ∧ (I22 0 2).toInt ≤ 200 := by rw [fI22 0 2 (by decide)]; exact (by show 0 ≤ (I10 0 2).toInt ∧ (I10 0 2).toInt ≤ 200; exact k15)
  have k28 : 0 ≤ (I22 0 83).toInt ∧ (I22 0 83).toInt ≤ 60 := by rw [fI22 0 83 (by decide)]; exact (by show 0 ≤ (I10 0 83).toInt ∧ (I10 0 83).toInt ≤ 60; exact k18)
  refine lv_topi (fun x29 ex29 => ?_)
  exact z_iret hx hb hr hK hS (Nat.le_of_ble_eq_true rfl) (Nat.le_of_ble_eq_true rfl) hlocks dX12_granted_77 (shM, ad, I22, J24, PM ad) hW ⟨I22, J24, rfl, ⟨(by show 0 ≤ (I22 0 0).toInt ∧ (I22 0 0).toInt ≤ 719; exact k25), (by show 0 ≤ (I22 0 1).toInt ∧ (I22 0 1).toInt ≤ 30; exact k26), (by show 0 ≤ (I22 0 2).toInt ∧ (I22 0 2).toInt ≤ 200; exact k27)⟩, ⟨(by show 0 ≤ (I22 0 13).toInt ∧ (I22 0 13).toInt ≤ 12; exact hI22mb.1), (by show 0 ≤ (I22 0 14).toInt ∧ (I22 0 14).toInt ≤ 288; exact hI22mb.2)⟩, (by show 0 ≤ (I22 0 83).toInt ∧ (I22 0 83).toInt ≤ 60; exact k28), hI22Atf, hI22Atm, (z_rg_fr (z_rg_fr hAjw fI10 (by decide)) fI22 (by decide)), hI22Nd, hI22Asf, hI22Ast, hI22Asc, hI22Ex, f23⟩
theorem zj_X12_ask_X12 : ∀ w ∈ wsX120, w ∈ wsX12_ask := fun w h => (List.mem_cons_of_mem _ (List.mem_append_right _ h))
noncomputable def L_X12_appeal : z_L := [(62, 999), (66, 999), (24, 999), (30, 999)]
theorem zj_X12_appeal_X12 : ∀ w ∈ wsX120, w ∈ wsX12_appeal := fun w h => (List.mem_cons_of_mem _ (List.mem_append_right _ h))
set_option maxHeartbeats 8000000 in
set_option maxRecDepth 100000 in
theorem sx_X12_appeal (l : Launch) (G : z_G) (ad : Nat → Nat) (I : z_I) (J : z_J) (hma : z_ima I) (hmb : z_imb I) (hmj : z_imj I) (hAtf : z_rg 11 0 288 I) (hAtm : z_rg 12 0 24 I) (hAjw : z_rg 59 0 29 I) (hNd : z_Nd I) (hAsf : z_rg 19 0 6200 I) (hAst : z_rg 20 0 6200 I) (hAsc : z_rg 18 (-1) 6199 I) (hEx : z_Ex I) (a1 : Int32) (a2 : Int32) : z_M l yX12_appeal wsX12_appeal { frames := 6, cells := 0, slots := 0, locals := 130 } [.ref (ad 0), .int a1, .int a2] G (shM, ad, I, J, PM ad) (fun r u1 => ∃ (I1 : z_I) (J1 : z_J), u1 = (shM, ad, I1, J1, PM ad) ∧ z_ima I1 ∧ z_imb I1 ∧ z_imj I1 ∧ z_rg 11 0 288 I1 ∧ z_rg 12 0 24 I1 ∧ z_rg 59 0 29 I1 ∧ z_Nd I1 ∧ z_rg 19 0 6200 I1 ∧ z_rg 20 0 6200 I1 ∧ z_rg 18 (-1) 6199 I1 ∧ z_Ex I1 ∧ z_fr L_X12_appeal I1 I) 0 0 := by
  intro sz
  refine z_headQ (cc := cX12_appeal) (maxL := 3) (ret := (some .int)) (by decide) rfl (Nat.le_of_ble_eq_true rfl) ?_
  intro p e s m below meth c0 ls hIn hK hsz hW hl
  obtain ⟨hx, hb, hr, hml, hown, hts, hlocks, hname⟩ := hIn
  subst hsz
  have hown : s.vm.findClass RX12 = some m.cls := hown
  have hA : ∀ q : Nat, s.heap.size ≤ q → z_A (shM, ad, I, J, PM ad) s.heap.size q := fun q h => Or.inr h
  generalize hAe : z_A (shM, ad, I, J, PM ad) s.heap.size = A at *
  have hS : va_S A s.heap s.heap [] := va_S.rf
  have hl : lv_has ls 3 [(0, .ref (ad 0)), (1, .int a1), (2, .int a2)] := hl
  refine lv_iload_n hx hb dX12_appeal_0 rfl (lv_at hl 1 rfl) ?_
  refine lv_if_lt (tgt := 21) hx hb dX12_appeal_1 (by decide) (fun c1 => ?_) (fun c1 => ?_)
  · have g2 := z_f_lt rfl z_l0 c1
    have b3 := Int32.toInt_lt a1
    refine lv_iconst (v := (-1)) hx hb dX12_appeal_21 (by decide) ?_
    exact z_iret hx hb hr hK hS (Nat.le_of_ble_eq_true rfl) (Nat.le_of_ble_eq_true rfl) hlocks dX12_appeal_22 (shM, ad, I, J, PM ad) hW ⟨I, J, rfl, ⟨(by show 0 ≤ (I 0 0).toInt ∧ (I 0 0).toInt ≤ 719; exact hma.1), (by show 0 ≤ (I 0 1).toInt ∧ (I 0 1).toInt ≤ 30; exact hma.2.1), (by show 0 ≤ (I 0 2).toInt ∧ (I 0 2).toInt ≤ 200; exact hma.2.2)⟩, ⟨(by show 0 ≤ (I 0 13).toInt ∧ (I 0 13).toInt ≤ 12; exact hmb.1), (by show 0 ≤ (I 0 14).toInt ∧ (I 0 14).toInt ≤ 288; exact hmb.2)⟩, (by show 0 ≤ (I 0 83).toInt ∧ (I 0 83).toInt ≤ 60; exact hmj), hAtf, hAtm, hAjw, hNd, hAsf, hAst, hAsc, hEx, z_fr_0⟩
  · have g4 := z_f_nlt rfl z_l0 c1
    have b5 := Int32.toInt_lt a1
    refine lv_iload_n hx hb dX12_appeal_4 rfl (lv_at hl 1 rfl) ?_
    refine lv_aload_n hx hb dX12_appeal_5 rfl (lv_at hl 0 rfl) ?_
    have r6 : 0 ≤ (I 0 83).toInt ∧ (I 0 83).toInt ≤ 60 := hmj
    refine z_get (T := TX12) (N := 96) (ci := 12) (i := 0) (v := .int (I 0 83)) hx hb hts zj_X12_appeal_X12 hown hK hW rfl rfl 83 (by decide) (hts (.fieldLink RX12 505 "PetrolBoardModel" "journeys" "I") (me_s (me_l (me_l (List.mem_of_getElem? (i := 0) rfl))))) (fun _ h => h) rfl dX12_appeal_6 ?_
    refine lv_icmp_ge (tgt := 21) hx hb dX12_appeal_9 (by decide) (fun c7 => ?_) (fun c7 => ?_)
    · have g8 := z_f_ge rfl rfl c7
      refine lv_iconst (v := (-1)) hx hb dX12_appeal_21 (by decide) ?_
      exact z_iret hx hb hr hK hS (Nat.le_of_ble_eq_true rfl) (Nat.le_of_ble_eq_true rfl) hlocks dX12_appeal_22 (shM, ad, I, J, PM ad) hW ⟨I, J, rfl, ⟨(by show 0 ≤ (I 0 0).toInt ∧ (I 0 0).toInt ≤ 719; exact hma.1), (by show 0 ≤ (I 0 1).toInt ∧ (I 0 1).toInt ≤ 30; exact hma.2.1), (by show 0 ≤ (I 0 2).toInt ∧ (I 0 2).toInt ≤ 200; exact hma.2.2)⟩, ⟨(by show 0 ≤ (I 0 13).toInt ∧ (I 0 13).toInt ≤ 12; exact hmb.1), (by show 0 ≤ (I 0 14).toInt ∧ (I 0 14).toInt ≤ 288; exact hmb.2)⟩, (by show 0 ≤ (I 0 83).toInt ∧ (I 0 83).toInt ≤ 60; exact hmj), hAtf, hAtm, hAjw, hNd, hAsf, hAst, hAsc, hEx, z_fr_0⟩
    · have g9 := z_f_nge rfl rfl c7
      refine lv_iload_n hx hb dX12_appeal_12 rfl (lv_at hl 2 rfl) ?_
      refine lv_iconst (v := 0) hx hb dX12_appeal_13 (by decide) ?_
      refine lv_iconst (v := 4) hx hb dX12_appeal_14 (by decide) ?_
      refine z_ci hW hS hA (va_runS (As := [.int a2, .int 0, .int 4]) (rest := []) ⟨hx, hb, hml, hown, hts⟩ (sx_X12_within l G ad I J  a2 0 4 _) (va_cwS 3 hts gX12_appeal_X12_within rfl rfl rfl hy_X12_within.2 ⟨Nat.le_of_ble_eq_true rfl, Nat.le_of_ble_eq_true rfl⟩) (z_preS hK hW) rfl rfl hl.1 rfl (lv_room (Nat.le_of_ble_eq_true rfl)) dX12_appeal_15 ⟨Nat.le_of_ble_eq_true rfl, Nat.le_of_ble_eq_true rfl⟩) (fun r u1 H locs hp hW hS => ?_)
      obtain ⟨e9, hp⟩ := hp
      rw [e9] at hW
      rcases hp with ⟨rfl, h11, h12⟩ | rfl
      · have h11 := z_t_le z_l0 rfl h11
        have h12 := z_t_le rfl z_l4 h12
        refine lv_if_ne (tgt := 23) hx hb dX12_appeal_18 (by decide) (fun c13 => ?_) (fun c13 => absurd c13 (by decide))
        refine lv_aload_n hx hb dX12_appeal_23 rfl (lv_at hl 0 rfl) ?_
        refine z_get (T := TX12) (N := 96) (ci := 12) (i := 0) (v := .ref (ad 62)) hx hb hts zj_X12_appeal_X12 hown hK hW rfl rfl 87 (by decide) (hts (.fieldLink RX12 202 "PetrolBoardModel" "jReason" "[I") (me_s (me_l (me_l (List.mem_of_getElem? (i := 1) rfl))))) (fun _ h => h) rfl dX12_appeal_24 ?_
        refine lv_iload_n hx hb dX12_appeal_27 rfl (lv_at hl 1 rfl) ?_
        refine lv_iload_n hx hb dX12_appeal_28 rfl (lv_at hl 2 rfl) ?_
        refine z_iast (i := 62) hx hb hK hW hS rfl (z_ix rfl (by omega) (by omega)) dX12_appeal_29 (fun H locs hz1 hW hS => ?_)
        obtain ⟨I14, eI14⟩ : ∃ K : z_I, K = z_up I 62 a1.toNatClampNeg a2 := ⟨_, rfl⟩
        rw [← eI14] at hW
        have f15 := z_fr_a z_fr_0 (show z_wa L_X12_appeal 62 = true by decide) eI14
        have a16 := z_rg_n hAtf (by decide) eI14
        have a17 := z_rg_n hAtm (by decide) eI14
        have a18 := z_rg_n hAjw (by decide) eI14
        have a19 := z_Nd_n hNd (by decide) eI14
        have a20 := z_rg_n hAsf (by decide) eI14
        have a21 := z_rg_n hAst (by decide) eI14
        have a22 := z_rg_n hAsc (by decide) eI14
        have a23 := z_Ex_n hEx (by decide) eI14
        refine lv_aload_n hx hb dX12_appeal_30 rfl (lv_at hl 0 rfl) ?_
        refine z_get (T := TX12) (N := 96) (ci := 12) (i := 0) (v := .ref (ad 66)) hx hb hts zj_X12_appeal_X12 hown hK hW rfl rfl 91 (by decide) (hts (.fieldLink RX12 214 "PetrolBoardModel" "jGranted" "[I") (me_s (me_l (me_l (List.mem_of_getElem? (i := 2) rfl))))) (fun _ h => h) rfl dX12_appeal_31 ?_
        refine lv_iload_n hx hb dX12_appeal_34 rfl (lv_at hl 1 rfl) ?_
        refine lv_aload_n hx hb dX12_appeal_35 rfl (lv_at hl 0 rfl) ?_
        refine lv_iload_n hx hb dX12_appeal_36 rfl (lv_at hl 1 rfl) ?_
        refine z_ci hW hS hA (va_runV (As := [.int a1]) (rest := [.int a1, .ref (ad 66)]) ⟨hx, hb, hml, hown, hts⟩ (sx_X12_granted l G ad I14 J ⟨(by show 0 ≤ (I14 0 0).toInt ∧ (I14 0 0).toInt ≤ 719; rw [eI14, z_up_n (by decide)]; exact hma.1), (by show 0 ≤ (I14 0 1).toInt ∧ (I14 0 1).toInt ≤ 30; rw [eI14, z_up_n (by decide)]; exact hma.2.1), (by show 0 ≤ (I14 0 2).toInt ∧ (I14 0 2).toInt ≤ 200; rw [eI14, z_up_n (by decide)]; exact hma.2.2)⟩ ⟨(by show 0 ≤ (I14 0 13).toInt ∧ (I14 0 13).toInt ≤ 12; rw [eI14, z_up_n (by decide)]; exact hmb.1), (by show 0 ≤ (I14 0 14).toInt ∧ (I14 0 14).toInt ≤ 288; rw [eI14, z_up_n (by decide)]; exact hmb.2)⟩ (by show 0 ≤ (I14 0 83).toInt ∧ (I14 0 83).toInt ≤ 60; rw [eI14, z_up_n (by decide)]; exact hmj) a16 a17 a18 a19 a20 a21 a22 a23 a1 (by first | omega | decide) _) (cwV 1 hts gX12_appeal_X12_granted rfl rfl rfl hy_X12_granted ⟨Nat.le_of_ble_eq_true rfl, Nat.le_of_ble_eq_true rfl⟩) (z_preV (i := 0) hK hW rfl rfl) rfl rfl hl.1 rfl (lv_room (Nat.le_of_ble_eq_true rfl)) dX12_appeal_37 ⟨Nat.le_of_ble_eq_true rfl, Nat.le_of_ble_eq_true rfl⟩) (fun r u1 H locs hp hW hS => ?_)
        obtain ⟨I24, J26, e9, hI24ma, hI24mb, hI24mj, hI24Atf, hI24Atm, hI24Ajw, hI24Nd, hI24Asf, hI24Ast, hI24Asc, hI24Ex, fI24⟩ := hp
        rw [e9] at hW
        have f25 := z_fr_sub (L := L_X12_appeal) f15 fI24 (by decide)
        have k27 : (I24 0 83).toInt = (I 0 83).toInt := by rw [fI24 0 83 (by decide), eI14, z_up_n (by decide)]
        refine lv_topi (fun x28 ex28 => ?_)
        refine z_iast (i := 66) hx hb hK hW hS rfl (z_ix rfl (by omega) (by omega)) dX12_appeal_40 (fun H locs hz1 hW hS => ?_)
        obtain ⟨I29, eI29⟩ : ∃ K : z_I, K = z_up I24 66 a1.toNatClampNeg x28 := ⟨_, rfl⟩
        rw [← eI29] at hW
        have f30 := z_fr_a f25 (show z_wa L_X12_appeal 66 = true by decide) eI29
        have a31 := z_rg_n hI24Atf (by decide) eI29
        have a32 := z_rg_n hI24Atm (by decide) eI29
        have a33 := z_rg_n hI24Ajw (by decide) eI29
        have a34 := z_Nd_n hI24Nd (by decide) eI29
        have a35 := z_rg_n hI24Asf (by decide) eI29
        have a36 := z_rg_n hI24Ast (by decide) eI29
        have a37 := z_rg_n hI24Asc (by decide) eI29
        have a38 := z_Ex_n hI24Ex (by decide) eI29
        refine lv_aload_n hx hb dX12_appeal_41 rfl (lv_at hl 0 rfl) ?_
        refine z_get (T := TX12) (N := 96) (ci := 12) (i := 0) (v := .ref (ad 66)) hx hb hts zj_X12_appeal_X12 hown hK hW rfl rfl 91 (by decide) (hts (.fieldLink RX12 214 "PetrolBoardModel" "jGranted" "[I") (me_s (me_l (me_l (List.mem_of_getElem? (i := 2) rfl))))) (fun _ h => h) rfl dX12_appeal_42 ?_
        refine lv_iload_n hx hb dX12_appeal_45 rfl (lv_at hl 1 rfl) ?_
        refine z_iald (i := 66) hx hb hK hW rfl (z_ix rfl (by omega) (by omega)) dX12_appeal_46 ?_
        refine lv_topi (fun x39 ex39 => ?_)
        exact z_iret hx hb hr hK hS (Nat.le_of_ble_eq_true rfl) (Nat.le_of_ble_eq_true rfl) hlocks dX12_appeal_47 (shM, ad, I29, J26, PM ad) hW ⟨I29, J26, rfl, ⟨(by show 0 ≤ (I29 0 0).toInt ∧ (I29 0 0).toInt ≤ 719; rw [eI29, z_up_n (by decide)]; exact hI24ma.1), (by show 0 ≤ (I29 0 1).toInt ∧ (I29 0 1).toInt ≤ 30; rw [eI29, z_up_n (by decide)]; exact hI24ma.2.1), (by show 0 ≤ (I29 0 2).toInt ∧ (I29 0 2).toInt ≤ 200; rw [eI29, z_up_n (by decide)]; exact hI24ma.2.2)⟩, ⟨(by show 0 ≤ (I29 0 13).toInt ∧ (I29 0 13).toInt ≤ 12; rw [eI29, z_up_n (by decide)]; exact hI24mb.1), (by show 0 ≤ (I29 0 14).toInt ∧ (I29 0 14).toInt ≤ 288; rw [eI29, z_up_n (by decide)]; exact hI24mb.2)⟩, (by show 0 ≤ (I29 0 83).toInt ∧ (I29 0 83).toInt ≤ 60; rw [eI29, z_up_n (by decide)]; exact hI24mj), a31, a32, a33, a34, a35, a36, a37, a38, f30⟩
      · refine lv_if_ne (tgt := 23) hx hb dX12_appeal_18 (by decide) (fun c40 => absurd (by decide) c40) (fun c40 => ?_)
        refine lv_iconst (v := (-1)) hx hb dX12_appeal_21 (by decide) ?_
        exact z_iret hx hb hr hK hS (Nat.le_of_ble_eq_true rfl) (Nat.le_of_ble_eq_true rfl) hlocks dX12_appeal_22 (shM, ad, I, J, PM ad) hW ⟨I, J, rfl, ⟨(by show 0 ≤ (I 0 0).toInt ∧ (I 0 0).toInt ≤ 719; exact hma.1), (by show 0 ≤ (I 0 1).toInt ∧ (I 0 1).toInt ≤ 30; exact hma.2.1), (by show 0 ≤ (I 0 2).toInt ∧ (I 0 2).toInt ≤ 200; exact hma.2.2)⟩, ⟨(by show 0 ≤ (I 0 13).toInt ∧ (I 0 13).toInt ≤ 12; exact hmb.1), (by show 0 ≤ (I 0 14).toInt ∧ (I 0 14).toInt ≤ 288; exact hmb.2)⟩, (by show 0 ≤ (I 0 83).toInt ∧ (I 0 83).toInt ≤ 60; exact hmj), hAtf, hAtm, hAjw, hNd, hAsf, hAst, hAsc, hEx, z_fr_0⟩
noncomputable def L_X12_foretold : z_L := [(24, 999), (30, 999)]
theorem zj_X12_foretold_X12 : ∀ w ∈ wsX120, w ∈ wsX12_foretold := fun w h => (List.mem_cons_of_mem _ (List.mem_append_right _ h))
set_option maxHeartbeats 8000000 in
set_option maxRecDepth 100000 in
theorem sx_X12_foretold (l : Launch) (G : z_G) (ad : Nat → Nat) (I : z_I) (J : z_J) (hma : z_ima I) (hmb : z_imb I) (hmr : z_imr I) (hAtf : z_rg 11 0 288 I) (hAtm : z_rg 12 0 24 I) (hNd : z_Nd I) (hAsf : z_rg 19 0 6200 I) (hAst : z_rg 20 0 6200 I) (hAsc : z_rg 18 (-1) 6199 I) (hEx : z_Ex I) (a1 : Int32) (a2 : Int32) : z_M l yX12_foretold wsX12_foretold { frames := 6, cells := 0, slots := 0, locals := 133 } [.ref (ad 0), .int a1, .int a2] G (shM, ad, I, J, PM ad) (fun r u1 => ∃ (I1 : z_I) (J1 : z_J), u1 = (shM, ad, I1, J1, PM ad) ∧ z_ima I1 ∧ z_imb I1 ∧ z_imr I1 ∧ z_rg 11 0 288 I1 ∧ z_rg 12 0 24 I1 ∧ z_Nd I1 ∧ z_rg 19 0 6200 I1 ∧ z_rg 20 0 6200 I1 ∧ z_rg 18 (-1) 6199 I1 ∧ z_Ex I1 ∧ z_fr L_X12_foretold I1 I) 0 0 := by
  intro sz
  refine z_headQ (cc := cX12_foretold) (maxL := 9) (ret := (some .int)) (by decide) rfl (Nat.le_of_ble_eq_true rfl) ?_
  intro p e s m below meth c0 ls hIn hK hsz hW hl
  obtain ⟨hx, hb, hr, hml, hown, hts, hlocks, hname⟩ := hIn
  subst hsz
  have hown : s.vm.findClass RX12 = some m.cls := hown
  have hA : ∀ q : Nat, s.heap.size ≤ q → z_A (shM, ad, I, J, PM ad) s.heap.size q := fun q h => Or.inr h
  generalize hAe : z_A (shM, ad, I, J, PM ad) s.heap.size = A at *
  have hS : va_S A s.heap s.heap [] := va_S.rf
  have hl : lv_has ls 9 [(0, .ref (ad 0)), (1, .int a1), (2, .int a2)] := hl
  refine lv_aload_n hx hb dX12_foretold_0 rfl (lv_at hl 0 rfl) ?_
  have r1 : 0 ≤ (I 0 0).toInt ∧ (I 0 0).toInt ≤ 719 := hma.1
  refine z_get (T := TX12) (N := 96) (ci := 12) (i := 0) (v := .int (I 0 0)) hx hb hts zj_X12_foretold_X12 hown hK hW rfl rfl 0 (by decide) (hts (.fieldLink RX12 232 "PetrolBoardModel" "today" "I") (me_s (me_l (me_l (List.mem_of_getElem? (i := 0) rfl))))) (fun _ h => h) rfl dX12_foretold_1 ?_
  refine lv_bipush (v := 30) hx hb dX12_foretold_4 (by decide) ?_
  refine lv_idiv hx hb dX12_foretold_6 (by decide) ?_
  refine lv_topi (fun x2 ex2 => ?_)
  have tx2 := z_tdiv ex2 rfl z_l30 (by decide)
  refine lv_istore_n (lv' := [(3, .int x2), (0, .ref (ad 0)), (1, .int a1), (2, .int a2)]) hx hb dX12_foretold_7 rfl hl (by decide) rfl (fun ls hl => ?_)
  refine lv_iload_n hx hb dX12_foretold_8 rfl (lv_at hl 2 rfl) ?_
  refine lv_iconst (v := 1) hx hb dX12_foretold_9 (by decide) ?_
  refine lv_bipush (v := 12) hx hb dX12_foretold_10 (by decide) ?_
  refine z_ci hW hS hA (va_runS (As := [.int a1, .int 1, .int 12]) (rest := []) ⟨hx, hb, hml, hown, hts⟩ (sx_X12_within l G ad I J  a1 1 12 _) (va_cwS 3 hts gX12_foretold_X12_within rfl rfl rfl hy_X12_within.2 ⟨Nat.le_of_ble_eq_true rfl, Nat.le_of_ble_eq_true rfl⟩) (z_preS hK hW) rfl rfl hl.1 rfl (lv_room (Nat.le_of_ble_eq_true rfl)) dX12_foretold_12 ⟨Nat.le_of_ble_eq_true rfl, Nat.le_of_ble_eq_true rfl⟩) (fun r u1 H locs hp hW hS => ?_)
  obtain ⟨e9, hp⟩ := hp
  rw [e9] at hW
  rcases hp with ⟨rfl, h3, h4⟩ | rfl
  · have h3 := z_t_le z_l1 rfl h3
    have h4 := z_t_le rfl z_l12 h4
    refine lv_if_eq (tgt := 28) hx hb dX12_foretold_15 (by decide) (fun c5 => absurd c5 (by decide)) (fun c5 => ?_)
    refine lv_iload_n hx hb dX12_foretold_18 rfl (lv_at hl 0 rfl) ?_
    refine lv_iload_n hx hb dX12_foretold_19 rfl (lv_at hl 2 rfl) ?_
    refine lv_iadd hx hb dX12_foretold_20 ?_
    refine lv_topi (fun x6 ex6 => ?_)
    have tx6 : x6.toInt = x2.toInt + a1.toInt := z_tadd ex6 rfl rfl (by omega) (by omega)
    refine lv_iconst (v := 1) hx hb dX12_foretold_21 (by decide) ?_
    refine lv_isub hx hb dX12_foretold_22 ?_
    refine lv_topi (fun x7 ex7 => ?_)
    have tx7 : x7.toInt = x6.toInt - 1 := z_tsub ex7 rfl z_l1 (by omega) (by omega)
    refine lv_bipush (v := 23) hx hb dX12_foretold_23 (by decide) ?_
    refine lv_icmp_le (tgt := 32) hx hb dX12_foretold_25 (by decide) (fun c8 => ?_) (fun c8 => ?_)
    · have g9 := z_f_le rfl z_l23 c8
      refine lv_lconst (v := 0) hx hb dX12_foretold_32 (by decide) ?_
      refine lv_lstore (lv' := [(4, .long 0), (3, .int x2), (0, .ref (ad 0)), (1, .int a1), (2, .int a2)]) hx hb dX12_foretold_33 hl (by decide) rfl (fun ls hl => ?_)
      refine lv_iload_n hx hb dX12_foretold_35 rfl (lv_at hl 1 rfl) ?_
      refine lv_istore (lv' := [(6, .int x2), (4, .long 0), (3, .int x2), (0, .ref (ad 0)), (1, .int a1), (2, .int a2)]) hx hb dX12_foretold_36 hl (by decide) rfl (fun ls hl => ?_)
      have lp10 : ∀ (f : Nat) (y11 : Int32) (w12 : Int64) (I13 : z_I) (J14 : z_J) (H : Heap) (locs : List Loc) (ls : Array Slot), (2147483647 < y11.toInt + (f : Int)) → (0 ≤ y11.toInt) → (z_ima I13) → (z_imb I13) → (z_imr I13) → (z_rg 11 0 288 I13) → (z_rg 12 0 24 I13) → (z_Nd I13) → (z_rg 19 0 6200 I13) → (z_rg 20 0 6200 I13) → (z_rg 18 (-1) 6199 I13) → (z_Ex I13) → (x2.toInt ≤ y11.toInt) → (z_fr L_X12_foretold I13 I) → z_W G A (shM, ad, I13, J14, PM ad) H → va_S A s.heap H locs → lv_has ls 9 [(6, .int y11), (4, .long w12), (3, .int x2), (0, .ref (ad 0)), (1, .int a1), (2, .int a2)] → W p l e (headSpec wsX12_foretold { frames := 6, cells := 0, slots := 0, locals := 133 }).room s m ([.ref (ad 0), .int a1, .int a2] : List Value).toArray below meth c0 H locs 0 0 (MQ below (va_Qi (fun (r : Int32) (u1 : z_U) => ∃ (I1 : z_I) (J1 : z_J), u1 = (shM, ad, I1, J1, PM ad) ∧ z_ima I1 ∧ z_imb I1 ∧ z_imr I1 ∧ z_rg 11 0 288 I1 ∧ z_rg 12 0 24 I1 ∧ z_Nd I1 ∧ z_rg 19 0 6200 I1 ∧ z_rg 20 0 6200 I1 ∧ z_rg 18 (-1) 6199 I1 ∧ z_Ex I1 ∧ z_fr L_X12_foretold I1 I) (z_B G A) A) ([.ref (ad 0), .int a1, .int a2] : List Value).toArray s 0 0 A) (F0 m 38 ls []) := by
        intro f
        induction f with
        | zero => intro y11 w12 I13 J14 H locs ls lp10m lp10l6 lp10ma lp10mb lp10mr lp10Atf lp10Atm lp10Nd lp10Asf lp10Ast lp10Asc lp10Ex lp10z lp10fr hW hS hl; exact absurd lp10m (by have := Int32.toInt_lt y11; have := Int32.le_toInt y11; omega)
        | succ f lp10ih =>
          intro y11 w12 I13 J14 H locs ls lp10m lp10l6 lp10ma lp10mb lp10mr lp10Atf lp10Atm lp10Nd lp10Asf lp10Ast lp10Asc lp10Ex lp10z lp10fr hW hS hl
          refine lv_iload hx hb dX12_foretold_38 (lv_at hl 0 rfl) ?_
          refine lv_iload_n hx hb dX12_foretold_40 rfl (lv_at hl 2 rfl) ?_
          refine lv_iload_n hx hb dX12_foretold_41 rfl (lv_at hl 4 rfl) ?_
          refine lv_iadd hx hb dX12_foretold_42 ?_
          refine lv_topi (fun x15 ex15 => ?_)
          have tx15 : x15.toInt = x2.toInt + a1.toInt := z_tadd ex15 rfl rfl (by omega) (by omega)
          refine lv_icmp_ge (tgt := 126) hx hb dX12_foretold_43 (by decide) (fun c16 => ?_) (fun c16 => ?_)
          · have g17 := z_f_ge rfl rfl c16
            have b18 := Int32.toInt_lt y11
            refine lv_iconst (v := 0) hx hb dX12_foretold_126 (by decide) ?_
            refine lv_istore (lv' := [(6, .int 0), (4, .long w12), (3, .int x2), (0, .ref (ad 0)), (1, .int a1), (2, .int a2)]) hx hb dX12_foretold_127 hl (by decide) rfl (fun ls hl => ?_)
            refine lv_iconst (v := 0) hx hb dX12_foretold_129 (by decide) ?_
            refine lv_istore (lv' := [(7, .int 0), (6, .int 0), (4, .long w12), (3, .int x2), (0, .ref (ad 0)), (1, .int a1), (2, .int a2)]) hx hb dX12_foretold_130 hl (by decide) rfl (fun ls hl => ?_)
            have lp19 : ∀ (f : Nat) (y20 : Int32) (y21 : Int32) (H : Heap) (locs : List Loc) (ls : Array Slot), (2147483647 < y20.toInt + (f : Int)) → (0 ≤ y20.toInt) → z_W G A (shM, ad, I13, J14, PM ad) H → va_S A s.heap H locs → lv_has ls 9 [(7, .int y20), (6, .int y21), (4, .long w12), (3, .int x2), (0, .ref (ad 0)), (1, .int a1), (2, .int a2)] → W p l e (headSpec wsX12_foretold { frames := 6, cells := 0, slots := 0, locals := 133 }).room s m ([.ref (ad 0), .int a1, .int a2] : List Value).toArray below meth c0 H locs 0 0 (MQ below (va_Qi (fun (r : Int32) (u1 : z_U) => ∃ (I1 : z_I) (J1 : z_J), u1 = (shM, ad, I1, J1, PM ad) ∧ z_ima I1 ∧ z_imb I1 ∧ z_imr I1 ∧ z_rg 11 0 288 I1 ∧ z_rg 12 0 24 I1 ∧ z_Nd I1 ∧ z_rg 19 0 6200 I1 ∧ z_rg 20 0 6200 I1 ∧ z_rg 18 (-1) 6199 I1 ∧ z_Ex I1 ∧ z_fr L_X12_foretold I1 I) (z_B G A) A) ([.ref (ad 0), .int a1, .int a2] : List Value).toArray s 0 0 A) (F0 m 132 ls []) := by
              intro f
              induction f with
              | zero => intro y20 y21 H locs ls lp19m lp19l7 hW hS hl; exact absurd lp19m (by have := Int32.toInt_lt y20; have := Int32.le_toInt y20; omega)
              | succ f lp19ih =>
                intro y20 y21 H locs ls lp19m lp19l7 hW hS hl
                refine lv_iload hx hb dX12_foretold_132 (lv_at hl 0 rfl) ?_
                refine lv_aload_n hx hb dX12_foretold_134 rfl (lv_at hl 4 rfl) ?_
                have r22 : 0 ≤ (I13 0 75).toInt ∧ (I13 0 75).toInt ≤ 4 := lp10mr
                refine z_get (T := TX12) (N := 96) (ci := 12) (i := 0) (v := .int (I13 0 75)) hx hb hts zj_X12_foretold_X12 hown hK hW rfl rfl 75 (by decide) (hts (.fieldLink RX12 493 "PetrolBoardModel" "ports" "I") (me_s (me_l (me_l (List.mem_of_getElem? (i := 3) rfl))))) (fun _ h => h) rfl dX12_foretold_135 ?_
                refine lv_icmp_ge (tgt := 159) hx hb dX12_foretold_138 (by decide) (fun c23 => ?_) (fun c23 => ?_)
                · have g24 := z_f_ge rfl rfl c23
                  have b25 := Int32.toInt_lt y20
                  refine lv_ldc2 (v := 100) hx hb hown (hts (.constantLong RX12 525 (100)) (me_s (me_l (me_l (List.mem_of_getElem? (i := 5) rfl))))) dX12_foretold_159 ?_
                  refine lv_iload hx hb dX12_foretold_162 (lv_at hl 1 rfl) ?_
                  refine lv_i2l (v := y21.toInt64) hx hb dX12_foretold_164 rfl ?_
                  refine lv_topl (fun w26 ew26 => ?_)
                  refine lv_lmul hx hb dX12_foretold_165 ?_
                  refine lv_topl (fun w27 ew27 => ?_)
                  refine lv_lload hx hb dX12_foretold_166 (lv_at hl 2 rfl) ?_
                  refine lv_ldc2 (v := 9) hx hb hown (hts (.constantLong RX12 527 (9)) (me_s (me_l (me_l (List.mem_of_getElem? (i := 6) rfl))))) dX12_foretold_168 ?_
                  refine lv_ladd hx hb dX12_foretold_171 ?_
                  refine lv_topl (fun w28 ew28 => ?_)
                  refine lv_ldc2 (v := 10) hx hb hown (hts (.constantLong RX12 529 (10)) (me_s (me_l (me_l (List.mem_of_getElem? (i := 7) rfl))))) dX12_foretold_172 ?_
                  refine lv_ldiv hx hb dX12_foretold_175 (by decide) ?_
                  refine lv_topl (fun w29 ew29 => ?_)
                  refine lv_lsub hx hb dX12_foretold_176 ?_
                  refine lv_topl (fun w30 ew30 => ?_)
                  refine lv_lstore (lv' := [(7, .long w30), (6, .int y21), (4, .long w12), (3, .int x2), (0, .ref (ad 0)), (1, .int a1), (2, .int a2)]) hx hb dX12_foretold_177 hl (by decide) rfl (fun ls hl => ?_)
                  refine lv_lload hx hb dX12_foretold_179 (lv_at hl 0 rfl) ?_
                  refine lv_ldc2 (v := (-1999999999)) hx hb hown (hts (.constantLong RX12 531 (-1999999999)) (me_s (me_l (me_l (List.mem_of_getElem? (i := 8) rfl))))) dX12_foretold_181 ?_
                  refine W.lcmp hx hb dX12_foretold_184 ?_
                  refine lv_topi (fun x31 ex31 => ?_)
                  have tx31 := z_tcmp ex31
                  refine lv_if_ge (tgt := 194) hx hb dX12_foretold_185 (by decide) (fun c32 => ?_) (fun c32 => ?_)
                  · have g33 := z_f_ge rfl z_l0 c32
                    refine lv_lload hx hb dX12_foretold_194 (lv_at hl 0 rfl) ?_
                    refine lv_l2i (v := w30.toInt32) hx hb dX12_foretold_196 rfl ?_
                    refine lv_topi (fun x34 ex34 => ?_)
                    exact z_iret hx hb hr hK hS (Nat.le_of_ble_eq_true rfl) (Nat.le_of_ble_eq_true rfl) hlocks dX12_foretold_197 (shM, ad, I13, J14, PM ad) hW ⟨I13, J14, rfl, ⟨(by show 0 ≤ (I13 0 0).toInt ∧ (I13 0 0).toInt ≤ 719; exact lp10ma.1), (by show 0 ≤ (I13 0 1).toInt ∧ (I13 0 1).toInt ≤ 30; exact lp10ma.2.1), (by show 0 ≤ (I13 0 2).toInt ∧ (I13 0 2).toInt ≤ 200; exact lp10ma.2.2)⟩, ⟨(by show 0 ≤ (I13 0 13).toInt ∧ (I13 0 13).toInt ≤ 12; exact lp10mb.1), (by show 0 ≤ (I13 0 14).toInt ∧ (I13 0 14).toInt ≤ 288; exact lp10mb.2)⟩, (by show 0 ≤ (I13 0 75).toInt ∧ (I13 0 75).toInt ≤ 4; exact lp10mr), lp10Atf, lp10Atm, lp10Nd, lp10Asf, lp10Ast, lp10Asc, lp10Ex, lp10fr⟩
                  · have g35 := z_f_nge rfl z_l0 c32
                    refine lv_ldcw (v := (-1999999999)) hx hb hown (hts (.constant RX12 533 (-1999999999)) (me_s (me_l (me_l (List.mem_of_getElem? (i := 9) rfl))))) dX12_foretold_188 ?_
                    refine lv_goto (tgt := 197) hx hb dX12_foretold_191 (by decide) ?_
                    exact z_iret hx hb hr hK hS (Nat.le_of_ble_eq_true rfl) (Nat.le_of_ble_eq_true rfl) hlocks dX12_foretold_197 (shM, ad, I13, J14, PM ad) hW ⟨I13, J14, rfl, ⟨(by show 0 ≤ (I13 0 0).toInt ∧ (I13 0 0).toInt ≤ 719; exact lp10ma.1), (by show 0 ≤ (I13 0 1).toInt ∧ (I13 0 1).toInt ≤ 30; exact lp10ma.2.1), (by show 0 ≤ (I13 0 2).toInt ∧ (I13 0 2).toInt ≤ 200; exact lp10ma.2.2)⟩, ⟨(by show 0 ≤ (I13 0 13).toInt ∧ (I13 0 13).toInt ≤ 12; exact lp10mb.1), (by show 0 ≤ (I13 0 14).toInt ∧ (I13 0 14).toInt ≤ 288; exact lp10mb.2)⟩, (by show 0 ≤ (I13 0 75).toInt ∧ (I13 0 75).toInt ≤ 4; exact lp10mr), lp10Atf, lp10Atm, lp10Nd, lp10Asf, lp10Ast, lp10Asc, lp10Ex, lp10fr⟩
                · have g36 := z_f_nge rfl rfl c23
                  have b37 := Int32.toInt_lt y20
                  refine lv_iload hx hb dX12_foretold_141 (lv_at hl 1 rfl) ?_
                  refine lv_aload_n hx hb dX12_foretold_143 rfl (lv_at hl 4 rfl) ?_
                  refine z_get (T := TX12) (N := 96) (ci := 12) (i := 0) (v := .ref (ad 52)) hx hb hts zj_X12_foretold_X12 hown hK hW rfl rfl 76 (by decide) (hts (.fieldLink RX12 172 "PetrolBoardModel" "loadsOf" "[I") (me_s (me_l (me_l (List.mem_of_getElem? (i := 4) rfl))))) (fun _ h => h) rfl dX12_foretold_144 ?_
                  refine lv_iload hx hb dX12_foretold_147 (lv_at hl 0 rfl) ?_
                  refine z_iald (i := 52) hx hb hK hW rfl (z_ix rfl (by omega) (by omega)) dX12_foretold_149 ?_
                  refine lv_topi (fun x38 ex38 => ?_)
                  refine lv_iadd hx hb dX12_foretold_150 ?_
                  refine lv_topi (fun x39 ex39 => ?_)
                  refine lv_istore (lv' := [(6, .int x39), (7, .int y20), (4, .long w12), (3, .int x2), (0, .ref (ad 0)), (1, .int a1), (2, .int a2)]) hx hb dX12_foretold_151 hl (by decide) rfl (fun ls hl => ?_)
                  obtain ⟨x40, ex40⟩ : ∃ y : Int32, y = y20 + 1 := ⟨_, rfl⟩
                  have tx40 : x40.toInt = y20.toInt + 1 := z_tadd ex40 rfl z_l1 (by omega) (by omega)
                  refine lv_iinc (v := x40) (lv' := [(7, .int x40), (6, .int x39), (4, .long w12), (3, .int x2), (0, .ref (ad 0)), (1, .int a1), (2, .int a2)]) hx hb dX12_foretold_153 hl (k := 1) rfl (by rw [ex40]; rfl) (by decide) rfl (fun ls hl => ?_)
                  refine lv_goto (tgt := 132) hx hb dX12_foretold_156 (by decide) ?_
                  exact lp19ih x40 x39 _ _ _ (by omega) (by omega) hW hS (lv_sub hl [0, 1, 2, 3, 4, 5, 6] rfl)
            exact lp19 4294967296 (0) (0) _ _ _ (z_m0u _) (by rw [z_l0]; omega) hW hS (lv_sub hl [0, 1, 2, 3, 4, 5, 6] rfl)
          · have g41 := z_f_nge rfl rfl c16
            have b42 := Int32.toInt_lt y11
            refine lv_iconst (v := 0) hx hb dX12_foretold_46 (by decide) ?_
            refine lv_istore (lv' := [(7, .int 0), (6, .int y11), (4, .long w12), (3, .int x2), (0, .ref (ad 0)), (1, .int a1), (2, .int a2)]) hx hb dX12_foretold_47 hl (by decide) rfl (fun ls hl => ?_)
            have lp43 : ∀ (f : Nat) (y44 : Int32) (w45 : Int64) (I46 : z_I) (J47 : z_J) (H : Heap) (locs : List Loc) (ls : Array Slot), (2147483647 < y44.toInt + (f : Int)) → (0 ≤ y44.toInt) → (z_ima I46) → (z_imb I46) → (z_imr I46) → (z_rg 11 0 288 I46) → (z_rg 12 0 24 I46) → (z_Nd I46) → (z_rg 19 0 6200 I46) → (z_rg 20 0 6200 I46) → (z_rg 18 (-1) 6199 I46) → (z_Ex I46) → (z_fr L_X12_foretold I46 I) → z_W G A (shM, ad, I46, J47, PM ad) H → va_S A s.heap H locs → lv_has ls 9 [(7, .int y44), (6, .int y11), (4, .long w45), (3, .int x2), (0, .ref (ad 0)), (1, .int a1), (2, .int a2)] → W p l e (headSpec wsX12_foretold { frames := 6, cells := 0, slots := 0, locals := 133 }).room s m ([.ref (ad 0), .int a1, .int a2] : List Value).toArray below meth c0 H locs 0 0 (MQ below (va_Qi (fun (r : Int32) (u1 : z_U) => ∃ (I1 : z_I) (J1 : z_J), u1 = (shM, ad, I1, J1, PM ad) ∧ z_ima I1 ∧ z_imb I1 ∧ z_imr I1 ∧ z_rg 11 0 288 I1 ∧ z_rg 12 0 24 I1 ∧ z_Nd I1 ∧ z_rg 19 0 6200 I1 ∧ z_rg 20 0 6200 I1 ∧ z_rg 18 (-1) 6199 I1 ∧ z_Ex I1 ∧ z_fr L_X12_foretold I1 I) (z_B G A) A) ([.ref (ad 0), .int a1, .int a2] : List Value).toArray s 0 0 A) (F0 m 49 ls []) := by
              intro f
              induction f with
              | zero => intro y44 w45 I46 J47 H locs ls lp43m lp43l7 lp43ma lp43mb lp43mr lp43Atf lp43Atm lp43Nd lp43Asf lp43Ast lp43Asc lp43Ex lp43fr hW hS hl; exact absurd lp43m (by have := Int32.toInt_lt y44; have := Int32.le_toInt y44; omega)
              | succ f lp43ih =>
                intro y44 w45 I46 J47 H locs ls lp43m lp43l7 lp43ma lp43mb lp43mr lp43Atf lp43Atm lp43Nd lp43Asf lp43Ast lp43Asc lp43Ex lp43fr hW hS hl
                refine lv_iload hx hb dX12_foretold_49 (lv_at hl 0 rfl) ?_
                refine lv_aload_n hx hb dX12_foretold_51 rfl (lv_at hl 4 rfl) ?_
                have r48 : 0 ≤ (I46 0 1).toInt ∧ (I46 0 1).toInt ≤ 30 := lp43ma.2.1
                refine z_get (T := TX12) (N := 96) (ci := 12) (i := 0) (v := .int (I46 0 1)) hx hb hts zj_X12_foretold_X12 hown hK hW rfl rfl 1 (by decide) (hts (.fieldLink RX12 229 "PetrolBoardModel" "holders" "I") (me_s (me_l (me_l (List.mem_of_getElem? (i := 2) rfl))))) (fun _ h => h) rfl dX12_foretold_52 ?_
                refine lv_icmp_ge (tgt := 120) hx hb dX12_foretold_55 (by decide) (fun c49 => ?_) (fun c49 => ?_)
                · have g50 := z_f_ge rfl rfl c49
                  have b51 := Int32.toInt_lt y44
                  obtain ⟨x52, ex52⟩ : ∃ y : Int32, y = y11 + 1 := ⟨_, rfl⟩
                  have tx52 : x52.toInt = y11.toInt + 1 := z_tadd ex52 rfl z_l1 (by omega) (by omega)
                  refine lv_iinc (v := x52) (lv' := [(6, .int x52), (7, .int y44), (4, .long w45), (3, .int x2), (0, .ref (ad 0)), (1, .int a1), (2, .int a2)]) hx hb dX12_foretold_120 hl (k := 1) rfl (by rw [ex52]; rfl) (by decide) rfl (fun ls hl => ?_)
                  refine lv_goto (tgt := 38) hx hb dX12_foretold_123 (by decide) ?_
                  exact lp10ih x52 w45 I46 J47 _ _ _ (by omega) (by omega) ⟨(by show 0 ≤ (I46 0 0).toInt ∧ (I46 0 0).toInt ≤ 719; exact lp43ma.1), (by show 0 ≤ (I46 0 1).toInt ∧ (I46 0 1).toInt ≤ 30; exact lp43ma.2.1), (by show 0 ≤ (I46 0 2).toInt ∧ (I46 0 2).toInt ≤ 200; exact lp43ma.2.2)⟩ ⟨(by show 0 ≤ (I46 0 13).toInt ∧ (I46 0 13).toInt ≤ 12; exact lp43mb.1), (by show 0 ≤ (I46 0 14).toInt ∧ (I46 0 14).toInt ≤ 288; exact lp43mb.2)⟩ (by show 0 ≤ (I46 0 75).toInt ∧ (I46 0 75).toInt ≤ 4; exact lp43mr) lp43Atf lp43Atm lp43Nd lp43Asf lp43Ast lp43Asc lp43Ex (by omega) lp43fr hW hS (lv_sub hl [0, 2, 3, 4, 5, 6] rfl)
                · have g53 := z_f_nge rfl rfl c49
                  have b54 := Int32.toInt_lt y44
                  refine lv_iload_n hx hb dX12_foretold_58 rfl (lv_at hl 6 rfl) ?_
                  refine lv_if_ne (tgt := 83) hx hb dX12_foretold_59 (by decide) (fun c55 => ?_) (fun c55 => ?_)
                  · have g56 := z_f_ne rfl z_l0 c55
                    have b57 := Int32.toInt_lt a2
                    refine lv_lload hx hb dX12_foretold_83 (lv_at hl 2 rfl) ?_
                    refine lv_aload_n hx hb dX12_foretold_85 rfl (lv_at hl 4 rfl) ?_
                    refine lv_iload hx hb dX12_foretold_86 (lv_at hl 0 rfl) ?_
                    refine lv_iload hx hb dX12_foretold_88 (lv_at hl 1 rfl) ?_
                    refine lv_aload_n hx hb dX12_foretold_90 rfl (lv_at hl 4 rfl) ?_
                    have r58 : 0 ≤ (I46 0 0).toInt ∧ (I46 0 0).toInt ≤ 719 := lp43ma.1
                    refine z_get (T := TX12) (N := 96) (ci := 12) (i := 0) (v := .int (I46 0 0)) hx hb hts zj_X12_foretold_X12 hown hK hW rfl rfl 0 (by decide) (hts (.fieldLink RX12 232 "PetrolBoardModel" "today" "I") (me_s (me_l (me_l (List.mem_of_getElem? (i := 0) rfl))))) (fun _ h => h) rfl dX12_foretold_91 ?_
                    refine z_ci hW hS hA (va_runV (As := [.int y44, .int y11, .int (I46 0 0)]) (rest := [.long w45]) ⟨hx, hb, hml, hown, hts⟩ (sx_X12_unitsOf l G ad I46 J47 ⟨(by show 0 ≤ (I46 0 0).toInt ∧ (I46 0 0).toInt ≤ 719; exact lp43ma.1), (by show 0 ≤ (I46 0 1).toInt ∧ (I46 0 1).toInt ≤ 30; exact lp43ma.2.1), (by show 0 ≤ (I46 0 2).toInt ∧ (I46 0 2).toInt ≤ 200; exact lp43ma.2.2)⟩ ⟨(by show 0 ≤ (I46 0 13).toInt ∧ (I46 0 13).toInt ≤ 12; exact lp43mb.1), (by show 0 ≤ (I46 0 14).toInt ∧ (I46 0 14).toInt ≤ 288; exact lp43mb.2)⟩ lp43Atf lp43Atm lp43Nd lp43Asf lp43Ast lp43Asc lp43Ex y44 y11 (I46 0 0) (by first | omega | decide) _) (cwV 3 hts gX12_foretold_X12_unitsOf rfl rfl rfl hy_X12_unitsOf ⟨Nat.le_of_ble_eq_true rfl, Nat.le_of_ble_eq_true rfl⟩) (z_preV (i := 0) hK hW rfl rfl) rfl rfl hl.1 rfl (lv_room (Nat.le_of_ble_eq_true rfl)) dX12_foretold_94 ⟨Nat.le_of_ble_eq_true rfl, Nat.le_of_ble_eq_true rfl⟩) (fun r u1 H locs hp hW hS => ?_)
                    obtain ⟨I59, J61, e9, hI59ma, hI59mb, hI59Atf, hI59Atm, hI59Nd, hI59Asf, hI59Ast, hI59Asc, hI59Ex, fI59⟩ := hp
                    rw [e9] at hW
                    have f60 := z_fr_sub (L := L_X12_foretold) lp43fr fI59 (by decide)
                    have k62 : (I59 0 1).toInt = (I46 0 1).toInt := by rw [fI59 0 1 (by decide)]
                    have k63 : 0 ≤ (I59 0 75).toInt ∧ (I59 0 75).toInt ≤ 4 := by rw [fI59 0 75 (by decide)]; exact (by show 0 ≤ (I46 0 75).toInt ∧ (I46 0 75).toInt ≤ 4; exact lp43mr)
                    refine lv_topi (fun x64 ex64 => ?_)
                    refine lv_i2l (v := x64.toInt64) hx hb dX12_foretold_97 rfl ?_
                    refine lv_topl (fun w65 ew65 => ?_)
                    refine lv_aload_n hx hb dX12_foretold_98 rfl (lv_at hl 4 rfl) ?_
                    refine lv_iload hx hb dX12_foretold_99 (lv_at hl 1 rfl) ?_
                    refine lv_aload_n hx hb dX12_foretold_101 rfl (lv_at hl 4 rfl) ?_
                    have r66 : 0 ≤ (I59 0 0).toInt ∧ (I59 0 0).toInt ≤ 719 := hI59ma.1
                    refine z_get (T := TX12) (N := 96) (ci := 12) (i := 0) (v := .int (I59 0 0)) hx hb hts zj_X12_foretold_X12 hown hK hW rfl rfl 0 (by decide) (hts (.fieldLink RX12 232 "PetrolBoardModel" "today" "I") (me_s (me_l (me_l (List.mem_of_getElem? (i := 0) rfl))))) (fun _ h => h) rfl dX12_foretold_102 ?_
                    refine lv_iconst (v := 3) hx hb dX12_foretold_105 (by decide) ?_
                    refine z_ci hW hS hA (va_runV (As := [.int y11, .int (I59 0 0), .int 3]) (rest := [.long w65, .long w45]) ⟨hx, hb, hml, hown, hts⟩ (sx_X12_number l G ad I59 J61 ⟨(by show 0 ≤ (I59 0 13).toInt ∧ (I59 0 13).toInt ≤ 12; exact hI59mb.1), (by show 0 ≤ (I59 0 14).toInt ∧ (I59 0 14).toInt ≤ 288; exact hI59mb.2)⟩ hI59Atf hI59Atm y11 (I59 0 0) 3 _) (cwV 3 hts gX12_foretold_X12_number rfl rfl rfl hy_X12_number ⟨Nat.le_of_ble_eq_true rfl, Nat.le_of_ble_eq_true rfl⟩) (z_preV (i := 0) hK hW rfl rfl) rfl rfl hl.1 rfl (lv_room (Nat.le_of_ble_eq_true rfl)) dX12_foretold_106 ⟨Nat.le_of_ble_eq_true rfl, Nat.le_of_ble_eq_true rfl⟩) (fun r u1 H locs hp hW hS => ?_)
                    rw [hp] at hW
                    refine lv_topi (fun x67 ex67 => ?_)
                    refine lv_i2l (v := x67.toInt64) hx hb dX12_foretold_109 rfl ?_
                    refine lv_topl (fun w68 ew68 => ?_)
                    refine lv_lmul hx hb dX12_foretold_110 ?_
                    refine lv_topl (fun w69 ew69 => ?_)
                    refine lv_ladd hx hb dX12_foretold_111 ?_
                    refine lv_topl (fun w70 ew70 => ?_)
                    refine lv_lstore (lv' := [(4, .long w70), (7, .int y44), (6, .int y11), (3, .int x2), (0, .ref (ad 0)), (1, .int a1), (2, .int a2)]) hx hb dX12_foretold_112 hl (by decide) rfl (fun ls hl => ?_)
                    obtain ⟨x71, ex71⟩ : ∃ y : Int32, y = y44 + 1 := ⟨_, rfl⟩
                    have tx71 : x71.toInt = y44.toInt + 1 := z_tadd ex71 rfl z_l1 (by omega) (by omega)
                    refine lv_iinc (v := x71) (lv' := [(7, .int x71), (4, .long w70), (6, .int y11), (3, .int x2), (0, .ref (ad 0)), (1, .int a1), (2, .int a2)]) hx hb dX12_foretold_114 hl (k := 1) rfl (by rw [ex71]; rfl) (by decide) rfl (fun ls hl => ?_)
                    refine lv_goto (tgt := 49) hx hb dX12_foretold_117 (by decide) ?_
                    exact lp43ih x71 w70 I59 J61 _ _ _ (by omega) (by omega) ⟨(by show 0 ≤ (I59 0 0).toInt ∧ (I59 0 0).toInt ≤ 719; exact hI59ma.1), (by show 0 ≤ (I59 0 1).toInt ∧ (I59 0 1).toInt ≤ 30; exact hI59ma.2.1), (by show 0 ≤ (I59 0 2).toInt ∧ (I59 0 2).toInt ≤ 200; exact hI59ma.2.2)⟩ ⟨(by show 0 ≤ (I59 0 13).toInt ∧ (I59 0 13).toInt ≤ 12; exact hI59mb.1), (by show 0 ≤ (I59 0 14).toInt ∧ (I59 0 14).toInt ≤ 288; exact hI59mb.2)⟩ (by show 0 ≤ (I59 0 75).toInt ∧ (I59 0 75).toInt ≤ 4; exact k63) hI59Atf hI59Atm hI59Nd hI59Asf hI59Ast hI59Asc hI59Ex f60 hW hS (lv_sub hl [0, 2, 1, 3, 4, 5, 6] rfl)
                  · have g72 := z_f_eq rfl z_l0 c55
                    have b73 := Int32.toInt_lt a2
                    refine lv_aload_n hx hb dX12_foretold_62 rfl (lv_at hl 4 rfl) ?_
                    refine lv_iload hx hb dX12_foretold_63 (lv_at hl 0 rfl) ?_
                    refine lv_bipush (v := 30) hx hb dX12_foretold_65 (by decide) ?_
                    refine lv_iload hx hb dX12_foretold_67 (lv_at hl 1 rfl) ?_
                    refine lv_imul hx hb dX12_foretold_69 ?_
                    refine lv_topi (fun x74 ex74 => ?_)
                    have tx74 : x74.toInt = 30 * y11.toInt := z_tmul ex74 z_l30 rfl (by omega) (by omega)
                    refine lv_aload_n hx hb dX12_foretold_70 rfl (lv_at hl 4 rfl) ?_
                    have r75 : 0 ≤ (I46 0 0).toInt ∧ (I46 0 0).toInt ≤ 719 := lp43ma.1
                    refine z_get (T := TX12) (N := 96) (ci := 12) (i := 0) (v := .int (I46 0 0)) hx hb hts zj_X12_foretold_X12 hown hK hW rfl rfl 0 (by decide) (hts (.fieldLink RX12 232 "PetrolBoardModel" "today" "I") (me_s (me_l (me_l (List.mem_of_getElem? (i := 0) rfl))))) (fun _ h => h) rfl dX12_foretold_71 ?_
                    refine z_ci hW hS hA (va_runV (As := [.int y44, .int x74, .int (I46 0 0)]) (rest := []) ⟨hx, hb, hml, hown, hts⟩ (sx_X12_kindOn l G ad I46 J47 ⟨(by show 0 ≤ (I46 0 0).toInt ∧ (I46 0 0).toInt ≤ 719; exact lp43ma.1), (by show 0 ≤ (I46 0 1).toInt ∧ (I46 0 1).toInt ≤ 30; exact lp43ma.2.1), (by show 0 ≤ (I46 0 2).toInt ∧ (I46 0 2).toInt ≤ 200; exact lp43ma.2.2)⟩ y44 x74 (I46 0 0) _) (cwV 3 hts gX12_foretold_X12_kindOn rfl rfl rfl hy_X12_kindOn ⟨Nat.le_of_ble_eq_true rfl, Nat.le_of_ble_eq_true rfl⟩) (z_preV (i := 0) hK hW rfl rfl) rfl rfl hl.1 rfl (lv_room (Nat.le_of_ble_eq_true rfl)) dX12_foretold_74 ⟨Nat.le_of_ble_eq_true rfl, Nat.le_of_ble_eq_true rfl⟩) (fun r u1 H locs hp hW hS => ?_)
                    rw [hp] at hW
                    refine lv_topi (fun x76 ex76 => ?_)
                    refine lv_if_ne (tgt := 83) hx hb dX12_foretold_77 (by decide) (fun c77 => ?_) (fun c77 => ?_)
                    · have g78 := z_f_ne rfl z_l0 c77
                      have b79 := Int32.toInt_lt x76
                      refine lv_lload hx hb dX12_foretold_83 (lv_at hl 2 rfl) ?_
                      refine lv_aload_n hx hb dX12_foretold_85 rfl (lv_at hl 4 rfl) ?_
                      refine lv_iload hx hb dX12_foretold_86 (lv_at hl 0 rfl) ?_
                      refine lv_iload hx hb dX12_foretold_88 (lv_at hl 1 rfl) ?_
                      refine lv_aload_n hx hb dX12_foretold_90 rfl (lv_at hl 4 rfl) ?_
                      refine z_get (T := TX12) (N := 96) (ci := 12) (i := 0) (v := .int (I46 0 0)) hx hb hts zj_X12_foretold_X12 hown hK hW rfl rfl 0 (by decide) (hts (.fieldLink RX12 232 "PetrolBoardModel" "today" "I") (me_s (me_l (me_l (List.mem_of_getElem? (i := 0) rfl))))) (fun _ h => h) rfl dX12_foretold_91 ?_
                      refine z_ci hW hS hA (va_runV (As := [.int y44, .int y11, .int (I46 0 0)]) (rest := [.long w45]) ⟨hx, hb, hml, hown, hts⟩ (sx_X12_unitsOf l G ad I46 J47 ⟨(by show 0 ≤ (I46 0 0).toInt ∧ (I46 0 0).toInt ≤ 719; exact lp43ma.1), (by show 0 ≤ (I46 0 1).toInt ∧ (I46 0 1).toInt ≤ 30; exact lp43ma.2.1), (by show 0 ≤ (I46 0 2).toInt ∧ (I46 0 2).toInt ≤ 200; exact lp43ma.2.2)⟩ ⟨(by show 0 ≤ (I46 0 13).toInt ∧ (I46 0 13).toInt ≤ 12; exact lp43mb.1), (by show 0 ≤ (I46 0 14).toInt ∧ (I46 0 14).toInt ≤ 288; exact lp43mb.2)⟩ lp43Atf lp43Atm lp43Nd lp43Asf lp43Ast lp43Asc lp43Ex y44 y11 (I46 0 0) (by first | omega | decide) _) (cwV 3 hts gX12_foretold_X12_unitsOf rfl rfl rfl hy_X12_unitsOf ⟨Nat.le_of_ble_eq_true rfl, Nat.le_of_ble_eq_true rfl⟩) (z_preV (i := 0) hK hW rfl rfl) rfl rfl hl.1 rfl (lv_room (Nat.le_of_ble_eq_true rfl)) dX12_foretold_94 ⟨Nat.le_of_ble_eq_true rfl, Nat.le_of_ble_eq_true rfl⟩) (fun r u1 H locs hp hW hS => ?_)
                      obtain ⟨I80, J82, e9, hI80ma, hI80mb, hI80Atf, hI80Atm, hI80Nd, hI80Asf, hI80Ast, hI80Asc, hI80Ex, fI80⟩ := hp
                      rw [e9] at hW
                      have f81 := z_fr_sub (L := L_X12_foretold) lp43fr fI80 (by decide)
                      have k83 : (I80 0 1).toInt = (I46 0 1).toInt := by rw [fI80 0 1 (by decide)]
                      have k84 : 0 ≤ (I80 0 75).toInt ∧ (I80 0 75).toInt ≤ 4 := by rw [fI80 0 75 (by decide)]; exact (by show 0 ≤ (I46 0 75).toInt ∧ (I46 0 75).toInt ≤ 4; exact lp43mr)
                      refine lv_topi (fun x85 ex85 => ?_)
                      refine lv_i2l (v := x85.toInt64) hx hb dX12_foretold_97 rfl ?_
                      refine lv_topl (fun w86 ew86 => ?_)
                      refine lv_aload_n hx hb dX12_foretold_98 rfl (lv_at hl 4 rfl) ?_
                      refine lv_iload hx hb dX12_foretold_99 (lv_at hl 1 rfl) ?_
                      refine lv_aload_n hx hb dX12_foretold_101 rfl (lv_at hl 4 rfl) ?_
                      have r87 : 0 ≤ (I80 0 0).toInt ∧ (I80 0 0).toInt ≤ 719 := hI80ma.1
                      refine z_get (T := TX12) (N := 96) (ci := 12) (i := 0) (v := .int (I80 0 0)) hx hb hts zj_X12_foretold_X12 hown hK hW rfl rfl 0 (by decide) (hts (.fieldLink RX12 232 "PetrolBoardModel" "today" "I") (me_s (me_l (me_l (List.mem_of_getElem? (i := 0) rfl))))) (fun _ h => h) rfl dX12_foretold_102 ?_
                      refine lv_iconst (v := 3) hx hb dX12_foretold_105 (by decide) ?_
                      refine z_ci hW hS hA (va_runV (As := [.int y11, .int (I80 0 0), .int 3]) (rest := [.long w86, .long w45]) ⟨hx, hb, hml, hown, hts⟩ (sx_X12_number l G ad I80 J82 ⟨(by show 0 ≤ (I80 0 13).toInt ∧ (I80 0 13).toInt ≤ 12; exact hI80mb.1), (by show 0 ≤ (I80 0 14).toInt ∧ (I80 0 14).toInt ≤ 288; exact hI80mb.2)⟩ hI80Atf hI80Atm y11 (I80 0 0) 3 _) (cwV 3 hts gX12_foretold_X12_number rfl rfl rfl hy_X12_number ⟨Nat.le_of_ble_eq_true rfl, Nat.le_of_ble_eq_true rfl⟩) (z_preV (i := 0) hK hW rfl rfl) rfl rfl hl.1 rfl (lv_room (Nat.le_of_ble_eq_true rfl)) dX12_foretold_106 ⟨Nat.le_of_ble_eq_true rfl, Nat.le_of_ble_eq_true rfl⟩) (fun r u1 H locs hp hW hS => ?_)
                      rw [hp] at hW
                      refine lv_topi (fun x88 ex88 => ?_)
                      refine lv_i2l (v := x88.toInt64) hx hb dX12_foretold_109 rfl ?_
                      refine lv_topl (fun w89 ew89 => ?_)
                      refine lv_lmul hx hb dX12_foretold_110 ?_
                      refine lv_topl (fun w90 ew90 => ?_)
                      refine lv_ladd hx hb dX12_foretold_111 ?_
                      refine lv_topl (fun w91 ew91 => ?_)
                      refine lv_lstore (lv' := [(4, .long w91), (7, .int y44), (6, .int y11), (3, .int x2), (0, .ref (ad 0)), (1, .int a1), (2, .int a2)]) hx hb dX12_foretold_112 hl (by decide) rfl (fun ls hl => ?_)
                      obtain ⟨x92, ex92⟩ : ∃ y : Int32, y = y44 + 1 := ⟨_, rfl⟩
                      have tx92 : x92.toInt = y44.toInt + 1 := z_tadd ex92 rfl z_l1 (by omega) (by omega)
                      refine lv_iinc (v := x92) (lv' := [(7, .int x92), (4, .long w91), (6, .int y11), (3, .int x2), (0, .ref (ad 0)), (1, .int a1), (2, .int a2)]) hx hb dX12_foretold_114 hl (k := 1) rfl (by rw [ex92]; rfl) (by decide) rfl (fun ls hl => ?_)
                      refine lv_goto (tgt := 49) hx hb dX12_foretold_117 (by decide) ?_
                      exact lp43ih x92 w91 I80 J82 _ _ _ (by omega) (by omega) ⟨(by show 0 ≤ (I80 0 0).toInt ∧ (I80 0 0).toInt ≤ 719; exact hI80ma.1), (by show 0 ≤ (I80 0 1).toInt ∧ (I80 0 1).toInt ≤ 30; exact hI80ma.2.1), (by show 0 ≤ (I80 0 2).toInt ∧ (I80 0 2).toInt ≤ 200; exact hI80ma.2.2)⟩ ⟨(by show 0 ≤ (I80 0 13).toInt ∧ (I80 0 13).toInt ≤ 12; exact hI80mb.1), (by show 0 ≤ (I80 0 14).toInt ∧ (I80 0 14).toInt ≤ 288; exact hI80mb.2)⟩ (by show 0 ≤ (I80 0 75).toInt ∧ (I80 0 75).toInt ≤ 4; exact k84) hI80Atf hI80Atm hI80Nd hI80Asf hI80Ast hI80Asc hI80Ex f81 hW hS (lv_sub hl [0, 2, 1, 3, 4, 5, 6] rfl)
                    · have g93 := z_f_eq rfl z_l0 c77
                      have b94 := Int32.toInt_lt x76
                      refine lv_goto (tgt := 114) hx hb dX12_foretold_80 (by decide) ?_
                      obtain ⟨x95, ex95⟩ : ∃ y : Int32, y = y44 + 1 := ⟨_, rfl⟩
                      have tx95 : x95.toInt = y44.toInt + 1 := z_tadd ex95 rfl z_l1 (by omega) (by omega)
                      refine lv_iinc (v := x95) (lv' := [(7, .int x95), (6, .int y11), (4, .long w45), (3, .int x2), (0, .ref (ad 0)), (1, .int a1), (2, .int a2)]) hx hb dX12_foretold_114 hl (k := 0) rfl (by rw [ex95]; rfl) (by decide) rfl (fun ls hl => ?_)
                      refine lv_goto (tgt := 49) hx hb dX12_foretold_117 (by decide) ?_
                      exact lp43ih x95 w45 I46 J47 _ _ _ (by omega) (by omega) ⟨(by show 0 ≤ (I46 0 0).toInt ∧ (I46 0 0).toInt ≤ 719; exact lp43ma.1), (by show 0 ≤ (I46 0 1).toInt ∧ (I46 0 1).toInt ≤ 30; exact lp43ma.2.1), (by show 0 ≤ (I46 0 2).toInt ∧ (I46 0 2).toInt ≤ 200; exact lp43ma.2.2)⟩ ⟨(by show 0 ≤ (I46 0 13).toInt ∧ (I46 0 13).toInt ≤ 12; exact lp43mb.1), (by show 0 ≤ (I46 0 14).toInt ∧ (I46 0 14).toInt ≤ 288; exact lp43mb.2)⟩ (by show 0 ≤ (I46 0 75).toInt ∧ (I46 0 75).toInt ≤ 4; exact lp43mr) lp43Atf lp43Atm lp43Nd lp43Asf lp43Ast lp43Asc lp43Ex lp43fr hW hS (lv_sub hl [0, 1, 2, 3, 4, 5, 6] rfl)
            exact lp43 4294967296 (0) w12 I13 J14 _ _ _ (z_m0u _) (by rw [z_l0]; omega) ⟨(by show 0 ≤ (I13 0 0).toInt ∧ (I13 0 0).toInt ≤ 719; exact lp10ma.1), (by show 0 ≤ (I13 0 1).toInt ∧ (I13 0 1).toInt ≤ 30; exact lp10ma.2.1), (by show 0 ≤ (I13 0 2).toInt ∧ (I13 0 2).toInt ≤ 200; exact lp10ma.2.2)⟩ ⟨(by show 0 ≤ (I13 0 13).toInt ∧ (I13 0 13).toInt ≤ 12; exact lp10mb.1), (by show 0 ≤ (I13 0 14).toInt ∧ (I13 0 14).toInt ≤ 288; exact lp10mb.2)⟩ (by show 0 ≤ (I13 0 75).toInt ∧ (I13 0 75).toInt ≤ 4; exact lp10mr) lp10Atf lp10Atm lp10Nd lp10Asf lp10Ast lp10Asc lp10Ex lp10fr hW hS (lv_sub hl [0, 1, 2, 3, 4, 5, 6] rfl)
      exact lp10 4294967296 x2 0 I J _ _ _ (z_m0u _) (by omega) ⟨(by show 0 ≤ (I 0 0).toInt ∧ (I 0 0).toInt ≤ 719; exact hma.1), (by show 0 ≤ (I 0 1).toInt ∧ (I 0 1).toInt ≤ 30; exact hma.2.1), (by show 0 ≤ (I 0 2).toInt ∧ (I 0 2).toInt ≤ 200; exact hma.2.2)⟩ ⟨(by show 0 ≤ (I 0 13).toInt ∧ (I 0 13).toInt ≤ 12; exact hmb.1), (by show 0 ≤ (I 0 14).toInt ∧ (I 0 14).toInt ≤ 288; exact hmb.2)⟩ (by show 0 ≤ (I 0 75).toInt ∧ (I 0 75).toInt ≤ 4; exact hmr) hAtf hAtm hNd hAsf hAst hAsc hEx (by omega) z_fr_0 hW hS (lv_sub hl [0, 1, 2, 3, 4, 5] rfl)
    · have g96 := z_f_nle rfl z_l23 c8
      refine lv_ldcw (v := (-2000000000)) hx hb hown (hts (.constant RX12 482 (-2000000000)) (me_s (me_l (me_l (List.mem_of_getElem? (i := 1) rfl))))) dX12_foretold_28 ?_
      exact z_iret hx hb hr hK hS (Nat.le_of_ble_eq_true rfl) (Nat.le_of_ble_eq_true rfl) hlocks dX12_foretold_31 (shM, ad, I, J, PM ad) hW ⟨I, J, rfl, ⟨(by show 0 ≤ (I 0 0).toInt ∧ (I 0 0).toInt ≤ 719; exact hma.1), (by show 0 ≤ (I 0 1).toInt ∧ (I 0 1).toInt ≤ 30; exact hma.2.1), (by show 0 ≤ (I 0 2).toInt ∧ (I 0 2).toInt ≤ 200; exact hma.2.2)⟩, ⟨(by show 0 ≤ (I 0 13).toInt ∧ (I 0 13).toInt ≤ 12; exact hmb.1), (by show 0 ≤ (I 0 14).toInt ∧ (I 0 14).toInt ≤ 288; exact hmb.2)⟩, (by show 0 ≤ (I 0 75).toInt ∧ (I 0 75).toInt ≤ 4; exact hmr), hAtf, hAtm, hNd, hAsf, hAst, hAsc, hEx, z_fr_0⟩
  · refine lv_if_eq (tgt := 28) hx hb dX12_foretold_15 (by decide) (fun c97 => ?_) (fun c97 => absurd (by decide) c97)
    refine lv_ldcw (v := (-2000000000)) hx hb hown (hts (.constant RX12 482 (-2000000000)) (me_s (me_l (me_l (List.mem_of_getElem? (i := 1) rfl))))) dX12_foretold_28 ?_
    exact z_iret hx hb hr hK hS (Nat.le_of_ble_eq_true rfl) (Nat.le_of_ble_eq_true rfl) hlocks dX12_foretold_31 (shM, ad, I, J, PM ad) hW ⟨I, J, rfl, ⟨(by show 0 ≤ (I 0 0).toInt ∧ (I 0 0).toInt ≤ 719; exact hma.1), (by show 0 ≤ (I 0 1).toInt ∧ (I 0 1).toInt ≤ 30; exact hma.2.1), (by show 0 ≤ (I 0 2).toInt ∧ (I 0 2).toInt ≤ 200; exact hma.2.2)⟩, ⟨(by show 0 ≤ (I 0 13).toInt ∧ (I 0 13).toInt ≤ 12; exact hmb.1), (by show 0 ≤ (I 0 14).toInt ∧ (I 0 14).toInt ≤ 288; exact hmb.2)⟩, (by show 0 ≤ (I 0 75).toInt ∧ (I 0 75).toInt ≤ 4; exact hmr), hAtf, hAtm, hNd, hAsf, hAst, hAsc, hEx, z_fr_0⟩
