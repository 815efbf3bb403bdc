theorem dX12_flow_0 : decode cX12_flow 0 = .ok (.iload_n 1, 1) := z_dd_27 (by decide +kernel)
theorem dX12_flow_1 : decode cX12_flow 1 = .ok (.iconst (-1), 1) := z_dd_2 (by decide +kernel)
theorem dX12_flow_2 : decode cX12_flow 2 = .ok (.if_icmp .eq 15, 3) := z_dd_159 (by decide +kernel)
theorem dX12_flow_17 : decode cX12_flow 17 = .ok (.iload_n 2, 1) := z_dd_28 (by decide +kernel)
theorem dX12_flow_18 : decode cX12_flow 18 = .ok (.iconst 0, 1) := z_dd_3 (by decide +kernel)
theorem dX12_flow_19 : decode cX12_flow 19 = .ok (.iconst 1, 1) := z_dd_4 (by decide +kernel)
set_option maxRecDepth 20000 in
theorem ggX12_flow_X12_within : GoodIn wsX12_flow wsX12_within := goodIn_sub (fa_c (me_s (me_l (me_l (List.mem_of_getElem? (i := 12) rfl)))) fa_n) (by decide +kernel)
set_option maxRecDepth 20000 in
theorem gX12_flow_X12_within : GoodIn wsX12_flow (va_wsS RX12 235 yX12_within wsX12_within) := goodIn_app (goodIn_sub (fa_c (me_s (me_l (me_l (List.mem_of_getElem? (i := 9) rfl)))) (fa_c (me_s (me_l (me_l (List.mem_of_getElem? (i := 10) rfl)))) (fa_c (me_s (me_l (me_l (List.mem_of_getElem? (i := 11) rfl)))) fa_n))) (by decide +kernel)) ggX12_flow_X12_within
theorem dX12_flow_20 : decode cX12_flow 20 = .ok (.invokestatic 235, 3) := z_dd_184 (by decide +kernel)
theorem dX12_flow_23 : decode cX12_flow 23 = .ok (.ifCond .ne 5, 3) := z_dd_154 (by decide +kernel)
theorem dX12_flow_28 : decode cX12_flow 28 = .ok (.iconst 0, 1) := z_dd_3 (by decide +kernel)
theorem dX12_flow_29 : decode cX12_flow 29 = .ok (.istore_n 3, 1) := z_dd_62 (by decide +kernel)
theorem dX12_flow_30 : decode cX12_flow 30 = .ok (.iload_n 3, 1) := z_dd_29 (by decide +kernel)
theorem dX12_flow_31 : decode cX12_flow 31 = .ok (.sipush 256, 3) := z_dd_17 (by decide +kernel)
theorem dX12_flow_34 : decode cX12_flow 34 = .ok (.if_icmp .ge 23, 3) := z_dd_162 (by decide +kernel)
theorem dX12_flow_57 : decode cX12_flow 57 = .ok (.iconst 0, 1) := z_dd_3 (by decide +kernel)
theorem dX12_flow_58 : decode cX12_flow 58 = .ok (.istore_n 3, 1) := z_dd_62 (by decide +kernel)
theorem dX12_flow_59 : decode cX12_flow 59 = .ok (.iload_n 3, 1) := z_dd_29 (by decide +kernel)
theorem dX12_flow_60 : decode cX12_flow 60 = .ok (.aload_n 0, 1) := z_dd_42 (by decide +kernel)
theorem dX12_flow_61 : decode cX12_flow 61 = .ok (.getfield 493, 3) := z_dd_180 (by decide +kernel)
theorem dX12_flow_64 : decode cX12_flow 64 = .ok (.if_icmp .ge 87, 3) := z_dd_162 (by decide +kernel)
theorem dX12_flow_151 : decode cX12_flow 151 = .ok (.iconst 0, 1) := z_dd_3 (by decide +kernel)
theorem dX12_flow_152 : decode cX12_flow 152 = .ok (.istore_n 3, 1) := z_dd_62 (by decide +kernel)
theorem dX12_flow_153 : decode cX12_flow 153 = .ok (.iload_n 3, 1) := z_dd_29 (by decide +kernel)
theorem dX12_flow_154 : decode cX12_flow 154 = .ok (.aload_n 0, 1) := z_dd_42 (by decide +kernel)
theorem dX12_flow_155 : decode cX12_flow 155 = .ok (.getfield 461, 3) := z_dd_180 (by decide +kernel)
theorem dX12_flow_158 : decode cX12_flow 158 = .ok (.if_icmp .ge 25, 3) := z_dd_162 (by decide +kernel)
theorem dX12_flow_183 : decode cX12_flow 183 = .ok (.iconst 0, 1) := z_dd_3 (by decide +kernel)
theorem dX12_flow_184 : decode cX12_flow 184 = .ok (.istore_n 3, 1) := z_dd_62 (by decide +kernel)
theorem dX12_flow_185 : decode cX12_flow 185 = .ok (.iconst 0, 1) := z_dd_3 (by decide +kernel)
theorem dX12_flow_186 : decode cX12_flow 186 = .ok (.istore 4, 2) := z_dd_54 (by decide +kernel)
theorem dX12_flow_188 : decode cX12_flow 188 = .ok (.aload_n 0, 1) := z_dd_42 (by decide +kernel)
set_option maxRecDepth 20000 in
theorem ggX12_flow_X12_finds : GoodIn wsX12_flow wsX12_finds := goodIn_sub (fa_c (me_s (me_l (me_l (List.mem_of_getElem? (i := 20) rfl)))) (fa_a (fa_c (me_s (me_l (me_l (List.mem_of_getElem? (i := 8) rfl)))) (fa_c (me_s (me_l (me_l (List.mem_of_getElem? (i := 21) rfl)))) (fa_c (me_s (me_l (me_l (List.mem_of_getElem? (i := 1) rfl)))) (fa_c (me_s (me_l (me_l (List.mem_of_getElem? (i := 2) rfl)))) (fa_c (me_s (me_l (me_l (List.mem_of_getElem? (i := 7) rfl)))) fa_n))))) (fun w h => (me_s (me_r h))))) (by decide +kernel)
set_option maxRecDepth 20000 in
theorem gX12_flow_X12_finds : GoodIn wsX12_flow (wsV RX12 501 RX12 yX12_finds wsX12_finds) := goodIn_app (goodIn_sub (fa_c (me_s (me_l (me_l (List.mem_of_getElem? (i := 17) rfl)))) (fa_c (me_s (me_l (me_l (List.mem_of_getElem? (i := 18) rfl)))) (fa_c (me_s (me_l (me_l (List.mem_of_getElem? (i := 19) rfl)))) (fa_c (me_s (me_l (me_l (List.mem_of_getElem? (i := 11) rfl)))) fa_n)))) (by decide +kernel)) ggX12_flow_X12_finds
theorem dX12_flow_189 : decode cX12_flow 189 = .ok (.invokevirtual 501, 3) := z_dd_182 (by decide +kernel)
theorem dX12_flow_192 : decode cX12_flow 192 = .ok (.ifCond .eq 144, 3) := z_dd_153 (by decide +kernel)
theorem dX12_flow_195 : decode cX12_flow 195 = .ok (.sipush 1000, 3) := z_dd_17 (by decide +kernel)
theorem dX12_flow_198 : decode cX12_flow 198 = .ok (.istore 5, 2) := z_dd_54 (by decide +kernel)
theorem dX12_flow_200 : decode cX12_flow 200 = .ok (.bipush 15, 2) := z_dd_16 (by decide +kernel)
theorem dX12_flow_202 : decode cX12_flow 202 = .ok (.istore 6, 2) := z_dd_54 (by decide +kernel)
theorem dX12_flow_204 : decode cX12_flow 204 = .ok (.iload 6, 2) := z_dd_21 (by decide +kernel)
theorem dX12_flow_206 : decode cX12_flow 206 = .ok (.ifCond .eq 40, 3) := z_dd_153 (by decide +kernel)
theorem dX12_flow_246 : decode cX12_flow 246 = .ok (.bipush 15, 2) := z_dd_16 (by decide +kernel)
theorem dX12_flow_248 : decode cX12_flow 248 = .ok (.istore 6, 2) := z_dd_54 (by decide +kernel)
theorem dX12_flow_250 : decode cX12_flow 250 = .ok (.iload 6, 2) := z_dd_21 (by decide +kernel)
theorem dX12_flow_252 : decode cX12_flow 252 = .ok (.ifCond .eq 61, 3) := z_dd_153 (by decide +kernel)
theorem dX12_flow_313 : decode cX12_flow 313 = .ok (.iload_n 3, 1) := z_dd_29 (by decide +kernel)
theorem dX12_flow_314 : decode cX12_flow 314 = .ok (.iload 5, 2) := z_dd_21 (by decide +kernel)
theorem dX12_flow_316 : decode cX12_flow 316 = .ok (.iadd, 1) := z_dd_96 (by decide +kernel)
theorem dX12_flow_317 : decode cX12_flow 317 = .ok (.istore_n 3, 1) := z_dd_62 (by decide +kernel)
theorem dX12_flow_318 : decode cX12_flow 318 = .ok (.iload 4, 2) := z_dd_21 (by decide +kernel)
theorem dX12_flow_320 : decode cX12_flow 320 = .ok (.iload 5, 2) := z_dd_21 (by decide +kernel)
theorem dX12_flow_322 : decode cX12_flow 322 = .ok (.aload_n 0, 1) := z_dd_42 (by decide +kernel)
theorem dX12_flow_323 : decode cX12_flow 323 = .ok (.getfield 187, 3) := z_dd_180 (by decide +kernel)
theorem dX12_flow_326 : decode cX12_flow 326 = .ok (.bipush 15, 2) := z_dd_16 (by decide +kernel)
theorem dX12_flow_328 : decode cX12_flow 328 = .ok (.iaload, 1) := z_dd_46 (by decide +kernel)
theorem dX12_flow_329 : decode cX12_flow 329 = .ok (.imul, 1) := z_dd_104 (by decide +kernel)
theorem dX12_flow_330 : decode cX12_flow 330 = .ok (.iadd, 1) := z_dd_96 (by decide +kernel)
theorem dX12_flow_331 : decode cX12_flow 331 = .ok (.istore 4, 2) := z_dd_54 (by decide +kernel)
theorem dX12_flow_333 : decode cX12_flow 333 = .ok (.goto (-145), 3) := z_dd_167 (by decide +kernel)
theorem dX12_flow_255 : decode cX12_flow 255 = .ok (.aload_n 0, 1) := z_dd_42 (by decide +kernel)
theorem dX12_flow_256 : decode cX12_flow 256 = .ok (.getfield 181, 3) := z_dd_180 (by decide +kernel)
theorem dX12_flow_259 : decode cX12_flow 259 = .ok (.bipush 16, 2) := z_dd_16 (by decide +kernel)
theorem dX12_flow_261 : decode cX12_flow 261 = .ok (.aload_n 0, 1) := z_dd_42 (by decide +kernel)
theorem dX12_flow_262 : decode cX12_flow 262 = .ok (.getfield 190, 3) := z_dd_180 (by decide +kernel)
theorem dX12_flow_265 : decode cX12_flow 265 = .ok (.iload 6, 2) := z_dd_21 (by decide +kernel)
theorem dX12_flow_267 : decode cX12_flow 267 = .ok (.iaload, 1) := z_dd_46 (by decide +kernel)
theorem dX12_flow_268 : decode cX12_flow 268 = .ok (.imul, 1) := z_dd_104 (by decide +kernel)
theorem dX12_flow_269 : decode cX12_flow 269 = .ok (.iload 6, 2) := z_dd_21 (by decide +kernel)
theorem dX12_flow_271 : decode cX12_flow 271 = .ok (.iadd, 1) := z_dd_96 (by decide +kernel)
theorem dX12_flow_272 : decode cX12_flow 272 = .ok (.dup2, 1) := z_dd_92 (by decide +kernel)
theorem dX12_flow_273 : decode cX12_flow 273 = .ok (.iaload, 1) := z_dd_46 (by decide +kernel)
theorem dX12_flow_274 : decode cX12_flow 274 = .ok (.iload 5, 2) := z_dd_21 (by decide +kernel)
theorem dX12_flow_276 : decode cX12_flow 276 = .ok (.isub, 1) := z_dd_100 (by decide +kernel)
theorem dX12_flow_277 : decode cX12_flow 277 = .ok (.iastore, 1) := z_dd_79 (by decide +kernel)
theorem dX12_flow_278 : decode cX12_flow 278 = .ok (.aload_n 0, 1) := z_dd_42 (by decide +kernel)
theorem dX12_flow_279 : decode cX12_flow 279 = .ok (.getfield 181, 3) := z_dd_180 (by decide +kernel)
theorem dX12_flow_282 : decode cX12_flow 282 = .ok (.bipush 16, 2) := z_dd_16 (by decide +kernel)
theorem dX12_flow_284 : decode cX12_flow 284 = .ok (.iload 6, 2) := z_dd_21 (by decide +kernel)
theorem dX12_flow_286 : decode cX12_flow 286 = .ok (.imul, 1) := z_dd_104 (by decide +kernel)
theorem dX12_flow_287 : decode cX12_flow 287 = .ok (.aload_n 0, 1) := z_dd_42 (by decide +kernel)
theorem dX12_flow_288 : decode cX12_flow 288 = .ok (.getfield 190, 3) := z_dd_180 (by decide +kernel)
theorem dX12_flow_291 : decode cX12_flow 291 = .ok (.iload 6, 2) := z_dd_21 (by decide +kernel)
theorem dX12_flow_293 : decode cX12_flow 293 = .ok (.iaload, 1) := z_dd_46 (by decide +kernel)
theorem dX12_flow_294 : decode cX12_flow 294 = .ok (.iadd, 1) := z_dd_96 (by decide +kernel)
theorem dX12_flow_295 : decode cX12_flow 295 = .ok (.dup2, 1) := z_dd_92 (by decide +kernel)
theorem dX12_flow_296 : decode cX12_flow 296 = .ok (.iaload, 1) := z_dd_46 (by decide +kernel)
theorem dX12_flow_297 : decode cX12_flow 297 = .ok (.iload 5, 2) := z_dd_21 (by decide +kernel)
theorem dX12_flow_299 : decode cX12_flow 299 = .ok (.iadd, 1) := z_dd_96 (by decide +kernel)
theorem dX12_flow_300 : decode cX12_flow 300 = .ok (.iastore, 1) := z_dd_79 (by decide +kernel)
theorem dX12_flow_301 : decode cX12_flow 301 = .ok (.aload_n 0, 1) := z_dd_42 (by decide +kernel)
theorem dX12_flow_302 : decode cX12_flow 302 = .ok (.getfield 190, 3) := z_dd_180 (by decide +kernel)
theorem dX12_flow_305 : decode cX12_flow 305 = .ok (.iload 6, 2) := z_dd_21 (by decide +kernel)
theorem dX12_flow_307 : decode cX12_flow 307 = .ok (.iaload, 1) := z_dd_46 (by decide +kernel)
theorem dX12_flow_308 : decode cX12_flow 308 = .ok (.istore 6, 2) := z_dd_54 (by decide +kernel)
theorem dX12_flow_310 : decode cX12_flow 310 = .ok (.goto (-60), 3) := z_dd_167 (by decide +kernel)
theorem dX12_flow_209 : decode cX12_flow 209 = .ok (.iload 5, 2) := z_dd_21 (by decide +kernel)
theorem dX12_flow_211 : decode cX12_flow 211 = .ok (.aload_n 0, 1) := z_dd_42 (by decide +kernel)
theorem dX12_flow_212 : decode cX12_flow 212 = .ok (.getfield 181, 3) := z_dd_180 (by decide +kernel)
theorem dX12_flow_215 : decode cX12_flow 215 = .ok (.bipush 16, 2) := z_dd_16 (by decide +kernel)
theorem dX12_flow_217 : decode cX12_flow 217 = .ok (.aload_n 0, 1) := z_dd_42 (by decide +kernel)
theorem dX12_flow_218 : decode cX12_flow 218 = .ok (.getfield 190, 3) := z_dd_180 (by decide +kernel)
theorem dX12_flow_221 : decode cX12_flow 221 = .ok (.iload 6, 2) := z_dd_21 (by decide +kernel)
theorem dX12_flow_223 : decode cX12_flow 223 = .ok (.iaload, 1) := z_dd_46 (by decide +kernel)
theorem dX12_flow_224 : decode cX12_flow 224 = .ok (.imul, 1) := z_dd_104 (by decide +kernel)
theorem dX12_flow_225 : decode cX12_flow 225 = .ok (.iload 6, 2) := z_dd_21 (by decide +kernel)
theorem dX12_flow_227 : decode cX12_flow 227 = .ok (.iadd, 1) := z_dd_96 (by decide +kernel)
theorem dX12_flow_228 : decode cX12_flow 228 = .ok (.iaload, 1) := z_dd_46 (by decide +kernel)
set_option maxRecDepth 20000 in
theorem ggX12_flow_X12_min : GoodIn wsX12_flow wsX12_min := goodIn_sub (fa_c (me_s (me_l (me_r (List.mem_of_getElem? (i := 0) rfl)))) fa_n) (by decide +kernel)
set_option maxRecDepth 20000 in
theorem gX12_flow_X12_min : GoodIn wsX12_flow (va_wsS RX12 287 yX12_min wsX12_min) := goodIn_app (goodIn_sub (fa_c (me_s (me_l (me_l (List.mem_of_getElem? (i := 22) rfl)))) (fa_c (me_s (me_l (me_l (List.mem_of_getElem? (i := 23) rfl)))) (fa_c (me_s (me_l (me_l (List.mem_of_getElem? (i := 11) rfl)))) fa_n))) (by decide +kernel)) ggX12_flow_X12_min
theorem dX12_flow_229 : decode cX12_flow 229 = .ok (.invokestatic 287, 3) := z_dd_184 (by decide +kernel)
theorem dX12_flow_232 : decode cX12_flow 232 = .ok (.istore 5, 2) := z_dd_54 (by decide +kernel)
theorem dX12_flow_234 : decode cX12_flow 234 = .ok (.aload_n 0, 1) := z_dd_42 (by decide +kernel)
theorem dX12_flow_235 : decode cX12_flow 235 = .ok (.getfield 190, 3) := z_dd_180 (by decide +kernel)
theorem dX12_flow_238 : decode cX12_flow 238 = .ok (.iload 6, 2) := z_dd_21 (by decide +kernel)
theorem dX12_flow_240 : decode cX12_flow 240 = .ok (.iaload, 1) := z_dd_46 (by decide +kernel)
theorem dX12_flow_241 : decode cX12_flow 241 = .ok (.istore 6, 2) := z_dd_54 (by decide +kernel)
theorem dX12_flow_243 : decode cX12_flow 243 = .ok (.goto (-39), 3) := z_dd_167 (by decide +kernel)
theorem dX12_flow_336 : decode cX12_flow 336 = .ok (.iload_n 2, 1) := z_dd_28 (by decide +kernel)
theorem dX12_flow_337 : decode cX12_flow 337 = .ok (.ifCond .ne 7, 3) := z_dd_154 (by decide +kernel)
theorem dX12_flow_344 : decode cX12_flow 344 = .ok (.iload 4, 2) := z_dd_21 (by decide +kernel)
theorem dX12_flow_346 : decode cX12_flow 346 = .ok (.ireturn, 1) := z_dd_172 (by decide +kernel)
theorem dX12_flow_340 : decode cX12_flow 340 = .ok (.iload_n 3, 1) := z_dd_29 (by decide +kernel)
theorem dX12_flow_341 : decode cX12_flow 341 = .ok (.goto 5, 3) := z_dd_167 (by decide +kernel)
theorem dX12_flow_161 : decode cX12_flow 161 = .ok (.aload_n 0, 1) := z_dd_42 (by decide +kernel)
theorem dX12_flow_162 : decode cX12_flow 162 = .ok (.iconst 5, 1) := z_dd_8 (by decide +kernel)
theorem dX12_flow_163 : decode cX12_flow 163 = .ok (.iload_n 3, 1) := z_dd_29 (by decide +kernel)
theorem dX12_flow_164 : decode cX12_flow 164 = .ok (.iadd, 1) := z_dd_96 (by decide +kernel)
theorem dX12_flow_165 : decode cX12_flow 165 = .ok (.bipush 15, 2) := z_dd_16 (by decide +kernel)
theorem dX12_flow_167 : decode cX12_flow 167 = .ok (.aload_n 0, 1) := z_dd_42 (by decide +kernel)
theorem dX12_flow_168 : decode cX12_flow 168 = .ok (.getfield 175, 3) := z_dd_180 (by decide +kernel)
theorem dX12_flow_171 : decode cX12_flow 171 = .ok (.iload_n 3, 1) := z_dd_29 (by decide +kernel)
theorem dX12_flow_172 : decode cX12_flow 172 = .ok (.iaload, 1) := z_dd_46 (by decide +kernel)
theorem dX12_flow_173 : decode cX12_flow 173 = .ok (.iconst 0, 1) := z_dd_3 (by decide +kernel)
set_option maxRecDepth 20000 in
theorem ggX12_flow_X12_edge : GoodIn wsX12_flow wsX12_edge := goodIn_sub (fa_c (me_s (me_l (me_l (List.mem_of_getElem? (i := 16) rfl)))) (fa_a (fa_c (me_s (me_l (me_l (List.mem_of_getElem? (i := 1) rfl)))) (fa_c (me_s (me_l (me_l (List.mem_of_getElem? (i := 2) rfl)))) fa_n)) (fun w h => (me_s (me_r h))))) (by decide +kernel)
set_option maxRecDepth 20000 in
theorem gX12_flow_X12_edge : GoodIn wsX12_flow (wsV RX12 497 RX12 yX12_edge wsX12_edge) := goodIn_app (goodIn_sub (fa_c (me_s (me_l (me_l (List.mem_of_getElem? (i := 13) rfl)))) (fa_c (me_s (me_l (me_l (List.mem_of_getElem? (i := 14) rfl)))) (fa_c (me_s (me_l (me_l (List.mem_of_getElem? (i := 15) rfl)))) (fa_c (me_s (me_l (me_l (List.mem_of_getElem? (i := 11) rfl)))) fa_n)))) (by decide +kernel)) ggX12_flow_X12_edge
theorem dX12_flow_174 : decode cX12_flow 174 = .ok (.invokevirtual 497, 3) := z_dd_182 (by decide +kernel)
theorem dX12_flow_177 : decode cX12_flow 177 = .ok (.iinc 3 1, 3) := z_dd_132 (by decide +kernel)
theorem dX12_flow_180 : decode cX12_flow 180 = .ok (.goto (-27), 3) := z_dd_167 (by decide +kernel)
theorem dX12_flow_67 : decode cX12_flow 67 = .ok (.iload_n 3, 1) := z_dd_29 (by decide +kernel)
theorem dX12_flow_68 : decode cX12_flow 68 = .ok (.iload_n 1, 1) := z_dd_27 (by decide +kernel)
theorem dX12_flow_69 : decode cX12_flow 69 = .ok (.if_icmp .eq 18, 3) := z_dd_159 (by decide +kernel)
theorem dX12_flow_72 : decode cX12_flow 72 = .ok (.aload_n 0, 1) := z_dd_42 (by decide +kernel)
theorem dX12_flow_73 : decode cX12_flow 73 = .ok (.iconst 0, 1) := z_dd_3 (by decide +kernel)
theorem dX12_flow_74 : decode cX12_flow 74 = .ok (.iconst 1, 1) := z_dd_4 (by decide +kernel)
theorem dX12_flow_75 : decode cX12_flow 75 = .ok (.iload_n 3, 1) := z_dd_29 (by decide +kernel)
theorem dX12_flow_76 : decode cX12_flow 76 = .ok (.iadd, 1) := z_dd_96 (by decide +kernel)
theorem dX12_flow_77 : decode cX12_flow 77 = .ok (.aload_n 0, 1) := z_dd_42 (by decide +kernel)
theorem dX12_flow_78 : decode cX12_flow 78 = .ok (.getfield 172, 3) := z_dd_180 (by decide +kernel)
theorem dX12_flow_81 : decode cX12_flow 81 = .ok (.iload_n 3, 1) := z_dd_29 (by decide +kernel)
theorem dX12_flow_82 : decode cX12_flow 82 = .ok (.iaload, 1) := z_dd_46 (by decide +kernel)
theorem dX12_flow_83 : decode cX12_flow 83 = .ok (.iconst 0, 1) := z_dd_3 (by decide +kernel)
theorem dX12_flow_84 : decode cX12_flow 84 = .ok (.invokevirtual 497, 3) := z_dd_182 (by decide +kernel)
theorem dX12_flow_87 : decode cX12_flow 87 = .ok (.iconst 0, 1) := z_dd_3 (by decide +kernel)
theorem dX12_flow_88 : decode cX12_flow 88 = .ok (.istore 4, 2) := z_dd_54 (by decide +kernel)
theorem dX12_flow_90 : decode cX12_flow 90 = .ok (.iload 4, 2) := z_dd_21 (by decide +kernel)
theorem dX12_flow_92 : decode cX12_flow 92 = .ok (.aload_n 0, 1) := z_dd_42 (by decide +kernel)
theorem dX12_flow_93 : decode cX12_flow 93 = .ok (.getfield 461, 3) := z_dd_180 (by decide +kernel)
theorem dX12_flow_96 : decode cX12_flow 96 = .ok (.if_icmp .ge 49, 3) := z_dd_162 (by decide +kernel)
theorem dX12_flow_145 : decode cX12_flow 145 = .ok (.iinc 3 1, 3) := z_dd_132 (by decide +kernel)
theorem dX12_flow_148 : decode cX12_flow 148 = .ok (.goto (-89), 3) := z_dd_167 (by decide +kernel)
theorem dX12_flow_99 : decode cX12_flow 99 = .ok (.aload_n 0, 1) := z_dd_42 (by decide +kernel)
theorem dX12_flow_100 : decode cX12_flow 100 = .ok (.getfield 178, 3) := z_dd_180 (by decide +kernel)
theorem dX12_flow_103 : decode cX12_flow 103 = .ok (.bipush 10, 2) := z_dd_16 (by decide +kernel)
theorem dX12_flow_105 : decode cX12_flow 105 = .ok (.iload_n 3, 1) := z_dd_29 (by decide +kernel)
theorem dX12_flow_106 : decode cX12_flow 106 = .ok (.imul, 1) := z_dd_104 (by decide +kernel)
theorem dX12_flow_107 : decode cX12_flow 107 = .ok (.iload 4, 2) := z_dd_21 (by decide +kernel)
theorem dX12_flow_109 : decode cX12_flow 109 = .ok (.iadd, 1) := z_dd_96 (by decide +kernel)
theorem dX12_flow_110 : decode cX12_flow 110 = .ok (.iaload, 1) := z_dd_46 (by decide +kernel)
theorem dX12_flow_111 : decode cX12_flow 111 = .ok (.ifCond .le 28, 3) := z_dd_158 (by decide +kernel)
theorem dX12_flow_139 : decode cX12_flow 139 = .ok (.iinc 4 1, 3) := z_dd_132 (by decide +kernel)
theorem dX12_flow_142 : decode cX12_flow 142 = .ok (.goto (-52), 3) := z_dd_167 (by decide +kernel)
theorem dX12_flow_114 : decode cX12_flow 114 = .ok (.aload_n 0, 1) := z_dd_42 (by decide +kernel)
theorem dX12_flow_115 : decode cX12_flow 115 = .ok (.iconst 1, 1) := z_dd_4 (by decide +kernel)
theorem dX12_flow_116 : decode cX12_flow 116 = .ok (.iload_n 3, 1) := z_dd_29 (by decide +kernel)
theorem dX12_flow_117 : decode cX12_flow 117 = .ok (.iadd, 1) := z_dd_96 (by decide +kernel)
theorem dX12_flow_118 : decode cX12_flow 118 = .ok (.iconst 5, 1) := z_dd_8 (by decide +kernel)
theorem dX12_flow_119 : decode cX12_flow 119 = .ok (.iload 4, 2) := z_dd_21 (by decide +kernel)
theorem dX12_flow_121 : decode cX12_flow 121 = .ok (.iadd, 1) := z_dd_96 (by decide +kernel)
theorem dX12_flow_122 : decode cX12_flow 122 = .ok (.bipush 50, 2) := z_dd_16 (by decide +kernel)
theorem dX12_flow_124 : decode cX12_flow 124 = .ok (.aload_n 0, 1) := z_dd_42 (by decide +kernel)
theorem dX12_flow_125 : decode cX12_flow 125 = .ok (.getfield 178, 3) := z_dd_180 (by decide +kernel)
theorem dX12_flow_128 : decode cX12_flow 128 = .ok (.bipush 10, 2) := z_dd_16 (by decide +kernel)
theorem dX12_flow_130 : decode cX12_flow 130 = .ok (.iload_n 3, 1) := z_dd_29 (by decide +kernel)
theorem dX12_flow_131 : decode cX12_flow 131 = .ok (.imul, 1) := z_dd_104 (by decide +kernel)
theorem dX12_flow_132 : decode cX12_flow 132 = .ok (.iload 4, 2) := z_dd_21 (by decide +kernel)
theorem dX12_flow_134 : decode cX12_flow 134 = .ok (.iadd, 1) := z_dd_96 (by decide +kernel)
theorem dX12_flow_135 : decode cX12_flow 135 = .ok (.iaload, 1) := z_dd_46 (by decide +kernel)
theorem dX12_flow_136 : decode cX12_flow 136 = .ok (.invokevirtual 497, 3) := z_dd_182 (by decide +kernel)
theorem dX12_flow_37 : decode cX12_flow 37 = .ok (.aload_n 0, 1) := z_dd_42 (by decide +kernel)
theorem dX12_flow_38 : decode cX12_flow 38 = .ok (.getfield 181, 3) := z_dd_180 (by decide +kernel)
theorem dX12_flow_41 : decode cX12_flow 41 = .ok (.iload_n 3, 1) := z_dd_29 (by decide +kernel)
theorem dX12_flow_42 : decode cX12_flow 42 = .ok (.iconst 0, 1) := z_dd_3 (by decide +kernel)
theorem dX12_flow_43 : decode cX12_flow 43 = .ok (.iastore, 1) := z_dd_79 (by decide +kernel)
theorem dX12_flow_44 : decode cX12_flow 44 = .ok (.aload_n 0, 1) := z_dd_42 (by decide +kernel)
theorem dX12_flow_45 : decode cX12_flow 45 = .ok (.getfield 184, 3) := z_dd_180 (by decide +kernel)
theorem dX12_flow_48 : decode cX12_flow 48 = .ok (.iload_n 3, 1) := z_dd_29 (by decide +kernel)
theorem dX12_flow_49 : decode cX12_flow 49 = .ok (.iconst 0, 1) := z_dd_3 (by decide +kernel)
theorem dX12_flow_50 : decode cX12_flow 50 = .ok (.iastore, 1) := z_dd_79 (by decide +kernel)
theorem dX12_flow_51 : decode cX12_flow 51 = .ok (.iinc 3 1, 3) := z_dd_132 (by decide +kernel)
theorem dX12_flow_54 : decode cX12_flow 54 = .ok (.goto (-24), 3) := z_dd_167 (by decide +kernel)
theorem dX12_flow_26 : decode cX12_flow 26 = .ok (.iconst (-1), 1) := z_dd_2 (by decide +kernel)
theorem dX12_flow_27 : decode cX12_flow 27 = .ok (.ireturn, 1) := z_dd_172 (by decide +kernel)
theorem dX12_flow_5 : decode cX12_flow 5 = .ok (.iload_n 1, 1) := z_dd_27 (by decide +kernel)
theorem dX12_flow_6 : decode cX12_flow 6 = .ok (.ifCond .lt 20, 3) := z_dd_155 (by decide +kernel)
theorem dX12_flow_9 : decode cX12_flow 9 = .ok (.iload_n 1, 1) := z_dd_27 (by decide +kernel)
theorem dX12_flow_10 : decode cX12_flow 10 = .ok (.aload_n 0, 1) := z_dd_42 (by decide +kernel)
theorem dX12_flow_11 : decode cX12_flow 11 = .ok (.getfield 493, 3) := z_dd_180 (by decide +kernel)
theorem dX12_flow_14 : decode cX12_flow 14 = .ok (.if_icmp .ge 12, 3) := z_dd_162 (by decide +kernel)
theorem z_l256 : (256 : Int32).toInt = 256 := by decide
set_option maxHeartbeats 8000000 in
set_option maxRecDepth 100000 in
theorem sx_X12_min2 (l : Launch) (G : z_G) (ad : Nat → Nat) (I : z_I) (J : z_J) (a1 : Int32) (a2 : Int32) : z_M l yX12_min wsX12_min { frames := 1, cells := 0, slots := 0, locals := 12 } [.int a1, .int a2] G (shM, ad, I, J, PM ad) (fun r u1 => u1 = (shM, ad, I, J, PM ad) ∧ (r.toInt ≤ a1.toInt ∧ r.toInt ≤ a2.toInt ∧ (r.toInt = a1.toInt ∨ r.toInt = a2.toInt))) 0 0 := by
  intro sz
  refine z_headQ (cc := cX12_min) (maxL := 2) (ret := (some .int)) (by decide) rfl (Nat.le_of_ble_eq_true rfl) ?_
  intro p e s m below meth c0 ls hIn hK hsz hW hl
  obtain ⟨hx, hb, hr, hml, hown, hts, hlocks, hname⟩ := hIn
  subst hsz
  have hown : s.vm.findClass RX12 = some m.cls := hown
  have hA : ∀ q : Nat, s.heap.size ≤ q → z_A (shM, ad, I, J, PM ad) s.heap.size q := fun q h => Or.inr h
  generalize hAe : z_A (shM, ad, I, J, PM ad) s.heap.size = A at *
  have hS : va_S A s.heap s.heap [] := va_S.rf
  have hl : lv_has ls 2 [(0, .int a1), (1, .int a2)] := hl
  refine lv_iload_n hx hb dX12_min_0 rfl (lv_at hl 0 rfl) ?_
  refine lv_iload_n hx hb dX12_min_1 rfl (lv_at hl 1 rfl) ?_
  refine lv_icmp_ge (tgt := 9) hx hb dX12_min_2 (by decide) (fun c1 => ?_) (fun c1 => ?_)
  · have g2 := z_f_ge rfl rfl c1
    have b3 := Int32.toInt_lt a1
    have b4 := Int32.toInt_lt a2
    refine lv_iload_n hx hb dX12_min_9 rfl (lv_at hl 1 rfl) ?_
    exact z_iret hx hb hr hK hS (Nat.le_of_ble_eq_true rfl) (Nat.le_of_ble_eq_true rfl) hlocks dX12_min_10 (shM, ad, I, J, PM ad) hW ⟨rfl, ⟨by omega, by omega, by omega⟩⟩
  · have g5 := z_f_nge rfl rfl c1
    have b6 := Int32.toInt_lt a1
    have b7 := Int32.toInt_lt a2
    refine lv_iload_n hx hb dX12_min_5 rfl (lv_at hl 0 rfl) ?_
    refine lv_goto (tgt := 10) hx hb dX12_min_6 (by decide) ?_
    exact z_iret hx hb hr hK hS (Nat.le_of_ble_eq_true rfl) (Nat.le_of_ble_eq_true rfl) hlocks dX12_min_10 (shM, ad, I, J, PM ad) hW ⟨rfl, ⟨by omega, by omega, by omega⟩⟩
noncomputable def L_X12_flow : z_L := [(55, 999), (56, 999), (57, 999), (58, 999)]
theorem zj_X12_flow_X12 : ∀ w ∈ wsX120, w ∈ wsX12_flow := fun w h => (List.mem_cons_of_mem _ (List.mem_append_right _ h))
set_option maxHeartbeats 8000000 in
set_option maxRecDepth 100000 in
theorem sx_X12_flow (l : Launch) (G : z_G) (ad : Nat → Nat) (I : z_I) (J : z_J) (hmr : z_imr I) (hms : z_ims I) (hAld : z_rg 52 0 50 I) (hAwt : z_rg 53 0 20 I) (hArd : z_rg 54 0 999 I) (hArm : z_rg 55 0 100 I) (hAmi : z_rg 56 (-999) 999 I) (hAbk : z_rg 58 0 15 I) (hAfr : z_rg 57 (-300000) 1000000 I) (a1 : Int32) (a2 : Int32) : z_M l yX12_flow wsX12_flow { frames := 2, cells := 0, slots := 0, locals := 36 } [.ref (ad 0), .int a1, .int a2] G (shM, ad, I, J, PM ad) (fun r u1 => ∃ (I1 : z_I) (J1 : z_J), u1 = (shM, ad, I1, J1, PM ad) ∧ z_imr I1 ∧ z_ims I1 ∧ z_rg 52 0 50 I1 ∧ z_rg 53 0 20 I1 ∧ z_rg 54 0 999 I1 ∧ z_rg 55 0 100 I1 ∧ z_rg 56 (-999) 999 I1 ∧ z_rg 58 0 15 I1 ∧ z_rg 57 (-300000) 1000000 I1 ∧ z_fr L_X12_flow I1 I) 0 0 := by
  intro sz
  refine z_headQ (cc := cX12_flow) (maxL := 7) (ret := (some .int)) (by decide) rfl (Nat.le_of_ble_eq_true rfl) ?_
  intro p e s m below meth c0 ls hIn hK hsz hW hl
  obtain ⟨hx, hb, hr, hml, hown, hts, hlocks, hname⟩ := hIn
  subst hsz
  have hown : s.vm.findClass RX12 = some m.cls := hown
  have hA : ∀ q : Nat, s.heap.size ≤ q → z_A (shM, ad, I, J, PM ad) s.heap.size q := fun q h => Or.inr h
  generalize hAe : z_A (shM, ad, I, J, PM ad) s.heap.size = A at *
  have hS : va_S A s.heap s.heap [] := va_S.rf
  have hl : lv_has ls 7 [(0, .ref (ad 0)), (1, .int a1), (2, .int a2)] := hl
  refine lv_iload_n hx hb dX12_flow_0 rfl (lv_at hl 1 rfl) ?_
  refine lv_iconst (v := (-1)) hx hb dX12_flow_1 (by decide) ?_
  refine lv_icmp_eq (tgt := 17) hx hb dX12_flow_2 (by decide) (fun c1 => ?_) (fun c1 => ?_)
  · have g2 := z_f_eq rfl z_lm1 c1
    have b3 := Int32.toInt_lt a1
    refine lv_iload_n hx hb dX12_flow_17 rfl (lv_at hl 2 rfl) ?_
    refine lv_iconst (v := 0) hx hb dX12_flow_18 (by decide) ?_
    refine lv_iconst (v := 1) hx hb dX12_flow_19 (by decide) ?_
    refine z_ci hW hS hA (va_runS (As := [.int a2, .int 0, .int 1]) (rest := []) ⟨hx, hb, hml, hown, hts⟩ (sx_X12_within l G ad I J  a2 0 1 _) (va_cwS 3 hts gX12_flow_X12_within rfl rfl rfl hy_X12_within.2 ⟨Nat.le_of_ble_eq_true rfl, Nat.le_of_ble_eq_true rfl⟩) (z_preS hK hW) rfl rfl hl.1 rfl (lv_room (Nat.le_of_ble_eq_true rfl)) dX12_flow_20 ⟨Nat.le_of_ble_eq_true rfl, Nat.le_of_ble_eq_true rfl⟩) (fun r u1 H locs hp hW hS => ?_)
    obtain ⟨e9, hp⟩ := hp
    rw [e9] at hW
    rcases hp with ⟨rfl, h4, h5⟩ | rfl
    · have h4 := z_t_le z_l0 rfl h4
      have h5 := z_t_le rfl z_l1 h5
      refine lv_if_ne (tgt := 28) hx hb dX12_flow_23 (by decide) (fun c6 => ?_) (fun c6 => absurd c6 (by decide))
      refine lv_iconst (v := 0) hx hb dX12_flow_28 (by decide) ?_
      refine lv_istore_n (lv' := [(3, .int 0), (0, .ref (ad 0)), (1, .int a1), (2, .int a2)]) hx hb dX12_flow_29 rfl hl (by decide) rfl (fun ls hl => ?_)
      have lp7 : ∀ (f : Nat) (y8 : Int32) (I9 : z_I) (J10 : z_J) (H : Heap) (locs : List Loc) (ls : Array Slot), (2147483647 < y8.toInt + (f : Int)) → (0 ≤ y8.toInt) → (y8.toInt ≤ 256) → (z_imr I9) → (z_ims I9) → (z_rg 52 0 50 I9) → (z_rg 53 0 20 I9) → (z_rg 54 0 999 I9) → (z_rg 55 0 100 I9) → (z_rg 56 (-999) 999 I9) → (z_rg 58 0 15 I9) → (z_rg 57 (-300000) 1000000 I9) → (∀ j : Nat, (j : Int) < y8.toInt → I9 55 j = 0 ∧ I9 56 j = 0) → (z_fr L_X12_flow I9 I) → z_W G A (shM, ad, I9, J10, PM ad) H → va_S A s.heap H locs → lv_has ls 7 [(3, .int y8), (0, .ref (ad 0)), (1, .int a1), (2, .int a2)] → W p l e (headSpec wsX12_flow { frames := 2, cells := 0, slots := 0, locals := 36 }).room s m ([.ref (ad 0), .int a1, .int a2] : List Value).toArray below meth c0 H locs 0 0 (MQ below (va_Qi (fun (r : Int32) (u1 : z_U) => ∃ (I1 : z_I) (J1 : z_J), u1 = (shM, ad, I1, J1, PM ad) ∧ z_imr I1 ∧ z_ims I1 ∧ z_rg 52 0 50 I1 ∧ z_rg 53 0 20 I1 ∧ z_rg 54 0 999 I1 ∧ z_rg 55 0 100 I1 ∧ z_rg 56 (-999) 999 I1 ∧ z_rg 58 0 15 I1 ∧ z_rg 57 (-300000) 1000000 I1 ∧ z_fr L_X12_flow I1 I) (z_B G A) A) ([.ref (ad 0), .int a1, .int a2] : List Value).toArray s 0 0 A) (F0 m 30 ls []) := by
        intro f
        induction f with
        | zero => intro y8 I9 J10 H locs ls lp7m lp7l3 lp7u3 lp7mr lp7ms lp7Ald lp7Awt lp7Ard lp7Arm lp7Ami lp7Abk lp7Afr lp7Z lp7fr hW hS hl; exact absurd lp7m (by have := Int32.toInt_lt y8; have := Int32.le_toInt y8; omega)
        | succ f lp7ih =>
          intro y8 I9 J10 H locs ls lp7m lp7l3 lp7u3 lp7mr lp7ms lp7Ald lp7Awt lp7Ard lp7Arm lp7Ami lp7Abk lp7Afr lp7Z lp7fr hW hS hl
          refine lv_iload_n hx hb dX12_flow_30 rfl (lv_at hl 0 rfl) ?_
          refine lv_sipush (v := 256) hx hb dX12_flow_31 (by decide) ?_
          refine lv_icmp_ge (tgt := 57) hx hb dX12_flow_34 (by decide) (fun c11 => ?_) (fun c11 => ?_)
          · have g12 := z_f_ge rfl z_l256 c11
            refine lv_iconst (v := 0) hx hb dX12_flow_57 (by decide) ?_
            refine lv_istore_n (lv' := [(3, .int 0), (0, .ref (ad 0)), (1, .int a1), (2, .int a2)]) hx hb dX12_flow_58 rfl hl (by decide) rfl (fun ls hl => ?_)
            have lp13 : ∀ (f : Nat) (y14 : Int32) (I15 : z_I) (J16 : z_J) (H : Heap) (locs : List Loc) (ls : Array Slot), (2147483647 < y14.toInt + (f : Int)) → (0 ≤ y14.toInt) → (y14.toInt ≤ 4) → (z_imr I15) → (z_ims I15) → (z_rg 52 0 50 I15) → (z_rg 53 0 20 I15) → (z_rg 54 0 999 I15) → (z_rg 55 0 100 I15) → (z_rg 56 (-999) 999 I15) → (z_rg 58 0 15 I15) → (z_rg 57 (-300000) 1000000 I15) → (z_BL I15) → (z_fr L_X12_flow I15 I) → z_W G A (shM, ad, I15, J16, PM ad) H → va_S A s.heap H locs → lv_has ls 7 [(3, .int y14), (0, .ref (ad 0)), (1, .int a1), (2, .int a2)] → W p l e (headSpec wsX12_flow { frames := 2, cells := 0, slots := 0, locals := 36 }).room s m ([.ref (ad 0), .int a1, .int a2] : List Value).toArray below meth c0 H locs 0 0 (MQ below (va_Qi (fun (r : Int32) (u1 : z_U) => ∃ (I1 : z_I) (J1 : z_J), u1 = (shM, ad, I1, J1, PM ad) ∧ z_imr I1 ∧ z_ims I1 ∧ z_rg 52 0 50 I1 ∧ z_rg 53 0 20 I1 ∧ z_rg 54 0 999 I1 ∧ z_rg 55 0 100 I1 ∧ z_rg 56 (-999) 999 I1 ∧ z_rg 58 0 15 I1 ∧ z_rg 57 (-300000) 1000000 I1 ∧ z_fr L_X12_flow I1 I) (z_B G A) A) ([.ref (ad 0), .int a1, .int a2] : List Value).toArray s 0 0 A) (F0 m 59 ls []) := by
              intro f
              induction f with
              | zero => intro y14 I15 J16 H locs ls lp13m lp13l3 lp13u3 lp13mr lp13ms lp13Ald lp13Awt lp13Ard lp13Arm lp13Ami lp13Abk lp13Afr lp13L lp13fr hW hS hl; exact absurd lp13m (by have := Int32.toInt_lt y14; have := Int32.le_toInt y14; omega)
              | succ f lp13ih =>
                intro y14 I15 J16 H locs ls lp13m lp13l3 lp13u3 lp13mr lp13ms lp13Ald lp13Awt lp13Ard lp13Arm lp13Ami lp13Abk lp13Afr lp13L lp13fr hW hS hl
                refine lv_iload_n hx hb dX12_flow_59 rfl (lv_at hl 0 rfl) ?_
                refine lv_aload_n hx hb dX12_flow_60 rfl (lv_at hl 1 rfl) ?_
                have r17 : 0 ≤ (I15 0 75).toInt ∧ (I15 0 75).toInt ≤ 4 := lp13mr
                refine z_get (T := TX12) (N := 96) (ci := 12) (i := 0) (v := .int (I15 0 75)) hx hb hts zj_X12_flow_X12 hown hK hW rfl rfl 75 (by decide) (hts (.fieldLink RX12 493 "PetrolBoardModel" "ports" "I") (me_s (me_l (me_l (List.mem_of_getElem? (i := 0) rfl))))) (fun _ h => h) rfl dX12_flow_61 ?_
                refine lv_icmp_ge (tgt := 151) hx hb dX12_flow_64 (by decide) (fun c18 => ?_) (fun c18 => ?_)
                · have g19 := z_f_ge rfl rfl c18
                  refine lv_iconst (v := 0) hx hb dX12_flow_151 (by decide) ?_
                  refine lv_istore_n (lv' := [(3, .int 0), (0, .ref (ad 0)), (1, .int a1), (2, .int a2)]) hx hb dX12_flow_152 rfl hl (by decide) rfl (fun ls hl => ?_)
                  have lp20 : ∀ (f : Nat) (y21 : Int32) (I22 : z_I) (J23 : z_J) (H : Heap) (locs : List Loc) (ls : Array Slot), (2147483647 < y21.toInt + (f : Int)) → (0 ≤ y21.toInt) → (y21.toInt ≤ 10) → (z_imr I22) → (z_ims I22) → (z_rg 52 0 50 I22) → (z_rg 53 0 20 I22) → (z_rg 54 0 999 I22) → (z_rg 55 0 100 I22) → (z_rg 56 (-999) 999 I22) → (z_rg 58 0 15 I22) → (z_rg 57 (-300000) 1000000 I22) → (z_BL I22) → (z_fr L_X12_flow I22 I) → z_W G A (shM, ad, I22, J23, PM ad) H → va_S A s.heap H locs → lv_has ls 7 [(3, .int y21), (0, .ref (ad 0)), (1, .int a1), (2, .int a2)] → W p l e (headSpec wsX12_flow { frames := 2, cells := 0, slots := 0, locals := 36 }).room s m ([.ref (ad 0), .int a1, .int a2] : List Value).toArray below meth c0 H locs 0 0 (MQ below (va_Qi (fun (r : Int32) (u1 : z_U) => ∃ (I1 : z_I) (J1 : z_J), u1 = (shM, ad, I1, J1, PM ad) ∧ z_imr I1 ∧ z_ims I1 ∧ z_rg 52 0 50 I1 ∧ z_rg 53 0 20 I1 ∧ z_rg 54 0 999 I1 ∧ z_rg 55 0 100 I1 ∧ z_rg 56 (-999) 999 I1 ∧ z_rg 58 0 15 I1 ∧ z_rg 57 (-300000) 1000000 I1 ∧ z_fr L_X12_flow I1 I) (z_B G A) A) ([.ref (ad 0), .int a1, .int a2] : List Value).toArray s 0 0 A) (F0 m 153 ls []) := by
                    intro f
                    induction f with
                    | zero => intro y21 I22 J23 H locs ls lp20m lp20l3 lp20u3 lp20mr lp20ms lp20Ald lp20Awt lp20Ard lp20Arm lp20Ami lp20Abk lp20Afr lp20L lp20fr hW hS hl; exact absurd lp20m (by have := Int32.toInt_lt y21; have := Int32.le_toInt y21; omega)
                    | succ f lp20ih =>
                      intro y21 I22 J23 H locs ls lp20m lp20l3 lp20u3 lp20mr lp20ms lp20Ald lp20Awt lp20Ard lp20Arm lp20Ami lp20Abk lp20Afr lp20L lp20fr hW hS hl
                      refine lv_iload_n hx hb dX12_flow_153 rfl (lv_at hl 0 rfl) ?_
                      refine lv_aload_n hx hb dX12_flow_154 rfl (lv_at hl 1 rfl) ?_
                      have r24 : 0 ≤ (I22 0 54).toInt ∧ (I22 0 54).toInt ≤ 10 := lp20ms.1
                      refine z_get (T := TX12) (N := 96) (ci := 12) (i := 0) (v := .int (I22 0 54)) hx hb hts zj_X12_flow_X12 hown hK hW rfl rfl 54 (by decide) (hts (.fieldLink RX12 461 "PetrolBoardModel" "stations" "I") (me_s (me_l (me_l (List.mem_of_getElem? (i := 4) rfl))))) (fun _ h => h) rfl dX12_flow_155 ?_
                      refine lv_icmp_ge (tgt := 183) hx hb dX12_flow_158 (by decide) (fun c25 => ?_) (fun c25 => ?_)
                      · have g26 := z_f_ge rfl rfl c25
                        refine lv_iconst (v := 0) hx hb dX12_flow_183 (by decide) ?_
                        refine lv_istore_n (lv' := [(3, .int 0), (0, .ref (ad 0)), (1, .int a1), (2, .int a2)]) hx hb dX12_flow_184 rfl hl (by decide) rfl (fun ls hl => ?_)
                        refine lv_iconst (v := 0) hx hb dX12_flow_185 (by decide) ?_
                        refine lv_istore (lv' := [(4, .int 0), (3, .int 0), (0, .ref (ad 0)), (1, .int a1), (2, .int a2)]) hx hb dX12_flow_186 hl (by decide) rfl (fun ls hl => ?_)
                        have lp27 : ∀ (f : Nat) (y28 : Int32) (y29 : Int32) (I30 : z_I) (J31 : z_J) (H : Heap) (locs : List Loc) (ls : Array Slot), (z_Sm (z_RM I30) < f) → (z_imr I30) → (z_ims I30) → (z_rg 52 0 50 I30) → (z_rg 53 0 20 I30) → (z_rg 54 0 999 I30) → (z_rg 55 0 100 I30) → (z_rg 56 (-999) 999 I30) → (z_rg 58 0 15 I30) → (z_rg 57 (-300000) 1000000 I30) → (z_FP I30) → (z_fr L_X12_flow I30 I) → z_W G A (shM, ad, I30, J31, PM ad) H → va_S A s.heap H locs → lv_has ls 7 [(4, .int y28), (3, .int y29), (0, .ref (ad 0)), (1, .int a1), (2, .int a2)] → W p l e (headSpec wsX12_flow { frames := 2, cells := 0, slots := 0, locals := 36 }).room s m ([.ref (ad 0), .int a1, .int a2] : List Value).toArray below meth c0 H locs 0 0 (MQ below (va_Qi (fun (r : Int32) (u1 : z_U) => ∃ (I1 : z_I) (J1 : z_J), u1 = (shM, ad, I1, J1, PM ad) ∧ z_imr I1 ∧ z_ims I1 ∧ z_rg 52 0 50 I1 ∧ z_rg 53 0 20 I1 ∧ z_rg 54 0 999 I1 ∧ z_rg 55 0 100 I1 ∧ z_rg 56 (-999) 999 I1 ∧ z_rg 58 0 15 I1 ∧ z_rg 57 (-300000) 1000000 I1 ∧ z_fr L_X12_flow I1 I) (z_B G A) A) ([.ref (ad 0), .int a1, .int a2] : List Value).toArray s 0 0 A) (F0 m 188 ls []) := by
                          intro f
                          induction f with
                          | zero => intro y28 y29 I30 J31 H locs ls lp27m lp27mr lp27ms lp27Ald lp27Awt lp27Ard lp27Arm lp27Ami lp27Abk lp27Afr lp27P lp27fr hW hS hl; exact False.elim (by exact absurd lp27m (Nat.not_lt_zero _))
                          | succ f lp27ih =>
                            intro y28 y29 I30 J31 H locs ls lp27m lp27mr lp27ms lp27Ald lp27Awt lp27Ard lp27Arm lp27Ami lp27Abk lp27Afr lp27P lp27fr hW hS hl
                            refine lv_aload_n hx hb dX12_flow_188 rfl (lv_at hl 2 rfl) ?_
                            refine z_ci hW hS hA (va_runV (As := []) (rest := []) ⟨hx, hb, hml, hown, hts⟩ (sx_X12_finds l G ad I30 J31 lp27Arm lp27Ami lp27Abk lp27Afr lp27P _) (cwV 0 hts gX12_flow_X12_finds rfl rfl rfl hy_X12_finds ⟨Nat.le_of_ble_eq_true rfl, Nat.le_of_ble_eq_true rfl⟩) (z_preV (i := 0) hK hW rfl rfl) rfl rfl hl.1 rfl (lv_room (Nat.le_of_ble_eq_true rfl)) dX12_flow_189 ⟨Nat.le_of_ble_eq_true rfl, Nat.le_of_ble_eq_true rfl⟩) (fun r u1 H locs hp hW hS => ?_)
                            obtain ⟨I32, J34, e9, hI32Arm, hI32Ami, hI32Abk, hI32Afr, fI32, hp⟩ := hp
                            rw [e9] at hW
                            have f33 := z_fr_sub (L := L_X12_flow) lp27fr fI32 (by decide)
                            have k35 : 0 ≤ (I32 0 75).toInt ∧ (I32 0 75).toInt ≤ 4 := by rw [fI32 0 75 (by decide)]; exact (by show 0 ≤ (I30 0 75).toInt ∧ (I30 0 75).toInt ≤ 4; exact lp27mr)
                            have k36 : 0 ≤ (I32 0 54).toInt ∧ (I32 0 54).toInt ≤ 10 := by rw [fI32 0 54 (by decide)]; exact (by show 0 ≤ (I30 0 54).toInt ∧ (I30 0 54).toInt ≤ 10; exact lp27ms.1)
                            have k37 : 0 ≤ (I32 0 55).toInt ∧ (I32 0 55).toInt ≤ 300 := by rw [fI32 0 55 (by decide)]; exact (by show 0 ≤ (I30 0 55).toInt ∧ (I30 0 55).toInt ≤ 300; exact lp27ms.2)
                            rcases hp with ⟨rfl, hFD⟩ | rfl
                            · refine lv_if_eq (tgt := 336) hx hb dX12_flow_192 (by decide) (fun c38 => absurd c38 (by decide)) (fun c38 => ?_)
                              obtain ⟨pi, mm, hfd, hrm⟩ := hFD.2
                              refine lv_sipush (v := 1000) hx hb dX12_flow_195 (by decide) ?_
                              refine lv_istore (lv' := [(5, .int 1000), (4, .int y28), (3, .int y29), (0, .ref (ad 0)), (1, .int a1), (2, .int a2)]) hx hb dX12_flow_198 hl (by decide) rfl (fun ls hl => ?_)
                              refine lv_bipush (v := 15) hx hb dX12_flow_200 (by decide) ?_
                              refine lv_istore (lv' := [(6, .int 15), (5, .int 1000), (4, .int y28), (3, .int y29), (0, .ref (ad 0)), (1, .int a1), (2, .int a2)]) hx hb dX12_flow_202 hl (by decide) rfl (fun ls hl => ?_)
                              have lp39 : ∀ (f : Nat) (y40 : Int32) (y41 : Int32) (H : Heap) (locs : List Loc) (ls : Array Slot), (mm y40.toNatClampNeg < f) → (0 ≤ y40.toInt) → (y40.toInt ≤ 15) → (1 ≤ y41.toInt) → (y41.toInt ≤ 1000) → (y40.toNatClampNeg < 16 ∧ z_FM I32 y40.toNatClampNeg < 1000000) → (∀ x, z_oc (z_BM I32) 15 x → ¬ z_oc (z_BM I32) y40.toNatClampNeg x → y41.toInt ≤ z_RM I32 (z_BM I32 x) x) → z_W G A (shM, ad, I32, J34, PM ad) H → va_S A s.heap H locs → lv_has ls 7 [(6, .int y40), (5, .int y41), (4, .int y28), (3, .int y29), (0, .ref (ad 0)), (1, .int a1), (2, .int a2)] → W p l e (headSpec wsX12_flow { frames := 2, cells := 0, slots := 0, locals := 36 }).room s m ([.ref (ad 0), .int a1, .int a2] : List Value).toArray below meth c0 H locs 0 0 (MQ below (va_Qi (fun (r : Int32) (u1 : z_U) => ∃ (I1 : z_I) (J1 : z_J), u1 = (shM, ad, I1, J1, PM ad) ∧ z_imr I1 ∧ z_ims I1 ∧ z_rg 52 0 50 I1 ∧ z_rg 53 0 20 I1 ∧ z_rg 54 0 999 I1 ∧ z_rg 55 0 100 I1 ∧ z_rg 56 (-999) 999 I1 ∧ z_rg 58 0 15 I1 ∧ z_rg 57 (-300000) 1000000 I1 ∧ z_fr L_X12_flow I1 I) (z_B G A) A) ([.ref (ad 0), .int a1, .int a2] : List Value).toArray s 0 0 A) (F0 m 204 ls []) := by
                                intro f
                                induction f with
                                | zero => intro y40 y41 H locs ls lp39m lp39l6 lp39u6 lp39l5 lp39u5 lp39G lp39N hW hS hl; exact False.elim (by exact absurd lp39m (Nat.not_lt_zero _))
                                | succ f lp39ih =>
                                  intro y40 y41 H locs ls lp39m lp39l6 lp39u6 lp39l5 lp39u5 lp39G lp39N hW hS hl
                                  refine lv_iload hx hb dX12_flow_204 (lv_at hl 0 rfl) ?_
                                  refine lv_if_eq (tgt := 246) hx hb dX12_flow_206 (by decide) (fun c42 => ?_) (fun c42 => ?_)
                                  · have g43 := z_f_eq rfl z_l0 c42
                                    refine lv_bipush (v := 15) hx hb dX12_flow_246 (by decide) ?_
                                    refine lv_istore (lv' := [(6, .int 15), (5, .int y41), (4, .int y28), (3, .int y29), (0, .ref (ad 0)), (1, .int a1), (2, .int a2)]) hx hb dX12_flow_248 hl (by decide) rfl (fun ls hl => ?_)
                                    have lp44 : ∀ (f : Nat) (y45 : Int32) (I46 : z_I) (J47 : z_J) (H : Heap) (locs : List Loc) (ls : Array Slot), (mm y45.toNatClampNeg < f) → (0 ≤ y45.toInt) → (y45.toInt ≤ 15) → (z_imr I46) → (z_ims I46) → (z_rg 52 0 50 I46) → (z_rg 53 0 20 I46) → (z_rg 54 0 999 I46) → (z_rg 55 0 100 I46) → (z_rg 56 (-999) 999 I46) → (z_rg 58 0 15 I46) → (z_rg 57 (-300000) 1000000 I46) → ((∀ k, I46 58 k = I32 58 k) ∧ (∀ k, I46 57 k = I32 57 k) ∧ (∀ k, I46 56 k = I32 56 k)) → (y45.toNatClampNeg < 16 ∧ z_FM I32 y45.toNatClampNeg < 1000000) → (z_rm (z_RM I46) (z_CM I46) pi) → (∀ x, z_oc (z_BM I32) y45.toNatClampNeg x → y41.toInt ≤ z_RM I46 (z_BM I32 x) x) → (z_Sm (z_RM I46) ≤ z_Sm (z_RM I32) ∧ (y45.toNatClampNeg = 0 → z_Sm (z_RM I46) < z_Sm (z_RM I32))) → (z_fr L_X12_flow I46 I) → z_W G A (shM, ad, I46, J47, PM ad) H → va_S A s.heap H locs → lv_has ls 7 [(6, .int y45), (5, .int y41), (4, .int y28), (3, .int y29), (0, .ref (ad 0)), (1, .int a1), (2, .int a2)] → W p l e (headSpec wsX12_flow { frames := 2, cells := 0, slots := 0, locals := 36 }).room s m ([.ref (ad 0), .int a1, .int a2] : List Value).toArray below meth c0 H locs 0 0 (MQ below (va_Qi (fun (r : Int32) (u1 : z_U) => ∃ (I1 : z_I) (J1 : z_J), u1 = (shM, ad, I1, J1, PM ad) ∧ z_imr I1 ∧ z_ims I1 ∧ z_rg 52 0 50 I1 ∧ z_rg 53 0 20 I1 ∧ z_rg 54 0 999 I1 ∧ z_rg 55 0 100 I1 ∧ z_rg 56 (-999) 999 I1 ∧ z_rg 58 0 15 I1 ∧ z_rg 57 (-300000) 1000000 I1 ∧ z_fr L_X12_flow I1 I) (z_B G A) A) ([.ref (ad 0), .int a1, .int a2] : List Value).toArray s 0 0 A) (F0 m 250 ls []) := by
                                      intro f
                                      induction f with
                                      | zero => intro y45 I46 J47 H locs ls lp44m lp44l6 lp44u6 lp44mr lp44ms lp44Ald lp44Awt lp44Ard lp44Arm lp44Ami lp44Abk lp44Afr lp44K lp44G lp44A lp44N lp44S lp44fr hW hS hl; exact False.elim (by exact absurd lp44m (Nat.not_lt_zero _))
                                      | succ f lp44ih =>
                                        intro y45 I46 J47 H locs ls lp44m lp44l6 lp44u6 lp44mr lp44ms lp44Ald lp44Awt lp44Ard lp44Arm lp44Ami lp44Abk lp44Afr lp44K lp44G lp44A lp44N lp44S lp44fr hW hS hl
                                        refine lv_iload hx hb dX12_flow_250 (lv_at hl 0 rfl) ?_
                                        refine lv_if_eq (tgt := 313) hx hb dX12_flow_252 (by decide) (fun c48 => ?_) (fun c48 => ?_)
                                        · have g49 := z_f_eq rfl z_l0 c48
                                          refine lv_iload_n hx hb dX12_flow_313 rfl (lv_at hl 3 rfl) ?_
                                          refine lv_iload hx hb dX12_flow_314 (lv_at hl 1 rfl) ?_
                                          refine lv_iadd hx hb dX12_flow_316 ?_
                                          refine lv_topi (fun x50 ex50 => ?_)
                                          refine lv_istore_n (lv' := [(3, .int x50), (6, .int y45), (5, .int y41), (4, .int y28), (0, .ref (ad 0)), (1, .int a1), (2, .int a2)]) hx hb dX12_flow_317 rfl hl (by decide) rfl (fun ls hl => ?_)
                                          refine lv_iload hx hb dX12_flow_318 (lv_at hl 3 rfl) ?_
                                          refine lv_iload hx hb dX12_flow_320 (lv_at hl 2 rfl) ?_
                                          refine lv_aload_n hx hb dX12_flow_322 rfl (lv_at hl 4 rfl) ?_
                                          refine z_get (T := TX12) (N := 96) (ci := 12) (i := 0) (v := .ref (ad 57)) hx hb hts zj_X12_flow_X12 hown hK hW rfl rfl 81 (by decide) (hts (.fieldLink RX12 187 "PetrolBoardModel" "far" "[I") (me_s (me_l (me_l (List.mem_of_getElem? (i := 8) rfl))))) (fun _ h => h) rfl dX12_flow_323 ?_
                                          refine lv_bipush (v := 15) hx hb dX12_flow_326 (by decide) ?_
                                          refine z_iald (i := 57) hx hb hK hW rfl (z_inl (by decide)) dX12_flow_328 ?_
                                          refine lv_topi (fun x51 ex51 => ?_)
                                          have h52 : (-300000) ≤ x51.toInt ∧ x51.toInt ≤ 1000000 := by rw [ex51]; exact lp44Afr _
                                          refine lv_imul hx hb dX12_flow_329 ?_
                                          refine lv_topi (fun x53 ex53 => ?_)
                                          refine lv_iadd hx hb dX12_flow_330 ?_
                                          refine lv_topi (fun x54 ex54 => ?_)
                                          refine lv_istore (lv' := [(4, .int x54), (3, .int x50), (6, .int y45), (5, .int y41), (0, .ref (ad 0)), (1, .int a1), (2, .int a2)]) hx hb dX12_flow_331 hl (by decide) rfl (fun ls hl => ?_)
                                          refine lv_goto (tgt := 188) hx hb dX12_flow_333 (by decide) ?_
                                          exact lp27ih x54 x50 I46 J47 _ _ _ (by have q9 := lp44S.2 (by have := z_clt (x := y45) rfl (by omega); omega); have q8 : z_RM I32 = z_RM I30 := z_RM_c (fun k => fI32 55 k (z_wr_c (by decide))); rw [q8] at q9; exact Nat.lt_of_lt_of_le q9 (Nat.le_of_lt_succ lp27m)) (by show 0 ≤ (I46 0 75).toInt ∧ (I46 0 75).toInt ≤ 4; exact lp44mr) ⟨(by show 0 ≤ (I46 0 54).toInt ∧ (I46 0 54).toInt ≤ 10; exact lp44ms.1), (by show 0 ≤ (I46 0 55).toInt ∧ (I46 0 55).toInt ≤ 300; exact lp44ms.2)⟩ lp44Ald lp44Awt lp44Ard lp44Arm lp44Ami lp44Abk lp44Afr ⟨pi, lp44A⟩ lp44fr hW hS (lv_sub hl [0, 1, 4, 5, 6] rfl)
                                        · have g55 := z_f_ne rfl z_l0 c48
                                          have hV0 : y45.toNatClampNeg ≠ 0 := by have := z_clt (x := y45) rfl (by omega); omega
                                          obtain ⟨c1, c2, c3, c4, c5⟩ := hfd.2 y45.toNatClampNeg lp44G.1 hV0 lp44G.2
                                          refine lv_aload_n hx hb dX12_flow_255 rfl (lv_at hl 4 rfl) ?_
                                          refine z_get (T := TX12) (N := 96) (ci := 12) (i := 0) (v := .ref (ad 55)) hx hb hts zj_X12_flow_X12 hown hK hW rfl rfl 79 (by decide) (hts (.fieldLink RX12 181 "PetrolBoardModel" "room" "[I") (me_s (me_l (me_l (List.mem_of_getElem? (i := 1) rfl))))) (fun _ h => h) rfl dX12_flow_256 ?_
                                          refine lv_bipush (v := 16) hx hb dX12_flow_259 (by decide) ?_
                                          refine lv_aload_n hx hb dX12_flow_261 rfl (lv_at hl 4 rfl) ?_
                                          refine z_get (T := TX12) (N := 96) (ci := 12) (i := 0) (v := .ref (ad 58)) hx hb hts zj_X12_flow_X12 hown hK hW rfl rfl 82 (by decide) (hts (.fieldLink RX12 190 "PetrolBoardModel" "back" "[I") (me_s (me_l (me_l (List.mem_of_getElem? (i := 7) rfl))))) (fun _ h => h) rfl dX12_flow_262 ?_
                                          refine lv_iload hx hb dX12_flow_265 (lv_at hl 0 rfl) ?_
                                          refine z_iald (i := 58) hx hb hK hW rfl (z_ix rfl (by omega) (by omega)) dX12_flow_267 ?_
                                          refine lv_topi (fun x56 ex56 => ?_)
                                          have h57 : 0 ≤ x56.toInt ∧ x56.toInt ≤ 15 := by rw [ex56]; exact lp44Abk _
                                          have hbk : z_BM I32 y45.toNatClampNeg = x56.toNatClampNeg := by rw [ex56, lp44K.1]; rfl
                                          refine lv_imul hx hb dX12_flow_268 ?_
                                          refine lv_topi (fun x58 ex58 => ?_)
                                          have tx58 : x58.toInt = 16 * x56.toInt := z_tmul ex58 z_l16 rfl (by omega) (by omega)
                                          refine lv_iload hx hb dX12_flow_269 (lv_at hl 0 rfl) ?_
                                          refine lv_iadd hx hb dX12_flow_271 ?_
                                          refine lv_topi (fun x59 ex59 => ?_)
                                          have tx59 : x59.toInt = x58.toInt + y45.toInt := z_tadd ex59 rfl rfl (by omega) (by omega)
                                          refine lv_dup2_11 hx hb dX12_flow_272 rfl rfl ?_
                                          refine z_iald (i := 55) hx hb hK hW rfl (z_ix rfl (by omega) (by omega)) dX12_flow_273 ?_
                                          refine lv_topi (fun x60 ex60 => ?_)
                                          have h61 : 0 ≤ x60.toInt ∧ x60.toInt ≤ 100 := by rw [ex60]; exact lp44Arm _
                                          have hj1 : x59.toNatClampNeg = 16 * x56.toNatClampNeg + y45.toNatClampNeg := z_ixm (by omega) (by omega) (by omega)
                                          have hr1 : x60.toInt = z_RM I46 x56.toNatClampNeg y45.toNatClampNeg := by rw [ex60, hj1]; rfl
                                          have hn1 := lp44N y45.toNatClampNeg ((z_oc_s hV0).2 (Or.inl rfl))
                                          rw [hbk, ← hr1] at hn1
                                          have hbu : x56.toNatClampNeg < 16 := by rw [← hbk]; exact c1
                                          have hbv : x56.toNatClampNeg ≠ y45.toNatClampNeg := fun q => by rw [hbk, q] at c5; omega
                                          have hA2 := lp44A.2 x56.toNatClampNeg y45.toNatClampNeg (by rw [← hbk]; exact c1) lp44G.1
                                          refine lv_iload hx hb dX12_flow_274 (lv_at hl 1 rfl) ?_
                                          refine lv_isub hx hb dX12_flow_276 ?_
                                          refine lv_topi (fun x62 ex62 => ?_)
                                          have tx62 : x62.toInt = x60.toInt - y41.toInt := z_tsub ex62 rfl rfl (by omega) (by omega)
                                          refine z_iast (i := 55) hx hb hK hW hS rfl (z_ix rfl (by omega) (by omega)) dX12_flow_277 (fun H locs hz1 hW hS => ?_)
                                          obtain ⟨I63, eI63⟩ : ∃ K : z_I, K = z_up I46 55 x59.toNatClampNeg x62 := ⟨_, rfl⟩
                                          rw [← eI63] at hW
                                          have f64 := z_fr_a lp44fr (show z_wa L_X12_flow 55 = true by decide) eI63
                                          have a65 := z_rg_n lp44Ald (by decide) eI63
                                          have a66 := z_rg_n lp44Awt (by decide) eI63
                                          have a67 := z_rg_n lp44Ard (by decide) eI63
                                          have a68 := z_rg_a lp44Arm (by omega) eI63
                                          have a69 := z_rg_n lp44Ami (by decide) eI63
                                          have a70 := z_rg_n lp44Abk (by decide) eI63
                                          have a71 := z_rg_n lp44Afr (by decide) eI63
                                          refine lv_aload_n hx hb dX12_flow_278 rfl (lv_at hl 4 rfl) ?_
                                          refine z_get (T := TX12) (N := 96) (ci := 12) (i := 0) (v := .ref (ad 55)) hx hb hts zj_X12_flow_X12 hown hK hW rfl rfl 79 (by decide) (hts (.fieldLink RX12 181 "PetrolBoardModel" "room" "[I") (me_s (me_l (me_l (List.mem_of_getElem? (i := 1) rfl))))) (fun _ h => h) rfl dX12_flow_279 ?_
                                          refine lv_bipush (v := 16) hx hb dX12_flow_282 (by decide) ?_
                                          refine lv_iload hx hb dX12_flow_284 (lv_at hl 0 rfl) ?_
                                          refine lv_imul hx hb dX12_flow_286 ?_
                                          refine lv_topi (fun x72 ex72 => ?_)
                                          have tx72 : x72.toInt = 16 * y45.toInt := z_tmul ex72 z_l16 rfl (by omega) (by omega)
                                          refine lv_aload_n hx hb dX12_flow_287 rfl (lv_at hl 4 rfl) ?_
                                          refine z_get (T := TX12) (N := 96) (ci := 12) (i := 0) (v := .ref (ad 58)) hx hb hts zj_X12_flow_X12 hown hK hW rfl rfl 82 (by decide) (hts (.fieldLink RX12 190 "PetrolBoardModel" "back" "[I") (me_s (me_l (me_l (List.mem_of_getElem? (i := 7) rfl))))) (fun _ h => h) rfl dX12_flow_288 ?_
                                          refine lv_iload hx hb dX12_flow_291 (lv_at hl 0 rfl) ?_
                                          refine z_iald (i := 58) hx hb hK hW rfl (z_ix rfl (by omega) (by omega)) dX12_flow_293 ?_
                                          refine z_topi (v := x56) (by rw [eI63, z_up_n (by decide)]; exact ex56.symm) ?_
                                          refine lv_iadd hx hb dX12_flow_294 ?_
                                          refine lv_topi (fun x73 ex73 => ?_)
                                          have tx73 : x73.toInt = x72.toInt + x56.toInt := z_tadd ex73 rfl rfl (by omega) (by omega)
                                          refine lv_dup2_11 hx hb dX12_flow_295 rfl rfl ?_
                                          refine z_iald (i := 55) hx hb hK hW rfl (z_ix rfl (by omega) (by omega)) dX12_flow_296 ?_
                                          refine lv_topi (fun x74 ex74 => ?_)
                                          have h75 : 0 ≤ x74.toInt ∧ x74.toInt ≤ 100 := by rw [ex74]; exact a68 _
                                          have hj2 : x73.toNatClampNeg = 16 * y45.toNatClampNeg + x56.toNatClampNeg := z_ixm (by omega) (by omega) (by omega)
                                          have hr2 : x74.toInt = z_RM I46 y45.toNatClampNeg x56.toNatClampNeg := by rw [ex74, eI63, z_up_k (by rw [hj1, hj2]; omega), hj2]; rfl
                                          refine lv_iload hx hb dX12_flow_297 (lv_at hl 1 rfl) ?_
                                          refine lv_iadd hx hb dX12_flow_299 ?_
                                          refine lv_topi (fun x76 ex76 => ?_)
                                          have tx76 : x76.toInt = x74.toInt + y41.toInt := z_tadd ex76 rfl rfl (by omega) (by omega)
                                          refine z_iast (i := 55) hx hb hK hW hS rfl (z_ix rfl (by omega) (by omega)) dX12_flow_300 (fun H locs hz1 hW hS => ?_)
                                          obtain ⟨I77, eI77⟩ : ∃ K : z_I, K = z_up I63 55 x73.toNatClampNeg x76 := ⟨_, rfl⟩
                                          rw [← eI77] at hW
                                          have f78 := z_fr_a f64 (show z_wa L_X12_flow 55 = true by decide) eI77
                                          have a79 := z_rg_n a65 (by decide) eI77
                                          have a80 := z_rg_n a66 (by decide) eI77
                                          have a81 := z_rg_n a67 (by decide) eI77
                                          have a82 := z_rg_a a68 (by omega) eI77
                                          have a83 := z_rg_n a69 (by decide) eI77
                                          have a84 := z_rg_n a70 (by decide) eI77
                                          have a85 := z_rg_n a71 (by decide) eI77
                                          have hau := z_augm (n := y41.toInt) eI63 eI77 hj1 hj2 hr1 hr2 (by omega) (by omega) hbu lp44G.1 hbv
                                          have hcc : z_CM I46 x56.toNatClampNeg y45.toNatClampNeg + pi x56.toNatClampNeg - pi y45.toNatClampNeg = 0 := by rw [z_CM_c lp44K.2.2, ← hbk]; exact c4
                                          have hag := z_aug lp44A hbu lp44G.1 hV0 hbv hcc (by omega) (by rw [← hr1]; exact hn1) hau.1 hau.2.1 hau.2.2
                                          refine lv_aload_n hx hb dX12_flow_301 rfl (lv_at hl 4 rfl) ?_
                                          refine z_get (T := TX12) (N := 96) (ci := 12) (i := 0) (v := .ref (ad 58)) hx hb hts zj_X12_flow_X12 hown hK hW rfl rfl 82 (by decide) (hts (.fieldLink RX12 190 "PetrolBoardModel" "back" "[I") (me_s (me_l (me_l (List.mem_of_getElem? (i := 7) rfl))))) (fun _ h => h) rfl dX12_flow_302 ?_
                                          refine lv_iload hx hb dX12_flow_305 (lv_at hl 0 rfl) ?_
                                          refine z_iald (i := 58) hx hb hK hW rfl (z_ix rfl (by omega) (by omega)) dX12_flow_307 ?_
                                          refine z_topi (v := x56) (by rw [eI77, z_up_n (by decide), eI63, z_up_n (by decide)]; exact ex56.symm) ?_
                                          refine lv_istore (lv' := [(6, .int x56), (5, .int y41), (4, .int y28), (3, .int y29), (0, .ref (ad 0)), (1, .int a1), (2, .int a2)]) hx hb dX12_flow_308 hl (by decide) rfl (fun ls hl => ?_)
                                          refine lv_goto (tgt := 250) hx hb dX12_flow_310 (by decide) ?_
                                          exact lp44ih x56 I77 J47 _ _ _ (by rw [← hbk]; omega) (by omega) (by omega) (by show 0 ≤ (I77 0 75).toInt ∧ (I77 0 75).toInt ≤ 4; rw [eI77, z_up_n (by decide), eI63, z_up_n (by decide)]; exact lp44mr) ⟨(by show 0 ≤ (I77 0 54).toInt ∧ (I77 0 54).toInt ≤ 10; rw [eI77, z_up_n (by decide), eI63, z_up_n (by decide)]; exact lp44ms.1), (by show 0 ≤ (I77 0 55).toInt ∧ (I77 0 55).toInt ≤ 300; rw [eI77, z_up_n (by decide), eI63, z_up_n (by decide)]; exact lp44ms.2)⟩ a79 a80 a81 a82 a83 a84 a85 ⟨fun k => by rw [eI77, z_up_n (by decide), eI63, z_up_n (by decide)]; exact lp44K.1 k, fun k => by rw [eI77, z_up_n (by decide), eI63, z_up_n (by decide)]; exact lp44K.2.1 k, fun k => by rw [eI77, z_up_n (by decide), eI63, z_up_n (by decide)]; exact lp44K.2.2 k⟩ ⟨by rw [← hbk]; exact c1, by rw [← hbk]; exact c2⟩ (by rw [show z_CM I77 = z_CM I46 from z_CM_c (fun k => by rw [eI77, z_up_n (by decide), eI63, z_up_n (by decide)])]; exact hag.1) (fun x hx => by obtain ⟨k9, hk1, hk2⟩ := (show z_oc (z_BM I32) (z_BM I32 y45.toNatClampNeg) x from by rw [hbk]; exact hx); have hx9 := z_oc_m hfd k9 _ x c1 c2 hk1 hk2; have hxb := hfd.2 x hx9.1 hx9.2.2.1 hx9.2.1; have hxn := lp44N x ((z_oc_s hV0).2 (Or.inr ⟨k9, hk1, hk2⟩)); have hxv : x ≠ y45.toNatClampNeg := (fun q => by rw [q] at hx9; omega); by_cases q9 : z_BM I32 x = y45.toNatClampNeg ∧ x = x56.toNatClampNeg; (· (rw [q9.1, q9.2, hau.2.1]; rw [q9.1, q9.2] at hxn; omega)); (· (rw [hau.2.2 _ _ hxb.1 hx9.1 (fun q => hxv q.2) q9]; exact hxn))) ⟨Nat.le_trans hag.2.1 lp44S.1, fun q => Nat.lt_of_lt_of_le (hag.2.2 q) lp44S.1⟩ f78 hW hS (lv_sub hl [0, 1, 2, 3, 4, 5, 6] rfl)
                                    exact lp44 (mm 15 + 1) (15) I32 J34 _ _ _ (by rw [z_n15]; exact Nat.lt_succ_self _) (by rw [z_l15]; omega) (by rw [z_l15]; omega) (by show 0 ≤ (I32 0 75).toInt ∧ (I32 0 75).toInt ≤ 4; exact k35) ⟨(by show 0 ≤ (I32 0 54).toInt ∧ (I32 0 54).toInt ≤ 10; exact k36), (by show 0 ≤ (I32 0 55).toInt ∧ (I32 0 55).toInt ≤ 300; exact k37)⟩ (z_rg_fr lp27Ald fI32 (by decide)) (z_rg_fr lp27Awt fI32 (by decide)) (z_rg_fr lp27Ard fI32 (by decide)) hI32Arm hI32Ami hI32Abk hI32Afr ⟨fun k => rfl, fun k => rfl, fun k => rfl⟩ ⟨by decide, by rw [z_n15]; exact hFD.1⟩ hrm (fun x hx => by refine lp39N x (by rw [z_n15] at hx; exact hx) (by rw [show y40.toNatClampNeg = 0 from by have := z_clt (x := y40) rfl (by omega); omega]; exact z_oc_0)) ⟨Nat.le_refl _, fun q => absurd q (by decide)⟩ f33 hW hS (lv_sub hl [0, 1, 2, 3, 4, 5, 6] rfl)
                                  · have g86 := z_f_ne rfl z_l0 c42
                                    have hV0 : y40.toNatClampNeg ≠ 0 := by have := z_clt (x := y40) rfl (by omega); omega
                                    obtain ⟨c1, c2, c3, c4, c5⟩ := hfd.2 y40.toNatClampNeg lp39G.1 hV0 lp39G.2
                                    refine lv_iload hx hb dX12_flow_209 (lv_at hl 1 rfl) ?_
                                    refine lv_aload_n hx hb dX12_flow_211 rfl (lv_at hl 4 rfl) ?_
                                    refine z_get (T := TX12) (N := 96) (ci := 12) (i := 0) (v := .ref (ad 55)) hx hb hts zj_X12_flow_X12 hown hK hW rfl rfl 79 (by decide) (hts (.fieldLink RX12 181 "PetrolBoardModel" "room" "[I") (me_s (me_l (me_l (List.mem_of_getElem? (i := 1) rfl))))) (fun _ h => h) rfl dX12_flow_212 ?_
                                    refine lv_bipush (v := 16) hx hb dX12_flow_215 (by decide) ?_
                                    refine lv_aload_n hx hb dX12_flow_217 rfl (lv_at hl 4 rfl) ?_
                                    refine z_get (T := TX12) (N := 96) (ci := 12) (i := 0) (v := .ref (ad 58)) hx hb hts zj_X12_flow_X12 hown hK hW rfl rfl 82 (by decide) (hts (.fieldLink RX12 190 "PetrolBoardModel" "back" "[I") (me_s (me_l (me_l (List.mem_of_getElem? (i := 7) rfl))))) (fun _ h => h) rfl dX12_flow_218 ?_
                                    refine lv_iload hx hb dX12_flow_221 (lv_at hl 0 rfl) ?_
                                    refine z_iald (i := 58) hx hb hK hW rfl (z_ix rfl (by omega) (by omega)) dX12_flow_223 ?_
                                    refine lv_topi (fun x87 ex87 => ?_)
                                    have h88 : 0 ≤ x87.toInt ∧ x87.toInt ≤ 15 := by rw [ex87]; exact hI32Abk _
                                    have hbk : z_BM I32 y40.toNatClampNeg = x87.toNatClampNeg := by rw [ex87]; rfl
                                    refine lv_imul hx hb dX12_flow_224 ?_
                                    refine lv_topi (fun x89 ex89 => ?_)
                                    have tx89 : x89.toInt = 16 * x87.toInt := z_tmul ex89 z_l16 rfl (by omega) (by omega)
                                    refine lv_iload hx hb dX12_flow_225 (lv_at hl 0 rfl) ?_
                                    refine lv_iadd hx hb dX12_flow_227 ?_
                                    refine lv_topi (fun x90 ex90 => ?_)
                                    have tx90 : x90.toInt = x89.toInt + y40.toInt := z_tadd ex90 rfl rfl (by omega) (by omega)
                                    refine z_iald (i := 55) hx hb hK hW rfl (z_ix rfl (by omega) (by omega)) dX12_flow_228 ?_
                                    refine lv_topi (fun x91 ex91 => ?_)
                                    have h92 : 0 ≤ x91.toInt ∧ x91.toInt ≤ 100 := by rw [ex91]; exact hI32Arm _
                                    have hr : x91.toInt = z_RM I32 x87.toNatClampNeg y40.toNatClampNeg := by rw [ex91, z_ixm (a := x87) (b := y40) (by omega) (by omega) (by omega)]; rfl
                                    rw [← hbk] at hr
                                    refine z_ci hW hS hA (va_runS (As := [.int y41, .int x91]) (rest := []) ⟨hx, hb, hml, hown, hts⟩ (sx_X12_min2 l G ad I32 J34  y41 x91 _) (va_cwS 2 hts gX12_flow_X12_min rfl rfl rfl hy_X12_min.2 ⟨Nat.le_of_ble_eq_true rfl, Nat.le_of_ble_eq_true rfl⟩) (z_preS hK hW) rfl rfl hl.1 rfl (lv_room (Nat.le_of_ble_eq_true rfl)) dX12_flow_229 ⟨Nat.le_of_ble_eq_true rfl, Nat.le_of_ble_eq_true rfl⟩) (fun r u1 H locs hp hW hS => ?_)
                                    obtain ⟨e9, hp⟩ := hp
                                    rw [e9] at hW
                                    refine lv_topi (fun x93 ex93 => ?_)
                                    rw [← ex93] at hp
                                    have h94 := hp
                                    refine lv_istore (lv' := [(5, .int x93), (6, .int y40), (4, .int y28), (3, .int y29), (0, .ref (ad 0)), (1, .int a1), (2, .int a2)]) hx hb dX12_flow_232 hl (by decide) rfl (fun ls hl => ?_)
                                    refine lv_aload_n hx hb dX12_flow_234 rfl (lv_at hl 4 rfl) ?_
                                    refine z_get (T := TX12) (N := 96) (ci := 12) (i := 0) (v := .ref (ad 58)) hx hb hts zj_X12_flow_X12 hown hK hW rfl rfl 82 (by decide) (hts (.fieldLink RX12 190 "PetrolBoardModel" "back" "[I") (me_s (me_l (me_l (List.mem_of_getElem? (i := 7) rfl))))) (fun _ h => h) rfl dX12_flow_235 ?_
                                    refine lv_iload hx hb dX12_flow_238 (lv_at hl 1 rfl) ?_
                                    refine z_iald (i := 58) hx hb hK hW rfl (z_ix rfl (by omega) (by omega)) dX12_flow_240 ?_
                                    refine z_topi (v := x87) ex87.symm ?_
                                    refine lv_istore (lv' := [(6, .int x87), (5, .int x93), (4, .int y28), (3, .int y29), (0, .ref (ad 0)), (1, .int a1), (2, .int a2)]) hx hb dX12_flow_241 hl (by decide) rfl (fun ls hl => ?_)
                                    refine lv_goto (tgt := 204) hx hb dX12_flow_243 (by decide) ?_
                                    exact lp39ih x87 x93 _ _ _ (by rw [← hbk]; omega) (by omega) (by omega) (by omega) (by omega) ⟨by rw [← hbk]; exact c1, by rw [← hbk]; exact c2⟩ (fun x hx hn => by by_cases q9 : x = y40.toNatClampNeg; (· (rw [q9, ← hr]; omega)); (· (have h9 := lp39N x hx (fun q => hn (by rw [← hbk]; exact ((z_oc_s hV0).1 q).resolve_left q9)); omega))) hW hS (lv_sub hl [0, 1, 2, 3, 4, 5, 6] rfl)
                              exact lp39 (mm 15 + 1) (15) (1000) _ _ _ (by rw [z_n15]; exact Nat.lt_succ_self _) (by rw [z_l15]; omega) (by rw [z_l15]; omega) (by rw [z_l1000]; omega) (by rw [z_l1000]; omega) ⟨by decide, by rw [z_n15]; exact hFD.1⟩ (fun x hx hn => absurd (by rw [z_n15]; exact hx) hn) hW hS (lv_sub hl [0, 1, 2, 3, 4, 5, 6] rfl)
                            · refine lv_if_eq (tgt := 336) hx hb dX12_flow_192 (by decide) (fun c95 => ?_) (fun c95 => absurd (by decide) c95)
                              refine lv_iload_n hx hb dX12_flow_336 rfl (lv_at hl 4 rfl) ?_
                              refine lv_if_ne (tgt := 344) hx hb dX12_flow_337 (by decide) (fun c96 => ?_) (fun c96 => ?_)
                              · have g97 := z_f_ne rfl z_l0 c96
                                refine lv_iload hx hb dX12_flow_344 (lv_at hl 0 rfl) ?_
                                exact z_iret hx hb hr hK hS (Nat.le_of_ble_eq_true rfl) (Nat.le_of_ble_eq_true rfl) hlocks dX12_flow_346 (shM, ad, I32, J34, PM ad) hW ⟨I32, J34, rfl, (by show 0 ≤ (I32 0 75).toInt ∧ (I32 0 75).toInt ≤ 4; exact k35), ⟨(by show 0 ≤ (I32 0 54).toInt ∧ (I32 0 54).toInt ≤ 10; exact k36), (by show 0 ≤ (I32 0 55).toInt ∧ (I32 0 55).toInt ≤ 300; exact k37)⟩, (z_rg_fr lp27Ald fI32 (by decide)), (z_rg_fr lp27Awt fI32 (by decide)), (z_rg_fr lp27Ard fI32 (by decide)), hI32Arm, hI32Ami, hI32Abk, hI32Afr, f33⟩
                              · have g98 := z_f_eq rfl z_l0 c96
                                refine lv_iload_n hx hb dX12_flow_340 rfl (lv_at hl 1 rfl) ?_
                                refine lv_goto (tgt := 346) hx hb dX12_flow_341 (by decide) ?_
                                exact z_iret hx hb hr hK hS (Nat.le_of_ble_eq_true rfl) (Nat.le_of_ble_eq_true rfl) hlocks dX12_flow_346 (shM, ad, I32, J34, PM ad) hW ⟨I32, J34, rfl, (by show 0 ≤ (I32 0 75).toInt ∧ (I32 0 75).toInt ≤ 4; exact k35), ⟨(by show 0 ≤ (I32 0 54).toInt ∧ (I32 0 54).toInt ≤ 10; exact k36), (by show 0 ≤ (I32 0 55).toInt ∧ (I32 0 55).toInt ≤ 300; exact k37)⟩, (z_rg_fr lp27Ald fI32 (by decide)), (z_rg_fr lp27Awt fI32 (by decide)), (z_rg_fr lp27Ard fI32 (by decide)), hI32Arm, hI32Ami, hI32Abk, hI32Afr, f33⟩
                        exact lp27 (z_Sm (z_RM I22) + 1) (0) (0) I22 J23 _ _ _ (Nat.lt_succ_self _) (by show 0 ≤ (I22 0 75).toInt ∧ (I22 0 75).toInt ≤ 4; exact lp20mr) ⟨(by show 0 ≤ (I22 0 54).toInt ∧ (I22 0 54).toInt ≤ 10; exact lp20ms.1), (by show 0 ≤ (I22 0 55).toInt ∧ (I22 0 55).toInt ≤ 300; exact lp20ms.2)⟩ lp20Ald lp20Awt lp20Ard lp20Arm lp20Ami lp20Abk lp20Afr (z_BL_FP lp20L) lp20fr hW hS (lv_sub hl [0, 1, 2, 3, 4] rfl)
                      · have g99 := z_f_nge rfl rfl c25
                        refine lv_aload_n hx hb dX12_flow_161 rfl (lv_at hl 1 rfl) ?_
                        refine lv_iconst (v := 5) hx hb dX12_flow_162 (by decide) ?_
                        refine lv_iload_n hx hb dX12_flow_163 rfl (lv_at hl 0 rfl) ?_
                        refine lv_iadd hx hb dX12_flow_164 ?_
                        refine lv_topi (fun x100 ex100 => ?_)
                        have tx100 : x100.toInt = 5 + y21.toInt := z_tadd ex100 z_l5 rfl (by omega) (by omega)
                        refine lv_bipush (v := 15) hx hb dX12_flow_165 (by decide) ?_
                        refine lv_aload_n hx hb dX12_flow_167 rfl (lv_at hl 1 rfl) ?_
                        refine z_get (T := TX12) (N := 96) (ci := 12) (i := 0) (v := .ref (ad 53)) hx hb hts zj_X12_flow_X12 hown hK hW rfl rfl 77 (by decide) (hts (.fieldLink RX12 175 "PetrolBoardModel" "wantOf" "[I") (me_s (me_l (me_l (List.mem_of_getElem? (i := 6) rfl))))) (fun _ h => h) rfl dX12_flow_168 ?_
                        refine lv_iload_n hx hb dX12_flow_171 rfl (lv_at hl 0 rfl) ?_
                        refine z_iald (i := 53) hx hb hK hW rfl (z_ix rfl (by omega) (by omega)) dX12_flow_172 ?_
                        refine lv_topi (fun x101 ex101 => ?_)
                        have h102 : 0 ≤ x101.toInt ∧ x101.toInt ≤ 20 := by rw [ex101]; exact lp20Awt _
                        refine lv_iconst (v := 0) hx hb dX12_flow_173 (by decide) ?_
                        refine z_cv hW hS hA (va_runV (As := [.int x100, .int 15, .int x101, .int 0]) (rest := []) ⟨hx, hb, hml, hown, hts⟩ (sx_X12_edge l G ad I22 J23 lp20Arm lp20Ami x100 15 x101 0 (by have := z_l15; have := z_l0; omega) (by have := z_l15; have := z_l0; omega) (by have := z_l15; have := z_l0; omega) (by have := z_l15; have := z_l0; omega) lp20L _) (cwV 4 hts gX12_flow_X12_edge rfl rfl rfl hy_X12_edge ⟨Nat.le_of_ble_eq_true rfl, Nat.le_of_ble_eq_true rfl⟩) (z_preV (i := 0) hK hW rfl rfl) rfl rfl hl.1 rfl (lv_room (Nat.le_of_ble_eq_true rfl)) dX12_flow_174 ⟨Nat.le_of_ble_eq_true rfl, Nat.le_of_ble_eq_true rfl⟩) (fun u1 H locs hp hW hS => ?_)
                        obtain ⟨I103, J105, e9, hI103Arm, hI103Ami, fI103, hp⟩ := hp
                        rw [e9] at hW
                        have f104 := z_fr_sub (L := L_X12_flow) lp20fr fI103 (by decide)
                        have k106 : 0 ≤ (I103 0 75).toInt ∧ (I103 0 75).toInt ≤ 4 := by rw [fI103 0 75 (by decide)]; exact (by show 0 ≤ (I22 0 75).toInt ∧ (I22 0 75).toInt ≤ 4; exact lp20mr)
                        have k107 : 0 ≤ (I103 0 54).toInt ∧ (I103 0 54).toInt ≤ 10 := by rw [fI103 0 54 (by decide)]; exact (by show 0 ≤ (I22 0 54).toInt ∧ (I22 0 54).toInt ≤ 10; exact lp20ms.1)
                        have k108 : 0 ≤ (I103 0 55).toInt ∧ (I103 0 55).toInt ≤ 300 := by rw [fI103 0 55 (by decide)]; exact (by show 0 ≤ (I22 0 55).toInt ∧ (I22 0 55).toInt ≤ 300; exact lp20ms.2)
                        have h109 := hp
                        obtain ⟨x110, ex110⟩ : ∃ y : Int32, y = y21 + 1 := ⟨_, rfl⟩
                        have tx110 : x110.toInt = y21.toInt + 1 := z_tadd ex110 rfl z_l1 (by omega) (by omega)
                        refine lv_iinc (v := x110) (lv' := [(3, .int x110), (0, .ref (ad 0)), (1, .int a1), (2, .int a2)]) hx hb dX12_flow_177 hl (k := 0) rfl (by rw [ex110]; rfl) (by decide) rfl (fun ls hl => ?_)
                        refine lv_goto (tgt := 153) hx hb dX12_flow_180 (by decide) ?_
                        exact lp20ih x110 I103 J105 _ _ _ (by omega) (by omega) (by omega) (by show 0 ≤ (I103 0 75).toInt ∧ (I103 0 75).toInt ≤ 4; exact k106) ⟨(by show 0 ≤ (I103 0 54).toInt ∧ (I103 0 54).toInt ≤ 10; exact k107), (by show 0 ≤ (I103 0 55).toInt ∧ (I103 0 55).toInt ≤ 300; exact k108)⟩ (z_rg_fr lp20Ald fI103 (by decide)) (z_rg_fr lp20Awt fI103 (by decide)) (z_rg_fr lp20Ard fI103 (by decide)) hI103Arm hI103Ami (z_rg_fr lp20Abk fI103 (by decide)) (z_rg_fr lp20Afr fI103 (by decide)) h109 f104 hW hS (lv_sub hl [0, 1, 2, 3] rfl)
                  exact lp20 4294967296 (0) I15 J16 _ _ _ (z_m0u _) (by rw [z_l0]; omega) (by rw [z_l0]; omega) (by show 0 ≤ (I15 0 75).toInt ∧ (I15 0 75).toInt ≤ 4; exact lp13mr) ⟨(by show 0 ≤ (I15 0 54).toInt ∧ (I15 0 54).toInt ≤ 10; exact lp13ms.1), (by show 0 ≤ (I15 0 55).toInt ∧ (I15 0 55).toInt ≤ 300; exact lp13ms.2)⟩ lp13Ald lp13Awt lp13Ard lp13Arm lp13Ami lp13Abk lp13Afr lp13L lp13fr hW hS (lv_sub hl [0, 1, 2, 3] rfl)
                · have g111 := z_f_nge rfl rfl c18
                  refine lv_iload_n hx hb dX12_flow_67 rfl (lv_at hl 0 rfl) ?_
                  refine lv_iload_n hx hb dX12_flow_68 rfl (lv_at hl 2 rfl) ?_
                  refine lv_icmp_eq (tgt := 87) hx hb dX12_flow_69 (by decide) (fun c112 => (by have g := z_f_eq rfl rfl c112; omega)) (fun c112 => ?_)
                  have g113 := z_f_ne rfl rfl c112
                  refine lv_aload_n hx hb dX12_flow_72 rfl (lv_at hl 1 rfl) ?_
                  refine lv_iconst (v := 0) hx hb dX12_flow_73 (by decide) ?_
                  refine lv_iconst (v := 1) hx hb dX12_flow_74 (by decide) ?_
                  refine lv_iload_n hx hb dX12_flow_75 rfl (lv_at hl 0 rfl) ?_
                  refine lv_iadd hx hb dX12_flow_76 ?_
                  refine lv_topi (fun x114 ex114 => ?_)
                  have tx114 : x114.toInt = 1 + y14.toInt := z_tadd ex114 z_l1 rfl (by omega) (by omega)
                  refine lv_aload_n hx hb dX12_flow_77 rfl (lv_at hl 1 rfl) ?_
                  refine z_get (T := TX12) (N := 96) (ci := 12) (i := 0) (v := .ref (ad 52)) hx hb hts zj_X12_flow_X12 hown hK hW rfl rfl 76 (by decide) (hts (.fieldLink RX12 172 "PetrolBoardModel" "loadsOf" "[I") (me_s (me_l (me_l (List.mem_of_getElem? (i := 3) rfl))))) (fun _ h => h) rfl dX12_flow_78 ?_
                  refine lv_iload_n hx hb dX12_flow_81 rfl (lv_at hl 0 rfl) ?_
                  refine z_iald (i := 52) hx hb hK hW rfl (z_ix rfl (by omega) (by omega)) dX12_flow_82 ?_
                  refine lv_topi (fun x115 ex115 => ?_)
                  have h116 : 0 ≤ x115.toInt ∧ x115.toInt ≤ 50 := by rw [ex115]; exact lp13Ald _
                  refine lv_iconst (v := 0) hx hb dX12_flow_83 (by decide) ?_
                  refine z_cv hW hS hA (va_runV (As := [.int 0, .int x114, .int x115, .int 0]) (rest := []) ⟨hx, hb, hml, hown, hts⟩ (sx_X12_edge l G ad I15 J16 lp13Arm lp13Ami 0 x114 x115 0 (by have := z_l0; have := z_l0; omega) (by have := z_l0; have := z_l0; omega) (by have := z_l0; have := z_l0; omega) (by have := z_l0; have := z_l0; omega) lp13L _) (cwV 4 hts gX12_flow_X12_edge rfl rfl rfl hy_X12_edge ⟨Nat.le_of_ble_eq_true rfl, Nat.le_of_ble_eq_true rfl⟩) (z_preV (i := 0) hK hW rfl rfl) rfl rfl hl.1 rfl (lv_room (Nat.le_of_ble_eq_true rfl)) dX12_flow_84 ⟨Nat.le_of_ble_eq_true rfl, Nat.le_of_ble_eq_true rfl⟩) (fun u1 H locs hp hW hS => ?_)
                  obtain ⟨I117, J119, e9, hI117Arm, hI117Ami, fI117, hp⟩ := hp
                  rw [e9] at hW
                  have f118 := z_fr_sub (L := L_X12_flow) lp13fr fI117 (by decide)
                  have k120 : 0 ≤ (I117 0 75).toInt ∧ (I117 0 75).toInt ≤ 4 := by rw [fI117 0 75 (by decide)]; exact (by show 0 ≤ (I15 0 75).toInt ∧ (I15 0 75).toInt ≤ 4; exact lp13mr)
                  have k121 : 0 ≤ (I117 0 54).toInt ∧ (I117 0 54).toInt ≤ 10 := by rw [fI117 0 54 (by decide)]; exact (by show 0 ≤ (I15 0 54).toInt ∧ (I15 0 54).toInt ≤ 10; exact lp13ms.1)
                  have k122 : 0 ≤ (I117 0 55).toInt ∧ (I117 0 55).toInt ≤ 300 := by rw [fI117 0 55 (by decide)]; exact (by show 0 ≤ (I15 0 55).toInt ∧ (I15 0 55).toInt ≤ 300; exact lp13ms.2)
                  have h123 := hp
                  refine lv_iconst (v := 0) hx hb dX12_flow_87 (by decide) ?_
                  refine lv_istore (lv' := [(4, .int 0), (3, .int y14), (0, .ref (ad 0)), (1, .int a1), (2, .int a2)]) hx hb dX12_flow_88 hl (by decide) rfl (fun ls hl => ?_)
                  have lp124 : ∀ (f : Nat) (y125 : Int32) (I126 : z_I) (J127 : z_J) (H : Heap) (locs : List Loc) (ls : Array Slot), (2147483647 < y125.toInt + (f : Int)) → (0 ≤ y125.toInt) → (y125.toInt ≤ 10) → (z_imr I126) → (z_ims I126) → (z_rg 52 0 50 I126) → (z_rg 53 0 20 I126) → (z_rg 54 0 999 I126) → (z_rg 55 0 100 I126) → (z_rg 56 (-999) 999 I126) → (z_rg 58 0 15 I126) → (z_rg 57 (-300000) 1000000 I126) → (z_BL I126) → (z_fr L_X12_flow I126 I) → z_W G A (shM, ad, I126, J127, PM ad) H → va_S A s.heap H locs → lv_has ls 7 [(4, .int y125), (3, .int y14), (0, .ref (ad 0)), (1, .int a1), (2, .int a2)] → W p l e (headSpec wsX12_flow { frames := 2, cells := 0, slots := 0, locals := 36 }).room s m ([.ref (ad 0), .int a1, .int a2] : List Value).toArray below meth c0 H locs 0 0 (MQ below (va_Qi (fun (r : Int32) (u1 : z_U) => ∃ (I1 : z_I) (J1 : z_J), u1 = (shM, ad, I1, J1, PM ad) ∧ z_imr I1 ∧ z_ims I1 ∧ z_rg 52 0 50 I1 ∧ z_rg 53 0 20 I1 ∧ z_rg 54 0 999 I1 ∧ z_rg 55 0 100 I1 ∧ z_rg 56 (-999) 999 I1 ∧ z_rg 58 0 15 I1 ∧ z_rg 57 (-300000) 1000000 I1 ∧ z_fr L_X12_flow I1 I) (z_B G A) A) ([.ref (ad 0), .int a1, .int a2] : List Value).toArray s 0 0 A) (F0 m 90 ls []) := by
                    intro f
                    induction f with
                    | zero => intro y125 I126 J127 H locs ls lp124m lp124l4 lp124u4 lp124mr lp124ms lp124Ald lp124Awt lp124Ard lp124Arm lp124Ami lp124Abk lp124Afr lp124L lp124fr hW hS hl; exact absurd lp124m (by have := Int32.toInt_lt y125; have := Int32.le_toInt y125; omega)
                    | succ f lp124ih =>
                      intro y125 I126 J127 H locs ls lp124m lp124l4 lp124u4 lp124mr lp124ms lp124Ald lp124Awt lp124Ard lp124Arm lp124Ami lp124Abk lp124Afr lp124L lp124fr hW hS hl
                      refine lv_iload hx hb dX12_flow_90 (lv_at hl 0 rfl) ?_
                      refine lv_aload_n hx hb dX12_flow_92 rfl (lv_at hl 2 rfl) ?_
                      have r128 : 0 ≤ (I126 0 54).toInt ∧ (I126 0 54).toInt ≤ 10 := lp124ms.1
                      refine z_get (T := TX12) (N := 96) (ci := 12) (i := 0) (v := .int (I126 0 54)) hx hb hts zj_X12_flow_X12 hown hK hW rfl rfl 54 (by decide) (hts (.fieldLink RX12 461 "PetrolBoardModel" "stations" "I") (me_s (me_l (me_l (List.mem_of_getElem? (i := 4) rfl))))) (fun _ h => h) rfl dX12_flow_93 ?_
                      refine lv_icmp_ge (tgt := 145) hx hb dX12_flow_96 (by decide) (fun c129 => ?_) (fun c129 => ?_)
                      · have g130 := z_f_ge rfl rfl c129
                        obtain ⟨x131, ex131⟩ : ∃ y : Int32, y = y14 + 1 := ⟨_, rfl⟩
                        have tx131 : x131.toInt = y14.toInt + 1 := z_tadd ex131 rfl z_l1 (by omega) (by omega)
                        refine lv_iinc (v := x131) (lv' := [(3, .int x131), (4, .int y125), (0, .ref (ad 0)), (1, .int a1), (2, .int a2)]) hx hb dX12_flow_145 hl (k := 1) rfl (by rw [ex131]; rfl) (by decide) rfl (fun ls hl => ?_)
                        refine lv_goto (tgt := 59) hx hb dX12_flow_148 (by decide) ?_
                        exact lp13ih x131 I126 J127 _ _ _ (by omega) (by omega) (by omega) (by show 0 ≤ (I126 0 75).toInt ∧ (I126 0 75).toInt ≤ 4; exact lp124mr) ⟨(by show 0 ≤ (I126 0 54).toInt ∧ (I126 0 54).toInt ≤ 10; exact lp124ms.1), (by show 0 ≤ (I126 0 55).toInt ∧ (I126 0 55).toInt ≤ 300; exact lp124ms.2)⟩ lp124Ald lp124Awt lp124Ard lp124Arm lp124Ami lp124Abk lp124Afr lp124L lp124fr hW hS (lv_sub hl [0, 2, 3, 4] rfl)
                      · have g132 := z_f_nge rfl rfl c129
                        refine lv_aload_n hx hb dX12_flow_99 rfl (lv_at hl 2 rfl) ?_
                        refine z_get (T := TX12) (N := 96) (ci := 12) (i := 0) (v := .ref (ad 54)) hx hb hts zj_X12_flow_X12 hown hK hW rfl rfl 78 (by decide) (hts (.fieldLink RX12 178 "PetrolBoardModel" "roadOf" "[I") (me_s (me_l (me_l (List.mem_of_getElem? (i := 5) rfl))))) (fun _ h => h) rfl dX12_flow_100 ?_
                        refine lv_bipush (v := 10) hx hb dX12_flow_103 (by decide) ?_
                        refine lv_iload_n hx hb dX12_flow_105 rfl (lv_at hl 1 rfl) ?_
                        refine lv_imul hx hb dX12_flow_106 ?_
                        refine lv_topi (fun x133 ex133 => ?_)
                        have tx133 : x133.toInt = 10 * y14.toInt := z_tmul ex133 z_l10 rfl (by omega) (by omega)
                        refine lv_iload hx hb dX12_flow_107 (lv_at hl 0 rfl) ?_
                        refine lv_iadd hx hb dX12_flow_109 ?_
                        refine lv_topi (fun x134 ex134 => ?_)
                        have tx134 : x134.toInt = x133.toInt + y125.toInt := z_tadd ex134 rfl rfl (by omega) (by omega)
                        refine z_iald (i := 54) hx hb hK hW rfl (z_ix rfl (by omega) (by omega)) dX12_flow_110 ?_
                        refine lv_topi (fun x135 ex135 => ?_)
                        have h136 : 0 ≤ x135.toInt ∧ x135.toInt ≤ 999 := by rw [ex135]; exact lp124Ard _
                        refine lv_if_le (tgt := 139) hx hb dX12_flow_111 (by decide) (fun c137 => ?_) (fun c137 => ?_)
                        · have g138 := z_f_le rfl z_l0 c137
                          obtain ⟨x139, ex139⟩ : ∃ y : Int32, y = y125 + 1 := ⟨_, rfl⟩
                          have tx139 : x139.toInt = y125.toInt + 1 := z_tadd ex139 rfl z_l1 (by omega) (by omega)
                          refine lv_iinc (v := x139) (lv' := [(4, .int x139), (3, .int y14), (0, .ref (ad 0)), (1, .int a1), (2, .int a2)]) hx hb dX12_flow_139 hl (k := 0) rfl (by rw [ex139]; rfl) (by decide) rfl (fun ls hl => ?_)
                          refine lv_goto (tgt := 90) hx hb dX12_flow_142 (by decide) ?_
                          exact lp124ih x139 I126 J127 _ _ _ (by omega) (by omega) (by omega) (by show 0 ≤ (I126 0 75).toInt ∧ (I126 0 75).toInt ≤ 4; exact lp124mr) ⟨(by show 0 ≤ (I126 0 54).toInt ∧ (I126 0 54).toInt ≤ 10; exact lp124ms.1), (by show 0 ≤ (I126 0 55).toInt ∧ (I126 0 55).toInt ≤ 300; exact lp124ms.2)⟩ lp124Ald lp124Awt lp124Ard lp124Arm lp124Ami lp124Abk lp124Afr lp124L lp124fr hW hS (lv_sub hl [0, 1, 2, 3, 4] rfl)
                        · have g140 := z_f_nle rfl z_l0 c137
                          refine lv_aload_n hx hb dX12_flow_114 rfl (lv_at hl 2 rfl) ?_
                          refine lv_iconst (v := 1) hx hb dX12_flow_115 (by decide) ?_
                          refine lv_iload_n hx hb dX12_flow_116 rfl (lv_at hl 1 rfl) ?_
                          refine lv_iadd hx hb dX12_flow_117 ?_
                          refine lv_topi (fun x141 ex141 => ?_)
                          have tx141 : x141.toInt = 1 + y14.toInt := z_tadd ex141 z_l1 rfl (by omega) (by omega)
                          refine lv_iconst (v := 5) hx hb dX12_flow_118 (by decide) ?_
                          refine lv_iload hx hb dX12_flow_119 (lv_at hl 0 rfl) ?_
                          refine lv_iadd hx hb dX12_flow_121 ?_
                          refine lv_topi (fun x142 ex142 => ?_)
                          have tx142 : x142.toInt = 5 + y125.toInt := z_tadd ex142 z_l5 rfl (by omega) (by omega)
                          refine lv_bipush (v := 50) hx hb dX12_flow_122 (by decide) ?_
                          refine lv_aload_n hx hb dX12_flow_124 rfl (lv_at hl 2 rfl) ?_
                          refine z_get (T := TX12) (N := 96) (ci := 12) (i := 0) (v := .ref (ad 54)) hx hb hts zj_X12_flow_X12 hown hK hW rfl rfl 78 (by decide) (hts (.fieldLink RX12 178 "PetrolBoardModel" "roadOf" "[I") (me_s (me_l (me_l (List.mem_of_getElem? (i := 5) rfl))))) (fun _ h => h) rfl dX12_flow_125 ?_
                          refine lv_bipush (v := 10) hx hb dX12_flow_128 (by decide) ?_
                          refine lv_iload_n hx hb dX12_flow_130 rfl (lv_at hl 1 rfl) ?_
                          refine lv_imul hx hb dX12_flow_131 ?_
                          refine lv_topi (fun x143 ex143 => ?_)
                          have tx143 : x143.toInt = 10 * y14.toInt := z_tmul ex143 z_l10 rfl (by omega) (by omega)
                          refine lv_iload hx hb dX12_flow_132 (lv_at hl 0 rfl) ?_
                          refine lv_iadd hx hb dX12_flow_134 ?_
                          refine lv_topi (fun x144 ex144 => ?_)
                          have tx144 : x144.toInt = x143.toInt + y125.toInt := z_tadd ex144 rfl rfl (by omega) (by omega)
                          refine z_iald (i := 54) hx hb hK hW rfl (z_ix rfl (by omega) (by omega)) dX12_flow_135 ?_
                          refine lv_topi (fun x145 ex145 => ?_)
                          have h146 : 0 ≤ x145.toInt ∧ x145.toInt ≤ 999 := by rw [ex145]; exact lp124Ard _
                          refine z_cv hW hS hA (va_runV (As := [.int x141, .int x142, .int 50, .int x145]) (rest := []) ⟨hx, hb, hml, hown, hts⟩ (sx_X12_edge l G ad I126 J127 lp124Arm lp124Ami x141 x142 50 x145 (by have := z_l50; omega) (by have := z_l50; omega) (by have := z_l50; omega) (by have := z_l50; omega) lp124L _) (cwV 4 hts gX12_flow_X12_edge rfl rfl rfl hy_X12_edge ⟨Nat.le_of_ble_eq_true rfl, Nat.le_of_ble_eq_true rfl⟩) (z_preV (i := 0) hK hW rfl rfl) rfl rfl hl.1 rfl (lv_room (Nat.le_of_ble_eq_true rfl)) dX12_flow_136 ⟨Nat.le_of_ble_eq_true rfl, Nat.le_of_ble_eq_true rfl⟩) (fun u1 H locs hp hW hS => ?_)
                          obtain ⟨I147, J149, e9, hI147Arm, hI147Ami, fI147, hp⟩ := hp
                          rw [e9] at hW
                          have f148 := z_fr_sub (L := L_X12_flow) lp124fr fI147 (by decide)
                          have k150 : 0 ≤ (I147 0 75).toInt ∧ (I147 0 75).toInt ≤ 4 := by rw [fI147 0 75 (by decide)]; exact (by show 0 ≤ (I126 0 75).toInt ∧ (I126 0 75).toInt ≤ 4; exact lp124mr)
                          have k151 : 0 ≤ (I147 0 54).toInt ∧ (I147 0 54).toInt ≤ 10 := by rw [fI147 0 54 (by decide)]; exact (by show 0 ≤ (I126 0 54).toInt ∧ (I126 0 54).toInt ≤ 10; exact lp124ms.1)
                          have k152 : 0 ≤ (I147 0 55).toInt ∧ (I147 0 55).toInt ≤ 300 := by rw [fI147 0 55 (by decide)]; exact (by show 0 ≤ (I126 0 55).toInt ∧ (I126 0 55).toInt ≤ 300; exact lp124ms.2)
                          have h153 := hp
                          obtain ⟨x154, ex154⟩ : ∃ y : Int32, y = y125 + 1 := ⟨_, rfl⟩
                          have tx154 : x154.toInt = y125.toInt + 1 := z_tadd ex154 rfl z_l1 (by omega) (by omega)
                          refine lv_iinc (v := x154) (lv' := [(4, .int x154), (3, .int y14), (0, .ref (ad 0)), (1, .int a1), (2, .int a2)]) hx hb dX12_flow_139 hl (k := 0) rfl (by rw [ex154]; rfl) (by decide) rfl (fun ls hl => ?_)
                          refine lv_goto (tgt := 90) hx hb dX12_flow_142 (by decide) ?_
                          exact lp124ih x154 I147 J149 _ _ _ (by omega) (by omega) (by omega) (by show 0 ≤ (I147 0 75).toInt ∧ (I147 0 75).toInt ≤ 4; exact k150) ⟨(by show 0 ≤ (I147 0 54).toInt ∧ (I147 0 54).toInt ≤ 10; exact k151), (by show 0 ≤ (I147 0 55).toInt ∧ (I147 0 55).toInt ≤ 300; exact k152)⟩ (z_rg_fr lp124Ald fI147 (by decide)) (z_rg_fr lp124Awt fI147 (by decide)) (z_rg_fr lp124Ard fI147 (by decide)) hI147Arm hI147Ami (z_rg_fr lp124Abk fI147 (by decide)) (z_rg_fr lp124Afr fI147 (by decide)) h153 f148 hW hS (lv_sub hl [0, 1, 2, 3, 4] rfl)
                  exact lp124 4294967296 (0) I117 J119 _ _ _ (z_m0u _) (by rw [z_l0]; omega) (by rw [z_l0]; omega) (by show 0 ≤ (I117 0 75).toInt ∧ (I117 0 75).toInt ≤ 4; exact k120) ⟨(by show 0 ≤ (I117 0 54).toInt ∧ (I117 0 54).toInt ≤ 10; exact k121), (by show 0 ≤ (I117 0 55).toInt ∧ (I117 0 55).toInt ≤ 300; exact k122)⟩ (z_rg_fr lp13Ald fI117 (by decide)) (z_rg_fr lp13Awt fI117 (by decide)) (z_rg_fr lp13Ard fI117 (by decide)) hI117Arm hI117Ami (z_rg_fr lp13Abk fI117 (by decide)) (z_rg_fr lp13Afr fI117 (by decide)) h123 f118 hW hS (lv_sub hl [0, 1, 2, 3, 4] rfl)
            exact lp13 4294967296 (0) I9 J10 _ _ _ (z_m0u _) (by rw [z_l0]; omega) (by rw [z_l0]; omega) (by show 0 ≤ (I9 0 75).toInt ∧ (I9 0 75).toInt ≤ 4; exact lp7mr) ⟨(by show 0 ≤ (I9 0 54).toInt ∧ (I9 0 54).toInt ≤ 10; exact lp7ms.1), (by show 0 ≤ (I9 0 55).toInt ∧ (I9 0 55).toInt ≤ 300; exact lp7ms.2)⟩ lp7Ald lp7Awt lp7Ard lp7Arm lp7Ami lp7Abk lp7Afr (z_BL_0 (fun j hj => lp7Z j (by omega))) lp7fr hW hS (lv_sub hl [0, 1, 2, 3] rfl)
          · have g155 := z_f_nge rfl z_l256 c11
            refine lv_aload_n hx hb dX12_flow_37 rfl (lv_at hl 1 rfl) ?_
            refine z_get (T := TX12) (N := 96) (ci := 12) (i := 0) (v := .ref (ad 55)) hx hb hts zj_X12_flow_X12 hown hK hW rfl rfl 79 (by decide) (hts (.fieldLink RX12 181 "PetrolBoardModel" "room" "[I") (me_s (me_l (me_l (List.mem_of_getElem? (i := 1) rfl))))) (fun _ h => h) rfl dX12_flow_38 ?_
            refine lv_iload_n hx hb dX12_flow_41 rfl (lv_at hl 0 rfl) ?_
            refine lv_iconst (v := 0) hx hb dX12_flow_42 (by decide) ?_
            refine z_iast (i := 55) hx hb hK hW hS rfl (z_ix rfl (by omega) (by omega)) dX12_flow_43 (fun H locs hz1 hW hS => ?_)
            obtain ⟨I156, eI156⟩ : ∃ K : z_I, K = z_up I9 55 y8.toNatClampNeg 0 := ⟨_, rfl⟩
            rw [← eI156] at hW
            have f157 := z_fr_a lp7fr (show z_wa L_X12_flow 55 = true by decide) eI156
            have a158 := z_rg_n lp7Ald (by decide) eI156
            have a159 := z_rg_n lp7Awt (by decide) eI156
            have a160 := z_rg_n lp7Ard (by decide) eI156
            have a161 := z_rg_a lp7Arm (by decide) eI156
            have a162 := z_rg_n lp7Ami (by decide) eI156
            have a163 := z_rg_n lp7Abk (by decide) eI156
            have a164 := z_rg_n lp7Afr (by decide) eI156
            refine lv_aload_n hx hb dX12_flow_44 rfl (lv_at hl 1 rfl) ?_
            refine z_get (T := TX12) (N := 96) (ci := 12) (i := 0) (v := .ref (ad 56)) hx hb hts zj_X12_flow_X12 hown hK hW rfl rfl 80 (by decide) (hts (.fieldLink RX12 184 "PetrolBoardModel" "miles" "[I") (me_s (me_l (me_l (List.mem_of_getElem? (i := 2) rfl))))) (fun _ h => h) rfl dX12_flow_45 ?_
            refine lv_iload_n hx hb dX12_flow_48 rfl (lv_at hl 0 rfl) ?_
            refine lv_iconst (v := 0) hx hb dX12_flow_49 (by decide) ?_
            refine z_iast (i := 56) hx hb hK hW hS rfl (z_ix rfl (by omega) (by omega)) dX12_flow_50 (fun H locs hz1 hW hS => ?_)
            obtain ⟨I165, eI165⟩ : ∃ K : z_I, K = z_up I156 56 y8.toNatClampNeg 0 := ⟨_, rfl⟩
            rw [← eI165] at hW
            have f166 := z_fr_a f157 (show z_wa L_X12_flow 56 = true by decide) eI165
            have a167 := z_rg_n a158 (by decide) eI165
            have a168 := z_rg_n a159 (by decide) eI165
            have a169 := z_rg_n a160 (by decide) eI165
            have a170 := z_rg_n a161 (by decide) eI165
            have a171 := z_rg_a a162 (by decide) eI165
            have a172 := z_rg_n a163 (by decide) eI165
            have a173 := z_rg_n a164 (by decide) eI165
            obtain ⟨x174, ex174⟩ : ∃ y : Int32, y = y8 + 1 := ⟨_, rfl⟩
            have tx174 : x174.toInt = y8.toInt + 1 := z_tadd ex174 rfl z_l1 (by omega) (by omega)
            refine lv_iinc (v := x174) (lv' := [(3, .int x174), (0, .ref (ad 0)), (1, .int a1), (2, .int a2)]) hx hb dX12_flow_51 hl (k := 0) rfl (by rw [ex174]; rfl) (by decide) rfl (fun ls hl => ?_)
            refine lv_goto (tgt := 30) hx hb dX12_flow_54 (by decide) ?_
            exact lp7ih x174 I165 J10 _ _ _ (by omega) (by omega) (by omega) (by show 0 ≤ (I165 0 75).toInt ∧ (I165 0 75).toInt ≤ 4; rw [eI165, z_up_n (by decide), eI156, z_up_n (by decide)]; exact lp7mr) ⟨(by show 0 ≤ (I165 0 54).toInt ∧ (I165 0 54).toInt ≤ 10; rw [eI165, z_up_n (by decide), eI156, z_up_n (by decide)]; exact lp7ms.1), (by show 0 ≤ (I165 0 55).toInt ∧ (I165 0 55).toInt ≤ 300; rw [eI165, z_up_n (by decide), eI156, z_up_n (by decide)]; exact lp7ms.2)⟩ a167 a168 a169 a170 a171 a172 a173 (fun j hj => by by_cases q9 : j = y8.toNatClampNeg; (· (exact ⟨by rw [eI165, z_up_n (by decide), eI156, q9, z_up_s], by rw [eI165, q9, z_up_s]⟩)); (· (have hc9 := z_clt (x := y8) rfl (by omega); have h9 := lp7Z j (by omega); exact ⟨by rw [eI165, z_up_n (by decide), eI156, z_up_k q9]; exact h9.1, by rw [eI165, z_up_k q9, eI156, z_up_n (by decide)]; exact h9.2⟩))) f166 hW hS (lv_sub hl [0, 1, 2, 3] rfl)
      exact lp7 4294967296 (0) I J _ _ _ (z_m0u _) (by rw [z_l0]; omega) (by rw [z_l0]; omega) (by show 0 ≤ (I 0 75).toInt ∧ (I 0 75).toInt ≤ 4; exact hmr) ⟨(by show 0 ≤ (I 0 54).toInt ∧ (I 0 54).toInt ≤ 10; exact hms.1), (by show 0 ≤ (I 0 55).toInt ∧ (I 0 55).toInt ≤ 300; exact hms.2)⟩ hAld hAwt hArd hArm hAmi hAbk hAfr (fun j hj => absurd hj (by have : ((0 : Int32)).toInt = 0 := (by decide); omega)) z_fr_0 hW hS (lv_sub hl [0, 1, 2, 3] rfl)
    · refine lv_if_ne (tgt := 28) hx hb dX12_flow_23 (by decide) (fun c175 => absurd (by decide) c175) (fun c175 => ?_)
      refine lv_iconst (v := (-1)) hx hb dX12_flow_26 (by decide) ?_
      exact z_iret hx hb hr hK hS (Nat.le_of_ble_eq_true rfl) (Nat.le_of_ble_eq_true rfl) hlocks dX12_flow_27 (shM, ad, I, J, PM ad) hW ⟨I, J, rfl, (by show 0 ≤ (I 0 75).toInt ∧ (I 0 75).toInt ≤ 4; exact hmr), ⟨(by show 0 ≤ (I 0 54).toInt ∧ (I 0 54).toInt ≤ 10; exact hms.1), (by show 0 ≤ (I 0 55).toInt ∧ (I 0 55).toInt ≤ 300; exact hms.2)⟩, hAld, hAwt, hArd, hArm, hAmi, hAbk, hAfr, z_fr_0⟩
  · have g176 := z_f_ne rfl z_lm1 c1
    have b177 := Int32.toInt_lt a1
    refine lv_iload_n hx hb dX12_flow_5 rfl (lv_at hl 1 rfl) ?_
    refine lv_if_lt (tgt := 26) hx hb dX12_flow_6 (by decide) (fun c178 => ?_) (fun c178 => ?_)
    · have g179 := z_f_lt rfl z_l0 c178
      refine lv_iconst (v := (-1)) hx hb dX12_flow_26 (by decide) ?_
      exact z_iret hx hb hr hK hS (Nat.le_of_ble_eq_true rfl) (Nat.le_of_ble_eq_true rfl) hlocks dX12_flow_27 (shM, ad, I, J, PM ad) hW ⟨I, J, rfl, (by show 0 ≤ (I 0 75).toInt ∧ (I 0 75).toInt ≤ 4; exact hmr), ⟨(by show 0 ≤ (I 0 54).toInt ∧ (I 0 54).toInt ≤ 10; exact hms.1), (by show 0 ≤ (I 0 55).toInt ∧ (I 0 55).toInt ≤ 300; exact hms.2)⟩, hAld, hAwt, hArd, hArm, hAmi, hAbk, hAfr, z_fr_0⟩
    · have g180 := z_f_nlt rfl z_l0 c178
      refine lv_iload_n hx hb dX12_flow_9 rfl (lv_at hl 1 rfl) ?_
      refine lv_aload_n hx hb dX12_flow_10 rfl (lv_at hl 0 rfl) ?_
      have r181 : 0 ≤ (I 0 75).toInt ∧ (I 0 75).toInt ≤ 4 := hmr
      refine z_get (T := TX12) (N := 96) (ci := 12) (i := 0) (v := .int (I 0 75)) hx hb hts zj_X12_flow_X12 hown hK hW rfl rfl 75 (by decide) (hts (.fieldLink RX12 493 "PetrolBoardModel" "ports" "I") (me_s (me_l (me_l (List.mem_of_getElem? (i := 0) rfl))))) (fun _ h => h) rfl dX12_flow_11 ?_
      refine lv_icmp_ge (tgt := 26) hx hb dX12_flow_14 (by decide) (fun c182 => ?_) (fun c182 => ?_)
      · have g183 := z_f_ge rfl rfl c182
        refine lv_iconst (v := (-1)) hx hb dX12_flow_26 (by decide) ?_
        exact z_iret hx hb hr hK hS (Nat.le_of_ble_eq_true rfl) (Nat.le_of_ble_eq_true rfl) hlocks dX12_flow_27 (shM, ad, I, J, PM ad) hW ⟨I, J, rfl, (by show 0 ≤ (I 0 75).toInt ∧ (I 0 75).toInt ≤ 4; exact hmr), ⟨(by show 0 ≤ (I 0 54).toInt ∧ (I 0 54).toInt ≤ 10; exact hms.1), (by show 0 ≤ (I 0 55).toInt ∧ (I 0 55).toInt ≤ 300; exact hms.2)⟩, hAld, hAwt, hArd, hArm, hAmi, hAbk, hAfr, z_fr_0⟩
      · have g184 := z_f_nge rfl rfl c182
        refine lv_iload_n hx hb dX12_flow_17 rfl (lv_at hl 2 rfl) ?_
        refine lv_iconst (v := 0) hx hb dX12_flow_18 (by decide) ?_
        refine lv_iconst (v := 1) hx hb dX12_flow_19 (by decide) ?_
        refine z_ci hW hS hA (va_runS (As := [.int a2, .int 0, .int 1]) (rest := []) ⟨hx, hb, hml, hown, hts⟩ (sx_X12_within l G ad I J  a2 0 1 _) (va_cwS 3 hts gX12_flow_X12_within rfl rfl rfl hy_X12_within.2 ⟨Nat.le_of_ble_eq_true rfl, Nat.le_of_ble_eq_true rfl⟩) (z_preS hK hW) rfl rfl hl.1 rfl (lv_room (Nat.le_of_ble_eq_true rfl)) dX12_flow_20 ⟨Nat.le_of_ble_eq_true rfl, Nat.le_of_ble_eq_true rfl⟩) (fun r u1 H locs hp hW hS => ?_)
        obtain ⟨e9, hp⟩ := hp
        rw [e9] at hW
        rcases hp with ⟨rfl, h185, h186⟩ | rfl
        · have h185 := z_t_le z_l0 rfl h185
          have h186 := z_t_le rfl z_l1 h186
          refine lv_if_ne (tgt := 28) hx hb dX12_flow_23 (by decide) (fun c187 => ?_) (fun c187 => absurd c187 (by decide))
          refine lv_iconst (v := 0) hx hb dX12_flow_28 (by decide) ?_
          refine lv_istore_n (lv' := [(3, .int 0), (0, .ref (ad 0)), (1, .int a1), (2, .int a2)]) hx hb dX12_flow_29 rfl hl (by decide) rfl (fun ls hl => ?_)
          have lp188 : ∀ (f : Nat) (y189 : Int32) (I190 : z_I) (J191 : z_J) (H : Heap) (locs : List Loc) (ls : Array Slot), (2147483647 < y189.toInt + (f : Int)) → (0 ≤ y189.toInt) → (y189.toInt ≤ 256) → (z_imr I190) → (z_ims I190) → (z_rg 52 0 50 I190) → (z_rg 53 0 20 I190) → (z_rg 54 0 999 I190) → (z_rg 55 0 100 I190) → (z_rg 56 (-999) 999 I190) → (z_rg 58 0 15 I190) → (z_rg 57 (-300000) 1000000 I190) → (∀ j : Nat, (j : Int) < y189.toInt → I190 55 j = 0 ∧ I190 56 j = 0) → (z_fr L_X12_flow I190 I) → z_W G A (shM, ad, I190, J191, PM ad) H → va_S A s.heap H locs → lv_has ls 7 [(3, .int y189), (0, .ref (ad 0)), (1, .int a1), (2, .int a2)] → W p l e (headSpec wsX12_flow { frames := 2, cells := 0, slots := 0, locals := 36 }).room s m ([.ref (ad 0), .int a1, .int a2] : List Value).toArray below meth c0 H locs 0 0 (MQ below (va_Qi (fun (r : Int32) (u1 : z_U) => ∃ (I1 : z_I) (J1 : z_J), u1 = (shM, ad, I1, J1, PM ad) ∧ z_imr I1 ∧ z_ims I1 ∧ z_rg 52 0 50 I1 ∧ z_rg 53 0 20 I1 ∧ z_rg 54 0 999 I1 ∧ z_rg 55 0 100 I1 ∧ z_rg 56 (-999) 999 I1 ∧ z_rg 58 0 15 I1 ∧ z_rg 57 (-300000) 1000000 I1 ∧ z_fr L_X12_flow I1 I) (z_B G A) A) ([.ref (ad 0), .int a1, .int a2] : List Value).toArray s 0 0 A) (F0 m 30 ls []) := by
            intro f
            induction f with
            | zero => intro y189 I190 J191 H locs ls lp188m lp188l3 lp188u3 lp188mr lp188ms lp188Ald lp188Awt lp188Ard lp188Arm lp188Ami lp188Abk lp188Afr lp188Z lp188fr hW hS hl; exact absurd lp188m (by have := Int32.toInt_lt y189; have := Int32.le_toInt y189; omega)
            | succ f lp188ih =>
              intro y189 I190 J191 H locs ls lp188m lp188l3 lp188u3 lp188mr lp188ms lp188Ald lp188Awt lp188Ard lp188Arm lp188Ami lp188Abk lp188Afr lp188Z lp188fr hW hS hl
              refine lv_iload_n hx hb dX12_flow_30 rfl (lv_at hl 0 rfl) ?_
              refine lv_sipush (v := 256) hx hb dX12_flow_31 (by decide) ?_
              refine lv_icmp_ge (tgt := 57) hx hb dX12_flow_34 (by decide) (fun c192 => ?_) (fun c192 => ?_)
              · have g193 := z_f_ge rfl z_l256 c192
                refine lv_iconst (v := 0) hx hb dX12_flow_57 (by decide) ?_
                refine lv_istore_n (lv' := [(3, .int 0), (0, .ref (ad 0)), (1, .int a1), (2, .int a2)]) hx hb dX12_flow_58 rfl hl (by decide) rfl (fun ls hl => ?_)
                have lp194 : ∀ (f : Nat) (y195 : Int32) (I196 : z_I) (J197 : z_J) (H : Heap) (locs : List Loc) (ls : Array Slot), (2147483647 < y195.toInt + (f : Int)) → (0 ≤ y195.toInt) → (y195.toInt ≤ 4) → (z_imr I196) → (z_ims I196) → (z_rg 52 0 50 I196) → (z_rg 53 0 20 I196) → (z_rg 54 0 999 I196) → (z_rg 55 0 100 I196) → (z_rg 56 (-999) 999 I196) → (z_rg 58 0 15 I196) → (z_rg 57 (-300000) 1000000 I196) → (z_BL I196) → (z_fr L_X12_flow I196 I) → z_W G A (shM, ad, I196, J197, PM ad) H → va_S A s.heap H locs → lv_has ls 7 [(3, .int y195), (0, .ref (ad 0)), (1, .int a1), (2, .int a2)] → W p l e (headSpec wsX12_flow { frames := 2, cells := 0, slots := 0, locals := 36 }).room s m ([.ref (ad 0), .int a1, .int a2] : List Value).toArray below meth c0 H locs 0 0 (MQ below (va_Qi (fun (r : Int32) (u1 : z_U) => ∃ (I1 : z_I) (J1 : z_J), u1 = (shM, ad, I1, J1, PM ad) ∧ z_imr I1 ∧ z_ims I1 ∧ z_rg 52 0 50 I1 ∧ z_rg 53 0 20 I1 ∧ z_rg 54 0 999 I1 ∧ z_rg 55 0 100 I1 ∧ z_rg 56 (-999) 999 I1 ∧ z_rg 58 0 15 I1 ∧ z_rg 57 (-300000) 1000000 I1 ∧ z_fr L_X12_flow I1 I) (z_B G A) A) ([.ref (ad 0), .int a1, .int a2] : List Value).toArray s 0 0 A) (F0 m 59 ls []) := by
                  intro f
                  induction f with
                  | zero => intro y195 I196 J197 H locs ls lp194m lp194l3 lp194u3 lp194mr lp194ms lp194Ald lp194Awt lp194Ard lp194Arm lp194Ami lp194Abk lp194Afr lp194L lp194fr hW hS hl; exact absurd lp194m (by have := Int32.toInt_lt y195; have := Int32.le_toInt y195; omega)
                  | succ f lp194ih =>
                    intro y195 I196 J197 H locs ls lp194m lp194l3 lp194u3 lp194mr lp194ms lp194Ald lp194Awt lp194Ard lp194Arm lp194Ami lp194Abk lp194Afr lp194L lp194fr hW hS hl
                    refine lv_iload_n hx hb dX12_flow_59 rfl (lv_at hl 0 rfl) ?_
                    refine lv_aload_n hx hb dX12_flow_60 rfl (lv_at hl 1 rfl) ?_
                    have r198 : 0 ≤ (I196 0 75).toInt ∧ (I196 0 75).toInt ≤ 4 := lp194mr
                    refine z_get (T := TX12) (N := 96) (ci := 12) (i := 0) (v := .int (I196 0 75)) hx hb hts zj_X12_flow_X12 hown hK hW rfl rfl 75 (by decide) (hts (.fieldLink RX12 493 "PetrolBoardModel" "ports" "I") (me_s (me_l (me_l (List.mem_of_getElem? (i := 0) rfl))))) (fun _ h => h) rfl dX12_flow_61 ?_
                    refine lv_icmp_ge (tgt := 151) hx hb dX12_flow_64 (by decide) (fun c199 => ?_) (fun c199 => ?_)
                    · have g200 := z_f_ge rfl rfl c199
                      refine lv_iconst (v := 0) hx hb dX12_flow_151 (by decide) ?_
                      refine lv_istore_n (lv' := [(3, .int 0), (0, .ref (ad 0)), (1, .int a1), (2, .int a2)]) hx hb dX12_flow_152 rfl hl (by decide) rfl (fun ls hl => ?_)
                      have lp201 : ∀ (f : Nat) (y202 : Int32) (I203 : z_I) (J204 : z_J) (H : Heap) (locs : List Loc) (ls : Array Slot), (2147483647 < y202.toInt + (f : Int)) → (0 ≤ y202.toInt) → (y202.toInt ≤ 10) → (z_imr I203) → (z_ims I203) → (z_rg 52 0 50 I203) → (z_rg 53 0 20 I203) → (z_rg 54 0 999 I203) → (z_rg 55 0 100 I203) → (z_rg 56 (-999) 999 I203) → (z_rg 58 0 15 I203) → (z_rg 57 (-300000) 1000000 I203) → (z_BL I203) → (z_fr L_X12_flow I203 I) → z_W G A (shM, ad, I203, J204, PM ad) H → va_S A s.heap H locs → lv_has ls 7 [(3, .int y202), (0, .ref (ad 0)), (1, .int a1), (2, .int a2)] → W p l e (headSpec wsX12_flow { frames := 2, cells := 0, slots := 0, locals := 36 }).room s m ([.ref (ad 0), .int a1, .int a2] : List Value).toArray below meth c0 H locs 0 0 (MQ below (va_Qi (fun (r : Int32) (u1 : z_U) => ∃ (I1 : z_I) (J1 : z_J), u1 = (shM, ad, I1, J1, PM ad) ∧ z_imr I1 ∧ z_ims I1 ∧ z_rg 52 0 50 I1 ∧ z_rg 53 0 20 I1 ∧ z_rg 54 0 999 I1 ∧ z_rg 55 0 100 I1 ∧ z_rg 56 (-999) 999 I1 ∧ z_rg 58 0 15 I1 ∧ z_rg 57 (-300000) 1000000 I1 ∧ z_fr L_X12_flow I1 I) (z_B G A) A) ([.ref (ad 0), .int a1, .int a2] : List Value).toArray s 0 0 A) (F0 m 153 ls []) := by
                        intro f
                        induction f with
                        | zero => intro y202 I203 J204 H locs ls lp201m lp201l3 lp201u3 lp201mr lp201ms lp201Ald lp201Awt lp201Ard lp201Arm lp201Ami lp201Abk lp201Afr lp201L lp201fr hW hS hl; exact absurd lp201m (by have := Int32.toInt_lt y202; have := Int32.le_toInt y202; omega)
                        | succ f lp201ih =>
                          intro y202 I203 J204 H locs ls lp201m lp201l3 lp201u3 lp201mr lp201ms lp201Ald lp201Awt lp201Ard lp201Arm lp201Ami lp201Abk lp201Afr lp201L lp201fr hW hS hl
                          refine lv_iload_n hx hb dX12_flow_153 rfl (lv_at hl 0 rfl) ?_
                          refine lv_aload_n hx hb dX12_flow_154 rfl (lv_at hl 1 rfl) ?_
                          have r205 : 0 ≤ (I203 0 54).toInt ∧ (I203 0 54).toInt ≤ 10 := lp201ms.1
                          refine z_get (T := TX12) (N := 96) (ci := 12) (i := 0) (v := .int (I203 0 54)) hx hb hts zj_X12_flow_X12 hown hK hW rfl rfl 54 (by decide) (hts (.fieldLink RX12 461 "PetrolBoardModel" "stations" "I") (me_s (me_l (me_l (List.mem_of_getElem? (i := 4) rfl))))) (fun _ h => h) rfl dX12_flow_155 ?_
                          refine lv_icmp_ge (tgt := 183) hx hb dX12_flow_158 (by decide) (fun c206 => ?_) (fun c206 => ?_)
                          · have g207 := z_f_ge rfl rfl c206
                            refine lv_iconst (v := 0) hx hb dX12_flow_183 (by decide) ?_
                            refine lv_istore_n (lv' := [(3, .int 0), (0, .ref (ad 0)), (1, .int a1), (2, .int a2)]) hx hb dX12_flow_184 rfl hl (by decide) rfl (fun ls hl => ?_)
                            refine lv_iconst (v := 0) hx hb dX12_flow_185 (by decide) ?_
                            refine lv_istore (lv' := [(4, .int 0), (3, .int 0), (0, .ref (ad 0)), (1, .int a1), (2, .int a2)]) hx hb dX12_flow_186 hl (by decide) rfl (fun ls hl => ?_)
                            have lp208 : ∀ (f : Nat) (y209 : Int32) (y210 : Int32) (I211 : z_I) (J212 : z_J) (H : Heap) (locs : List Loc) (ls : Array Slot), (z_Sm (z_RM I211) < f) → (z_imr I211) → (z_ims I211) → (z_rg 52 0 50 I211) → (z_rg 53 0 20 I211) → (z_rg 54 0 999 I211) → (z_rg 55 0 100 I211) → (z_rg 56 (-999) 999 I211) → (z_rg 58 0 15 I211) → (z_rg 57 (-300000) 1000000 I211) → (z_FP I211) → (z_fr L_X12_flow I211 I) → z_W G A (shM, ad, I211, J212, PM ad) H → va_S A s.heap H locs → lv_has ls 7 [(4, .int y209), (3, .int y210), (0, .ref (ad 0)), (1, .int a1), (2, .int a2)] → W p l e (headSpec wsX12_flow { frames := 2, cells := 0, slots := 0, locals := 36 }).room s m ([.ref (ad 0), .int a1, .int a2] : List Value).toArray below meth c0 H locs 0 0 (MQ below (va_Qi (fun (r : Int32) (u1 : z_U) => ∃ (I1 : z_I) (J1 : z_J), u1 = (shM, ad, I1, J1, PM ad) ∧ z_imr I1 ∧ z_ims I1 ∧ z_rg 52 0 50 I1 ∧ z_rg 53 0 20 I1 ∧ z_rg 54 0 999 I1 ∧ z_rg 55 0 100 I1 ∧ z_rg 56 (-999) 999 I1 ∧ z_rg 58 0 15 I1 ∧ z_rg 57 (-300000) 1000000 I1 ∧ z_fr L_X12_flow I1 I) (z_B G A) A) ([.ref (ad 0), .int a1, .int a2] : List Value).toArray s 0 0 A) (F0 m 188 ls []) := by
                              intro f
                              induction f with
                              | zero => intro y209 y210 I211 J212 H locs ls lp208m lp208mr lp208ms lp208Ald lp208Awt lp208Ard lp208Arm lp208Ami lp208Abk lp208Afr lp208P lp208fr hW hS hl; exact False.elim (by exact absurd lp208m (Nat.not_lt_zero _))
                              | succ f lp208ih =>
                                intro y209 y210 I211 J212 H locs ls lp208m lp208mr lp208ms lp208Ald lp208Awt lp208Ard lp208Arm lp208Ami lp208Abk lp208Afr lp208P lp208fr hW hS hl
                                refine lv_aload_n hx hb dX12_flow_188 rfl (lv_at hl 2 rfl) ?_
                                refine z_ci hW hS hA (va_runV (As := []) (rest := []) ⟨hx, hb, hml, hown, hts⟩ (sx_X12_finds l G ad I211 J212 lp208Arm lp208Ami lp208Abk lp208Afr lp208P _) (cwV 0 hts gX12_flow_X12_finds rfl rfl rfl hy_X12_finds ⟨Nat.le_of_ble_eq_true rfl, Nat.le_of_ble_eq_true rfl⟩) (z_preV (i := 0) hK hW rfl rfl) rfl rfl hl.1 rfl (lv_room (Nat.le_of_ble_eq_true rfl)) dX12_flow_189 ⟨Nat.le_of_ble_eq_true rfl, Nat.le_of_ble_eq_true rfl⟩) (fun r u1 H locs hp hW hS => ?_)
                                obtain ⟨I213, J215, e9, hI213Arm, hI213Ami, hI213Abk, hI213Afr, fI213, hp⟩ := hp
                                rw [e9] at hW
                                have f214 := z_fr_sub (L := L_X12_flow) lp208fr fI213 (by decide)
                                have k216 : 0 ≤ (I213 0 75).toInt ∧ (I213 0 75).toInt ≤ 4 := by rw [fI213 0 75 (by decide)]; exact (by show 0 ≤ (I211 0 75).toInt ∧ (I211 0 75).toInt ≤ 4; exact lp208mr)
                                have k217 : 0 ≤ (I213 0 54).toInt ∧ (I213 0 54).toInt ≤ 10 := by rw [fI213 0 54 (by decide)]; exact (by show 0 ≤ (I211 0 54).toInt ∧ (I211 0 54).toInt ≤ 10; exact lp208ms.1)
                                have k218 : 0 ≤ (I213 0 55).toInt ∧ (I213 0 55).toInt ≤ 300 := by rw [fI213 0 55 (by decide)]; exact (by show 0 ≤ (I211 0 55).toInt ∧ (I211 0 55).toInt ≤ 300; exact lp208ms.2)
                                rcases hp with ⟨rfl, hFD⟩ | rfl
                                · refine lv_if_eq (tgt := 336) hx hb dX12_flow_192 (by decide) (fun c219 => absurd c219 (by decide)) (fun c219 => ?_)
                                  obtain ⟨pi, mm, hfd, hrm⟩ := hFD.2
                                  refine lv_sipush (v := 1000) hx hb dX12_flow_195 (by decide) ?_
                                  refine lv_istore (lv' := [(5, .int 1000), (4, .int y209), (3, .int y210), (0, .ref (ad 0)), (1, .int a1), (2, .int a2)]) hx hb dX12_flow_198 hl (by decide) rfl (fun ls hl => ?_)
                                  refine lv_bipush (v := 15) hx hb dX12_flow_200 (by decide) ?_
                                  refine lv_istore (lv' := [(6, .int 15), (5, .int 1000), (4, .int y209), (3, .int y210), (0, .ref (ad 0)), (1, .int a1), (2, .int a2)]) hx hb dX12_flow_202 hl (by decide) rfl (fun ls hl => ?_)
                                  have lp220 : ∀ (f : Nat) (y221 : Int32) (y222 : Int32) (H : Heap) (locs : List Loc) (ls : Array Slot), (mm y221.toNatClampNeg < f) → (0 ≤ y221.toInt) → (y221.toInt ≤ 15) → (1 ≤ y222.toInt) → (y222.toInt ≤ 1000) → (y221.toNatClampNeg < 16 ∧ z_FM I213 y221.toNatClampNeg < 1000000) → (∀ x, z_oc (z_BM I213) 15 x → ¬ z_oc (z_BM I213) y221.toNatClampNeg x → y222.toInt ≤ z_RM I213 (z_BM I213 x) x) → z_W G A (shM, ad, I213, J215, PM ad) H → va_S A s.heap H locs → lv_has ls 7 [(6, .int y221), (5, .int y222), (4, .int y209), (3, .int y210), (0, .ref (ad 0)), (1, .int a1), (2, .int a2)] → W p l e (headSpec wsX12_flow { frames := 2, cells := 0, slots := 0, locals := 36 }).room s m ([.ref (ad 0), .int a1, .int a2] : List Value).toArray below meth c0 H locs 0 0 (MQ below (va_Qi (fun (r : Int32) (u1 : z_U) => ∃ (I1 : z_I) (J1 : z_J), u1 = (shM, ad, I1, J1, PM ad) ∧ z_imr I1 ∧ z_ims I1 ∧ z_rg 52 0 50 I1 ∧ z_rg 53 0 20 I1 ∧ z_rg 54 0 999 I1 ∧ z_rg 55 0 100 I1 ∧ z_rg 56 (-999) 999 I1 ∧ z_rg 58 0 15 I1 ∧ z_rg 57 (-300000) 1000000 I1 ∧ z_fr L_X12_flow I1 I) (z_B G A) A) ([.ref (ad 0), .int a1, .int a2] : List Value).toArray s 0 0 A) (F0 m 204 ls []) := by
                                    intro f
                                    induction f with
                                    | zero => intro y221 y222 H locs ls lp220m lp220l6 lp220u6 lp220l5 lp220u5 lp220G lp220N hW hS hl; exact False.elim (by exact absurd lp220m (Nat.not_lt_zero _))
                                    | succ f lp220ih =>
                                      intro y221 y222 H locs ls lp220m lp220l6 lp220u6 lp220l5 lp220u5 lp220G lp220N hW hS hl
                                      refine lv_iload hx hb dX12_flow_204 (lv_at hl 0 rfl) ?_
                                      refine lv_if_eq (tgt := 246) hx hb dX12_flow_206 (by decide) (fun c223 => ?_) (fun c223 => ?_)
                                      · have g224 := z_f_eq rfl z_l0 c223
                                        refine lv_bipush (v := 15) hx hb dX12_flow_246 (by decide) ?_
                                        refine lv_istore (lv' := [(6, .int 15), (5, .int y222), (4, .int y209), (3, .int y210), (0, .ref (ad 0)), (1, .int a1), (2, .int a2)]) hx hb dX12_flow_248 hl (by decide) rfl (fun ls hl => ?_)
                                        have lp225 : ∀ (f : Nat) (y226 : Int32) (I227 : z_I) (J228 : z_J) (H : Heap) (locs : List Loc) (ls : Array Slot), (mm y226.toNatClampNeg < f) → (0 ≤ y226.toInt) → (y226.toInt ≤ 15) → (z_imr I227) → (z_ims I227) → (z_rg 52 0 50 I227) → (z_rg 53 0 20 I227) → (z_rg 54 0 999 I227) → (z_rg 55 0 100 I227) → (z_rg 56 (-999) 999 I227) → (z_rg 58 0 15 I227) → (z_rg 57 (-300000) 1000000 I227) → ((∀ k, I227 58 k = I213 58 k) ∧ (∀ k, I227 57 k = I213 57 k) ∧ (∀ k, I227 56 k = I213 56 k)) → (y226.toNatClampNeg < 16 ∧ z_FM I213 y226.toNatClampNeg < 1000000) → (z_rm (z_RM I227) (z_CM I227) pi) → (∀ x, z_oc (z_BM I213) y226.toNatClampNeg x → y222.toInt ≤ z_RM I227 (z_BM I213 x) x) → (z_Sm (z_RM I227) ≤ z_Sm (z_RM I213) ∧ (y226.toNatClampNeg = 0 → z_Sm (z_RM I227) < z_Sm (z_RM I213))) → (z_fr L_X12_flow I227 I) → z_W G A (shM, ad, I227, J228, PM ad) H → va_S A s.heap H locs → lv_has ls 7 [(6, .int y226), (5, .int y222), (4, .int y209), (3, .int y210), (0, .ref (ad 0)), (1, .int a1), (2, .int a2)] → W p l e (headSpec wsX12_flow { frames := 2, cells := 0, slots := 0, locals := 36 }).room s m ([.ref (ad 0), .int a1, .int a2] : List Value).toArray below meth c0 H locs 0 0 (MQ below (va_Qi (fun (r : Int32) (u1 : z_U) => ∃ (I1 : z_I) (J1 : z_J), u1 = (shM, ad, I1, J1, PM ad) ∧ z_imr I1 ∧ z_ims I1 ∧ z_rg 52 0 50 I1 ∧ z_rg 53 0 20 I1 ∧ z_rg 54 0 999 I1 ∧ z_rg 55 0 100 I1 ∧ z_rg 56 (-999) 999 I1 ∧ z_rg 58 0 15 I1 ∧ z_rg 57 (-300000) 1000000 I1 ∧ z_fr L_X12_flow I1 I) (z_B G A) A) ([.ref (ad 0), .int a1, .int a2] : List Value).toArray s 0 0 A) (F0 m 250 ls []) := by
                                          intro f
                                          induction f with
                                          | zero => intro y226 I227 J228 H locs ls lp225m lp225l6 lp225u6 lp225mr lp225ms lp225Ald lp225Awt lp225Ard lp225Arm lp225Ami lp225Abk lp225Afr lp225K lp225G lp225A lp225N lp225S lp225fr hW hS hl; exact False.elim (by exact absurd lp225m (Nat.not_lt_zero _))
                                          | succ f lp225ih =>
                                            intro y226 I227 J228 H locs ls lp225m lp225l6 lp225u6 lp225mr lp225ms lp225Ald lp225Awt lp225Ard lp225Arm lp225Ami lp225Abk lp225Afr lp225K lp225G lp225A lp225N lp225S lp225fr hW hS hl
                                            refine lv_iload hx hb dX12_flow_250 (lv_at hl 0 rfl) ?_
                                            refine lv_if_eq (tgt := 313) hx hb dX12_flow_252 (by decide) (fun c229 => ?_) (fun c229 => ?_)
                                            · have g230 := z_f_eq rfl z_l0 c229
                                              refine lv_iload_n hx hb dX12_flow_313 rfl (lv_at hl 3 rfl) ?_
                                              refine lv_iload hx hb dX12_flow_314 (lv_at hl 1 rfl) ?_
                                              refine lv_iadd hx hb dX12_flow_316 ?_
                                              refine lv_topi (fun x231 ex231 => ?_)
                                              refine lv_istore_n (lv' := [(3, .int x231), (6, .int y226), (5, .int y222), (4, .int y209), (0, .ref (ad 0)), (1, .int a1), (2, .int a2)]) hx hb dX12_flow_317 rfl hl (by decide) rfl (fun ls hl => ?_)
                                              refine lv_iload hx hb dX12_flow_318 (lv_at hl 3 rfl) ?_
                                              refine lv_iload hx hb dX12_flow_320 (lv_at hl 2 rfl) ?_
                                              refine lv_aload_n hx hb dX12_flow_322 rfl (lv_at hl 4 rfl) ?_
                                              refine z_get (T := TX12) (N := 96) (ci := 12) (i := 0) (v := .ref (ad 57)) hx hb hts zj_X12_flow_X12 hown hK hW rfl rfl 81 (by decide) (hts (.fieldLink RX12 187 "PetrolBoardModel" "far" "[I") (me_s (me_l (me_l (List.mem_of_getElem? (i := 8) rfl))))) (fun _ h => h) rfl dX12_flow_323 ?_
                                              refine lv_bipush (v := 15) hx hb dX12_flow_326 (by decide) ?_
                                              refine z_iald (i := 57) hx hb hK hW rfl (z_inl (by decide)) dX12_flow_328 ?_
                                              refine lv_topi (fun x232 ex232 => ?_)
                                              have h233 : (-300000) ≤ x232.toInt ∧ x232.toInt ≤ 1000000 := by rw [ex232]; exact lp225Afr _
                                              refine lv_imul hx hb dX12_flow_329 ?_
                                              refine lv_topi (fun x234 ex234 => ?_)
                                              refine lv_iadd hx hb dX12_flow_330 ?_
                                              refine lv_topi (fun x235 ex235 => ?_)
                                              refine lv_istore (lv' := [(4, .int x235), (3, .int x231), (6, .int y226), (5, .int y222), (0, .ref (ad 0)), (1, .int a1), (2, .int a2)]) hx hb dX12_flow_331 hl (by decide) rfl (fun ls hl => ?_)
                                              refine lv_goto (tgt := 188) hx hb dX12_flow_333 (by decide) ?_
                                              exact lp208ih x235 x231 I227 J228 _ _ _ (by have q9 := lp225S.2 (by have := z_clt (x := y226) rfl (by omega); omega); have q8 : z_RM I213 = z_RM I211 := z_RM_c (fun k => fI213 55 k (z_wr_c (by decide))); rw [q8] at q9; exact Nat.lt_of_lt_of_le q9 (Nat.le_of_lt_succ lp208m)) (by show 0 ≤ (I227 0 75).toInt ∧ (I227 0 75).toInt ≤ 4; exact lp225mr) ⟨(by show 0 ≤ (I227 0 54).toInt ∧ (I227 0 54).toInt ≤ 10; exact lp225ms.1), (by show 0 ≤ (I227 0 55).toInt ∧ (I227 0 55).toInt ≤ 300; exact lp225ms.2)⟩ lp225Ald lp225Awt lp225Ard lp225Arm lp225Ami lp225Abk lp225Afr ⟨pi, lp225A⟩ lp225fr hW hS (lv_sub hl [0, 1, 4, 5, 6] rfl)
                                            · have g236 := z_f_ne rfl z_l0 c229
                                              have hV0 : y226.toNatClampNeg ≠ 0 := by have := z_clt (x := y226) rfl (by omega); omega
                                              obtain ⟨c1, c2, c3, c4, c5⟩ := hfd.2 y226.toNatClampNeg lp225G.1 hV0 lp225G.2
                                              refine lv_aload_n hx hb dX12_flow_255 rfl (lv_at hl 4 rfl) ?_
                                              refine z_get (T := TX12) (N := 96) (ci := 12) (i := 0) (v := .ref (ad 55)) hx hb hts zj_X12_flow_X12 hown hK hW rfl rfl 79 (by decide) (hts (.fieldLink RX12 181 "PetrolBoardModel" "room" "[I") (me_s (me_l (me_l (List.mem_of_getElem? (i := 1) rfl))))) (fun _ h => h) rfl dX12_flow_256 ?_
                                              refine lv_bipush (v := 16) hx hb dX12_flow_259 (by decide) ?_
                                              refine lv_aload_n hx hb dX12_flow_261 rfl (lv_at hl 4 rfl) ?_
                                              refine z_get (T := TX12) (N := 96) (ci := 12) (i := 0) (v := .ref (ad 58)) hx hb hts zj_X12_flow_X12 hown hK hW rfl rfl 82 (by decide) (hts (.fieldLink RX12 190 "PetrolBoardModel" "back" "[I") (me_s (me_l (me_l (List.mem_of_getElem? (i := 7) rfl))))) (fun _ h => h) rfl dX12_flow_262 ?_
                                              refine lv_iload hx hb dX12_flow_265 (lv_at hl 0 rfl) ?_
                                              refine z_iald (i := 58) hx hb hK hW rfl (z_ix rfl (by omega) (by omega)) dX12_flow_267 ?_
                                              refine lv_topi (fun x237 ex237 => ?_)
                                              have h238 : 0 ≤ x237.toInt ∧ x237.toInt ≤ 15 := by rw [ex237]; exact lp225Abk _
                                              have hbk : z_BM I213 y226.toNatClampNeg = x237.toNatClampNeg := by rw [ex237, lp225K.1]; rfl
                                              refine lv_imul hx hb dX12_flow_268 ?_
                                              refine lv_topi (fun x239 ex239 => ?_)
                                              have tx239 : x239.toInt = 16 * x237.toInt := z_tmul ex239 z_l16 rfl (by omega) (by omega)
                                              refine lv_iload hx hb dX12_flow_269 (lv_at hl 0 rfl) ?_
                                              refine lv_iadd hx hb dX12_flow_271 ?_
                                              refine lv_topi (fun x240 ex240 => ?_)
                                              have tx240 : x240.toInt = x239.toInt + y226.toInt := z_tadd ex240 rfl rfl (by omega) (by omega)
                                              refine lv_dup2_11 hx hb dX12_flow_272 rfl rfl ?_
                                              refine z_iald (i := 55) hx hb hK hW rfl (z_ix rfl (by omega) (by omega)) dX12_flow_273 ?_
                                              refine lv_topi (fun x241 ex241 => ?_)
                                              have h242 : 0 ≤ x241.toInt ∧ x241.toInt ≤ 100 := by rw [ex241]; exact lp225Arm _
                                              have hj1 : x240.toNatClampNeg = 16 * x237.toNatClampNeg + y226.toNatClampNeg := z_ixm (by omega) (by omega) (by omega)
                                              have hr1 : x241.toInt = z_RM I227 x237.toNatClampNeg y226.toNatClampNeg := by rw [ex241, hj1]; rfl
                                              have hn1 := lp225N y226.toNatClampNeg ((z_oc_s hV0).2 (Or.inl rfl))
                                              rw [hbk, ← hr1] at hn1
                                              have hbu : x237.toNatClampNeg < 16 := by rw [← hbk]; exact c1
                                              have hbv : x237.toNatClampNeg ≠ y226.toNatClampNeg := fun q => by rw [hbk, q] at c5; omega
                                              have hA2 := lp225A.2 x237.toNatClampNeg y226.toNatClampNeg (by rw [← hbk]; exact c1) lp225G.1
                                              refine lv_iload hx hb dX12_flow_274 (lv_at hl 1 rfl) ?_
                                              refine lv_isub hx hb dX12_flow_276 ?_
                                              refine lv_topi (fun x243 ex243 => ?_)
                                              have tx243 : x243.toInt = x241.toInt - y222.toInt := z_tsub ex243 rfl rfl (by omega) (by omega)
                                              refine z_iast (i := 55) hx hb hK hW hS rfl (z_ix rfl (by omega) (by omega)) dX12_flow_277 (fun H locs hz1 hW hS => ?_)
                                              obtain ⟨I244, eI244⟩ : ∃ K : z_I, K = z_up I227 55 x240.toNatClampNeg x243 := ⟨_, rfl⟩
                                              rw [← eI244] at hW
                                              have f245 := z_fr_a lp225fr (show z_wa L_X12_flow 55 = true by decide) eI244
                                              have a246 := z_rg_n lp225Ald (by decide) eI244
                                              have a247 := z_rg_n lp225Awt (by decide) eI244
                                              have a248 := z_rg_n lp225Ard (by decide) eI244
                                              have a249 := z_rg_a lp225Arm (by omega) eI244
                                              have a250 := z_rg_n lp225Ami (by decide) eI244
                                              have a251 := z_rg_n lp225Abk (by decide) eI244
                                              have a252 := z_rg_n lp225Afr (by decide) eI244
                                              refine lv_aload_n hx hb dX12_flow_278 rfl (lv_at hl 4 rfl) ?_
                                              refine z_get (T := TX12) (N := 96) (ci := 12) (i := 0) (v := .ref (ad 55)) hx hb hts zj_X12_flow_X12 hown hK hW rfl rfl 79 (by decide) (hts (.fieldLink RX12 181 "PetrolBoardModel" "room" "[I") (me_s (me_l (me_l (List.mem_of_getElem? (i := 1) rfl))))) (fun _ h => h) rfl dX12_flow_279 ?_
                                              refine lv_bipush (v := 16) hx hb dX12_flow_282 (by decide) ?_
                                              refine lv_iload hx hb dX12_flow_284 (lv_at hl 0 rfl) ?_
                                              refine lv_imul hx hb dX12_flow_286 ?_
                                              refine lv_topi (fun x253 ex253 => ?_)
                                              have tx253 : x253.toInt = 16 * y226.toInt := z_tmul ex253 z_l16 rfl (by omega) (by omega)
                                              refine lv_aload_n hx hb dX12_flow_287 rfl (lv_at hl 4 rfl) ?_
                                              refine z_get (T := TX12) (N := 96) (ci := 12) (i := 0) (v := .ref (ad 58)) hx hb hts zj_X12_flow_X12 hown hK hW rfl rfl 82 (by decide) (hts (.fieldLink RX12 190 "PetrolBoardModel" "back" "[I") (me_s (me_l (me_l (List.mem_of_getElem? (i := 7) rfl))))) (fun _ h => h) rfl dX12_flow_288 ?_
                                              refine lv_iload hx hb dX12_flow_291 (lv_at hl 0 rfl) ?_
                                              refine z_iald (i := 58) hx hb hK hW rfl (z_ix rfl (by omega) (by omega)) dX12_flow_293 ?_
                                              refine z_topi (v := x237) (by rw [eI244, z_up_n (by decide)]; exact ex237.symm) ?_
                                              refine lv_iadd hx hb dX12_flow_294 ?_
                                              refine lv_topi (fun x254 ex254 => ?_)
                                              have tx254 : x254.toInt = x253.toInt + x237.toInt := z_tadd ex254 rfl rfl (by omega) (by omega)
                                              refine lv_dup2_11 hx hb dX12_flow_295 rfl rfl ?_
                                              refine z_iald (i := 55) hx hb hK hW rfl (z_ix rfl (by omega) (by omega)) dX12_flow_296 ?_
                                              refine lv_topi (fun x255 ex255 => ?_)
                                              have h256 : 0 ≤ x255.toInt ∧ x255.toInt ≤ 100 := by rw [ex255]; exact a249 _
                                              have hj2 : x254.toNatClampNeg = 16 * y226.toNatClampNeg + x237.toNatClampNeg := z_ixm (by omega) (by omega) (by omega)
                                              have hr2 : x255.toInt = z_RM I227 y226.toNatClampNeg x237.toNatClampNeg := by rw [ex255, eI244, z_up_k (by rw [hj1, hj2]; omega), hj2]; rfl
                                              refine lv_iload hx hb dX12_flow_297 (lv_at hl 1 rfl) ?_
                                              refine lv_iadd hx hb dX12_flow_299 ?_
                                              refine lv_topi (fun x257 ex257 => ?_)
                                              have tx257 : x257.toInt = x255.toInt + y222.toInt := z_tadd ex257 rfl rfl (by omega) (by omega)
                                              refine z_iast (i := 55) hx hb hK hW hS rfl (z_ix rfl (by omega) (by omega)) dX12_flow_300 (fun H locs hz1 hW hS => ?_)
                                              obtain ⟨I258, eI258⟩ : ∃ K : z_I, K = z_up I244 55 x254.toNatClampNeg x257 := ⟨_, rfl⟩
                                              rw [← eI258] at hW
                                              have f259 := z_fr_a f245 (show z_wa L_X12_flow 55 = true by decide) eI258
                                              have a260 := z_rg_n a246 (by decide) eI258
                                              have a261 := z_rg_n a247 (by decide) eI258
                                              have a262 := z_rg_n a248 (by decide) eI258
                                              have a263 := z_rg_a a249 (by omega) eI258
                                              have a264 := z_rg_n a250 (by decide) eI258
                                              have a265 := z_rg_n a251 (by decide) eI258
                                              have a266 := z_rg_n a252 (by decide) eI258
                                              have hau := z_augm (n := y222.toInt) eI244 eI258 hj1 hj2 hr1 hr2 (by omega) (by omega) hbu lp225G.1 hbv
                                              have hcc : z_CM I227 x237.toNatClampNeg y226.toNatClampNeg + pi x237.toNatClampNeg - pi y226.toNatClampNeg = 0 := by rw [z_CM_c lp225K.2.2, ← hbk]; exact c4
                                              have hag := z_aug lp225A hbu lp225G.1 hV0 hbv hcc (by omega) (by rw [← hr1]; exact hn1) hau.1 hau.2.1 hau.2.2
                                              refine lv_aload_n hx hb dX12_flow_301 rfl (lv_at hl 4 rfl) ?_
                                              refine z_get (T := TX12) (N := 96) (ci := 12) (i := 0) (v := .ref (ad 58)) hx hb hts zj_X12_flow_X12 hown hK hW rfl rfl 82 (by decide) (hts (.fieldLink RX12 190 "PetrolBoardModel" "back" "[I") (me_s (me_l (me_l (List.mem_of_getElem? (i := 7) rfl))))) (fun _ h => h) rfl dX12_flow_302 ?_
                                              refine lv_iload hx hb dX12_flow_305 (lv_at hl 0 rfl) ?_
                                              refine z_iald (i := 58) hx hb hK hW rfl (z_ix rfl (by omega) (by omega)) dX12_flow_307 ?_
                                              refine z_topi (v := x237) (by rw [eI258, z_up_n (by decide), eI244, z_up_n (by decide)]; exact ex237.symm) ?_
                                              refine lv_istore (lv' := [(6, .int x237), (5, .int y222), (4, .int y209), (3, .int y210), (0, .ref (ad 0)), (1, .int a1), (2, .int a2)]) hx hb dX12_flow_308 hl (by decide) rfl (fun ls hl => ?_)
                                              refine lv_goto (tgt := 250) hx hb dX12_flow_310 (by decide) ?_
                                              exact lp225ih x237 I258 J228 _ _ _ (by rw [← hbk]; omega) (by omega) (by omega) (by show 0 ≤ (I258 0 75).toInt ∧ (I258 0 75).toInt ≤ 4; rw [eI258, z_up_n (by decide), eI244, z_up_n (by decide)]; exact lp225mr) ⟨(by show 0 ≤ (I258 0 54).toInt ∧ (I258 0 54).toInt ≤ 10; rw [eI258, z_up_n (by decide), eI244, z_up_n (by decide)]; exact lp225ms.1), (by show 0 ≤ (I258 0 55).toInt ∧ (I258 0 55).toInt ≤ 300; rw [eI258, z_up_n (by decide), eI244, z_up_n (by decide)]; exact lp225ms.2)⟩ a260 a261 a262 a263 a264 a265 a266 ⟨fun k => by rw [eI258, z_up_n (by decide), eI244, z_up_n (by decide)]; exact lp225K.1 k, fun k => by rw [eI258, z_up_n (by decide), eI244, z_up_n (by decide)]; exact lp225K.2.1 k, fun k => by rw [eI258, z_up_n (by decide), eI244, z_up_n (by decide)]; exact lp225K.2.2 k⟩ ⟨by rw [← hbk]; exact c1, by rw [← hbk]; exact c2⟩ (by rw [show z_CM I258 = z_CM I227 from z_CM_c (fun k => by rw [eI258, z_up_n (by decide), eI244, z_up_n (by decide)])]; exact hag.1) (fun x hx => by obtain ⟨k9, hk1, hk2⟩ := (show z_oc (z_BM I213) (z_BM I213 y226.toNatClampNeg) x from by rw [hbk]; exact hx); have hx9 := z_oc_m hfd k9 _ x c1 c2 hk1 hk2; have hxb := hfd.2 x hx9.1 hx9.2.2.1 hx9.2.1; have hxn := lp225N x ((z_oc_s hV0).2 (Or.inr ⟨k9, hk1, hk2⟩)); have hxv : x ≠ y226.toNatClampNeg := (fun q => by rw [q] at hx9; omega); by_cases q9 : z_BM I213 x = y226.toNatClampNeg ∧ x = x237.toNatClampNeg; (· (rw [q9.1, q9.2, hau.2.1]; rw [q9.1, q9.2] at hxn; omega)); (· (rw [hau.2.2 _ _ hxb.1 hx9.1 (fun q => hxv q.2) q9]; exact hxn))) ⟨Nat.le_trans hag.2.1 lp225S.1, fun q => Nat.lt_of_lt_of_le (hag.2.2 q) lp225S.1⟩ f259 hW hS (lv_sub hl [0, 1, 2, 3, 4, 5, 6] rfl)
                                        exact lp225 (mm 15 + 1) (15) I213 J215 _ _ _ (by rw [z_n15]; exact Nat.lt_succ_self _) (by rw [z_l15]; omega) (by rw [z_l15]; omega) (by show 0 ≤ (I213 0 75).toInt ∧ (I213 0 75).toInt ≤ 4; exact k216) ⟨(by show 0 ≤ (I213 0 54).toInt ∧ (I213 0 54).toInt ≤ 10; exact k217), (by show 0 ≤ (I213 0 55).toInt ∧ (I213 0 55).toInt ≤ 300; exact k218)⟩ (z_rg_fr lp208Ald fI213 (by decide)) (z_rg_fr lp208Awt fI213 (by decide)) (z_rg_fr lp208Ard fI213 (by decide)) hI213Arm hI213Ami hI213Abk hI213Afr ⟨fun k => rfl, fun k => rfl, fun k => rfl⟩ ⟨by decide, by rw [z_n15]; exact hFD.1⟩ hrm (fun x hx => by refine lp220N x (by rw [z_n15] at hx; exact hx) (by rw [show y221.toNatClampNeg = 0 from by have := z_clt (x := y221) rfl (by omega); omega]; exact z_oc_0)) ⟨Nat.le_refl _, fun q => absurd q (by decide)⟩ f214 hW hS (lv_sub hl [0, 1, 2, 3, 4, 5, 6] rfl)
                                      · have g267 := z_f_ne rfl z_l0 c223
                                        have hV0 : y221.toNatClampNeg ≠ 0 := by have := z_clt (x := y221) rfl (by omega); omega
                                        obtain ⟨c1, c2, c3, c4, c5⟩ := hfd.2 y221.toNatClampNeg lp220G.1 hV0 lp220G.2
                                        refine lv_iload hx hb dX12_flow_209 (lv_at hl 1 rfl) ?_
                                        refine lv_aload_n hx hb dX12_flow_211 rfl (lv_at hl 4 rfl) ?_
                                        refine z_get (T := TX12) (N := 96) (ci := 12) (i := 0) (v := .ref (ad 55)) hx hb hts zj_X12_flow_X12 hown hK hW rfl rfl 79 (by decide) (hts (.fieldLink RX12 181 "PetrolBoardModel" "room" "[I") (me_s (me_l (me_l (List.mem_of_getElem? (i := 1) rfl))))) (fun _ h => h) rfl dX12_flow_212 ?_
                                        refine lv_bipush (v := 16) hx hb dX12_flow_215 (by decide) ?_
                                        refine lv_aload_n hx hb dX12_flow_217 rfl (lv_at hl 4 rfl) ?_
                                        refine z_get (T := TX12) (N := 96) (ci := 12) (i := 0) (v := .ref (ad 58)) hx hb hts zj_X12_flow_X12 hown hK hW rfl rfl 82 (by decide) (hts (.fieldLink RX12 190 "PetrolBoardModel" "back" "[I") (me_s (me_l (me_l (List.mem_of_getElem? (i := 7) rfl))))) (fun _ h => h) rfl dX12_flow_218 ?_
                                        refine lv_iload hx hb dX12_flow_221 (lv_at hl 0 rfl) ?_
                                        refine z_iald (i := 58) hx hb hK hW rfl (z_ix rfl (by omega) (by omega)) dX12_flow_223 ?_
                                        refine lv_topi (fun x268 ex268 => ?_)
                                        have h269 : 0 ≤ x268.toInt ∧ x268.toInt ≤ 15 := by rw [ex268]; exact hI213Abk _
                                        have hbk : z_BM I213 y221.toNatClampNeg = x268.toNatClampNeg := by rw [ex268]; rfl
                                        refine lv_imul hx hb dX12_flow_224 ?_
                                        refine lv_topi (fun x270 ex270 => ?_)
                                        have tx270 : x270.toInt = 16 * x268.toInt := z_tmul ex270 z_l16 rfl (by omega) (by omega)
                                        refine lv_iload hx hb dX12_flow_225 (lv_at hl 0 rfl) ?_
                                        refine lv_iadd hx hb dX12_flow_227 ?_
                                        refine lv_topi (fun x271 ex271 => ?_)
                                        have tx271 : x271.toInt = x270.toInt + y221.toInt := z_tadd ex271 rfl rfl (by omega) (by omega)
                                        refine z_iald (i := 55) hx hb hK hW rfl (z_ix rfl (by omega) (by omega)) dX12_flow_228 ?_
                                        refine lv_topi (fun x272 ex272 => ?_)
                                        have h273 : 0 ≤ x272.toInt ∧ x272.toInt ≤ 100 := by rw [ex272]; exact hI213Arm _
                                        have hr : x272.toInt = z_RM I213 x268.toNatClampNeg y221.toNatClampNeg := by rw [ex272, z_ixm (a := x268) (b := y221) (by omega) (by omega) (by omega)]; rfl
                                        rw [← hbk] at hr
                                        refine z_ci hW hS hA (va_runS (As := [.int y222, .int x272]) (rest := []) ⟨hx, hb, hml, hown, hts⟩ (sx_X12_min2 l G ad I213 J215  y222 x272 _) (va_cwS 2 hts gX12_flow_X12_min rfl rfl rfl hy_X12_min.2 ⟨Nat.le_of_ble_eq_true rfl, Nat.le_of_ble_eq_true rfl⟩) (z_preS hK hW) rfl rfl hl.1 rfl (lv_room (Nat.le_of_ble_eq_true rfl)) dX12_flow_229 ⟨Nat.le_of_ble_eq_true rfl, Nat.le_of_ble_eq_true rfl⟩) (fun r u1 H locs hp hW hS => ?_)
                                        obtain ⟨e9, hp⟩ := hp
                                        rw [e9] at hW
                                        refine lv_topi (fun x274 ex274 => ?_)
                                        rw [← ex274] at hp
                                        have h275 := hp
                                        refine lv_istore (lv' := [(5, .int x274), (6, .int y221), (4, .int y209), (3, .int y210), (0, .ref (ad 0)), (1, .int a1), (2, .int a2)]) hx hb dX12_flow_232 hl (by decide) rfl (fun ls hl => ?_)
                                        refine lv_aload_n hx hb dX12_flow_234 rfl (lv_at hl 4 rfl) ?_
                                        refine z_get (T := TX12) (N := 96) (ci := 12) (i := 0) (v := .ref (ad 58)) hx hb hts zj_X12_flow_X12 hown hK hW rfl rfl 82 (by decide) (hts (.fieldLink RX12 190 "PetrolBoardModel" "back" "[I") (me_s (me_l (me_l (List.mem_of_getElem? (i := 7) rfl))))) (fun _ h => h) rfl dX12_flow_235 ?_
                                        refine lv_iload hx hb dX12_flow_238 (lv_at hl 1 rfl) ?_
                                        refine z_iald (i := 58) hx hb hK hW rfl (z_ix rfl (by omega) (by omega)) dX12_flow_240 ?_
                                        refine z_topi (v := x268) ex268.symm ?_
                                        refine lv_istore (lv' := [(6, .int x268), (5, .int x274), (4, .int y209), (3, .int y210), (0, .ref (ad 0)), (1, .int a1), (2, .int a2)]) hx hb dX12_flow_241 hl (by decide) rfl (fun ls hl => ?_)
                                        refine lv_goto (tgt := 204) hx hb dX12_flow_243 (by decide) ?_
                                        exact lp220ih x268 x274 _ _ _ (by rw [← hbk]; omega) (by omega) (by omega) (by omega) (by omega) ⟨by rw [← hbk]; exact c1, by rw [← hbk]; exact c2⟩ (fun x hx hn => by by_cases q9 : x = y221.toNatClampNeg; (· (rw [q9, ← hr]; omega)); (· (have h9 := lp220N x hx (fun q => hn (by rw [← hbk]; exact ((z_oc_s hV0).1 q).resolve_left q9)); omega))) hW hS (lv_sub hl [0, 1, 2, 3, 4, 5, 6] rfl)
                                  exact lp220 (mm 15 + 1) (15) (1000) _ _ _ (by rw [z_n15]; exact Nat.lt_succ_self _) (by rw [z_l15]; omega) (by rw [z_l15]; omega) (by rw [z_l1000]; omega) (by rw [z_l1000]; omega) ⟨by decide, by rw [z_n15]; exact hFD.1⟩ (fun x hx hn => absurd (by rw [z_n15]; exact hx) hn) hW hS (lv_sub hl [0, 1, 2, 3, 4, 5, 6] rfl)
                                · refine lv_if_eq (tgt := 336) hx hb dX12_flow_192 (by decide) (fun c276 => ?_) (fun c276 => absurd (by decide) c276)
                                  refine lv_iload_n hx hb dX12_flow_336 rfl (lv_at hl 4 rfl) ?_
                                  refine lv_if_ne (tgt := 344) hx hb dX12_flow_337 (by decide) (fun c277 => ?_) (fun c277 => ?_)
                                  · have g278 := z_f_ne rfl z_l0 c277
                                    refine lv_iload hx hb dX12_flow_344 (lv_at hl 0 rfl) ?_
                                    exact z_iret hx hb hr hK hS (Nat.le_of_ble_eq_true rfl) (Nat.le_of_ble_eq_true rfl) hlocks dX12_flow_346 (shM, ad, I213, J215, PM ad) hW ⟨I213, J215, rfl, (by show 0 ≤ (I213 0 75).toInt ∧ (I213 0 75).toInt ≤ 4; exact k216), ⟨(by show 0 ≤ (I213 0 54).toInt ∧ (I213 0 54).toInt ≤ 10; exact k217), (by show 0 ≤ (I213 0 55).toInt ∧ (I213 0 55).toInt ≤ 300; exact k218)⟩, (z_rg_fr lp208Ald fI213 (by decide)), (z_rg_fr lp208Awt fI213 (by decide)), (z_rg_fr lp208Ard fI213 (by decide)), hI213Arm, hI213Ami, hI213Abk, hI213Afr, f214⟩
                                  · have g279 := z_f_eq rfl z_l0 c277
                                    refine lv_iload_n hx hb dX12_flow_340 rfl (lv_at hl 1 rfl) ?_
                                    refine lv_goto (tgt := 346) hx hb dX12_flow_341 (by decide) ?_
                                    exact z_iret hx hb hr hK hS (Nat.le_of_ble_eq_true rfl) (Nat.le_of_ble_eq_true rfl) hlocks dX12_flow_346 (shM, ad, I213, J215, PM ad) hW ⟨I213, J215, rfl, (by show 0 ≤ (I213 0 75).toInt ∧ (I213 0 75).toInt ≤ 4; exact k216), ⟨(by show 0 ≤ (I213 0 54).toInt ∧ (I213 0 54).toInt ≤ 10; exact k217), (by show 0 ≤ (I213 0 55).toInt ∧ (I213 0 55).toInt ≤ 300; exact k218)⟩, (z_rg_fr lp208Ald fI213 (by decide)), (z_rg_fr lp208Awt fI213 (by decide)), (z_rg_fr lp208Ard fI213 (by decide)), hI213Arm, hI213Ami, hI213Abk, hI213Afr, f214⟩
                            exact lp208 (z_Sm (z_RM I203) + 1) (0) (0) I203 J204 _ _ _ (Nat.lt_succ_self _) (by show 0 ≤ (I203 0 75).toInt ∧ (I203 0 75).toInt ≤ 4; exact lp201mr) ⟨(by show 0 ≤ (I203 0 54).toInt ∧ (I203 0 54).toInt ≤ 10; exact lp201ms.1), (by show 0 ≤ (I203 0 55).toInt ∧ (I203 0 55).toInt ≤ 300; exact lp201ms.2)⟩ lp201Ald lp201Awt lp201Ard lp201Arm lp201Ami lp201Abk lp201Afr (z_BL_FP lp201L) lp201fr hW hS (lv_sub hl [0, 1, 2, 3, 4] rfl)
                          · have g280 := z_f_nge rfl rfl c206
                            refine lv_aload_n hx hb dX12_flow_161 rfl (lv_at hl 1 rfl) ?_
                            refine lv_iconst (v := 5) hx hb dX12_flow_162 (by decide) ?_
                            refine lv_iload_n hx hb dX12_flow_163 rfl (lv_at hl 0 rfl) ?_
                            refine lv_iadd hx hb dX12_flow_164 ?_
                            refine lv_topi (fun x281 ex281 => ?_)
                            have tx281 : x281.toInt = 5 + y202.toInt := z_tadd ex281 z_l5 rfl (by omega) (by omega)
                            refine lv_bipush (v := 15) hx hb dX12_flow_165 (by decide) ?_
                            refine lv_aload_n hx hb dX12_flow_167 rfl (lv_at hl 1 rfl) ?_
                            refine z_get (T := TX12) (N := 96) (ci := 12) (i := 0) (v := .ref (ad 53)) hx hb hts zj_X12_flow_X12 hown hK hW rfl rfl 77 (by decide) (hts (.fieldLink RX12 175 "PetrolBoardModel" "wantOf" "[I") (me_s (me_l (me_l (List.mem_of_getElem? (i := 6) rfl))))) (fun _ h => h) rfl dX12_flow_168 ?_
                            refine lv_iload_n hx hb dX12_flow_171 rfl (lv_at hl 0 rfl) ?_
                            refine z_iald (i := 53) hx hb hK hW rfl (z_ix rfl (by omega) (by omega)) dX12_flow_172 ?_
                            refine lv_topi (fun x282 ex282 => ?_)
                            have h283 : 0 ≤ x282.toInt ∧ x282.toInt ≤ 20 := by rw [ex282]; exact lp201Awt _
                            refine lv_iconst (v := 0) hx hb dX12_flow_173 (by decide) ?_
                            refine z_cv hW hS hA (va_runV (As := [.int x281, .int 15, .int x282, .int 0]) (rest := []) ⟨hx, hb, hml, hown, hts⟩ (sx_X12_edge l G ad I203 J204 lp201Arm lp201Ami x281 15 x282 0 (by have := z_l15; have := z_l0; omega) (by have := z_l15; have := z_l0; omega) (by have := z_l15; have := z_l0; omega) (by have := z_l15; have := z_l0; omega) lp201L _) (cwV 4 hts gX12_flow_X12_edge rfl rfl rfl hy_X12_edge ⟨Nat.le_of_ble_eq_true rfl, Nat.le_of_ble_eq_true rfl⟩) (z_preV (i := 0) hK hW rfl rfl) rfl rfl hl.1 rfl (lv_room (Nat.le_of_ble_eq_true rfl)) dX12_flow_174 ⟨Nat.le_of_ble_eq_true rfl, Nat.le_of_ble_eq_true rfl⟩) (fun u1 H locs hp hW hS => ?_)
                            obtain ⟨I284, J286, e9, hI284Arm, hI284Ami, fI284, hp⟩ := hp
                            rw [e9] at hW
                            have f285 := z_fr_sub (L := L_X12_flow) lp201fr fI284 (by decide)
                            have k287 : 0 ≤ (I284 0 75).toInt ∧ (I284 0 75).toInt ≤ 4 := by rw [fI284 0 75 (by decide)]; exact (by show 0 ≤ (I203 0 75).toInt ∧ (I203 0 75).toInt ≤ 4; exact lp201mr)
                            have k288 : 0 ≤ (I284 0 54).toInt ∧ (I284 0 54).toInt ≤ 10 := by rw [fI284 0 54 (by decide)]; exact (by show 0 ≤ (I203 0 54).toInt ∧ (I203 0 54).toInt ≤ 10; exact lp201ms.1)
                            have k289 : 0 ≤ (I284 0 55).toInt ∧ (I284 0 55).toInt ≤ 300 := by rw [fI284 0 55 (by decide)]; exact (by show 0 ≤ (I203 0 55).toInt ∧ (I203 0 55).toInt ≤ 300; exact lp201ms.2)
                            have h290 := hp
                            obtain ⟨x291, ex291⟩ : ∃ y : Int32, y = y202 + 1 := ⟨_, rfl⟩
                            have tx291 : x291.toInt = y202.toInt + 1 := z_tadd ex291 rfl z_l1 (by omega) (by omega)
                            refine lv_iinc (v := x291) (lv' := [(3, .int x291), (0, .ref (ad 0)), (1, .int a1), (2, .int a2)]) hx hb dX12_flow_177 hl (k := 0) rfl (by rw [ex291]; rfl) (by decide) rfl (fun ls hl => ?_)
                            refine lv_goto (tgt := 153) hx hb dX12_flow_180 (by decide) ?_
                            exact lp201ih x291 I284 J286 _ _ _ (by omega) (by omega) (by omega) (by show 0 ≤ (I284 0 75).toInt ∧ (I284 0 75).toInt ≤ 4; exact k287) ⟨(by show 0 ≤ (I284 0 54).toInt ∧ (I284 0 54).toInt ≤ 10; exact k288), (by show 0 ≤ (I284 0 55).toInt ∧ (I284 0 55).toInt ≤ 300; exact k289)⟩ (z_rg_fr lp201Ald fI284 (by decide)) (z_rg_fr lp201Awt fI284 (by decide)) (z_rg_fr lp201Ard fI284 (by decide)) hI284Arm hI284Ami (z_rg_fr lp201Abk fI284 (by decide)) (z_rg_fr lp201Afr fI284 (by decide)) h290 f285 hW hS (lv_sub hl [0, 1, 2, 3] rfl)
                      exact lp201 4294967296 (0) I196 J197 _ _ _ (z_m0u _) (by rw [z_l0]; omega) (by rw [z_l0]; omega) (by show 0 ≤ (I196 0 75).toInt ∧ (I196 0 75).toInt ≤ 4; exact lp194mr) ⟨(by show 0 ≤ (I196 0 54).toInt ∧ (I196 0 54).toInt ≤ 10; exact lp194ms.1), (by show 0 ≤ (I196 0 55).toInt ∧ (I196 0 55).toInt ≤ 300; exact lp194ms.2)⟩ lp194Ald lp194Awt lp194Ard lp194Arm lp194Ami lp194Abk lp194Afr lp194L lp194fr hW hS (lv_sub hl [0, 1, 2, 3] rfl)
                    · have g292 := z_f_nge rfl rfl c199
                      refine lv_iload_n hx hb dX12_flow_67 rfl (lv_at hl 0 rfl) ?_
                      refine lv_iload_n hx hb dX12_flow_68 rfl (lv_at hl 2 rfl) ?_
                      refine lv_icmp_eq (tgt := 87) hx hb dX12_flow_69 (by decide) (fun c293 => ?_) (fun c293 => ?_)
                      · have g294 := z_f_eq rfl rfl c293
                        refine lv_iconst (v := 0) hx hb dX12_flow_87 (by decide) ?_
                        refine lv_istore (lv' := [(4, .int 0), (3, .int y195), (0, .ref (ad 0)), (1, .int a1), (2, .int a2)]) hx hb dX12_flow_88 hl (by decide) rfl (fun ls hl => ?_)
                        have lp295 : ∀ (f : Nat) (y296 : Int32) (I297 : z_I) (J298 : z_J) (H : Heap) (locs : List Loc) (ls : Array Slot), (2147483647 < y296.toInt + (f : Int)) → (0 ≤ y296.toInt) → (y296.toInt ≤ 10) → (z_imr I297) → (z_ims I297) → (z_rg 52 0 50 I297) → (z_rg 53 0 20 I297) → (z_rg 54 0 999 I297) → (z_rg 55 0 100 I297) → (z_rg 56 (-999) 999 I297) → (z_rg 58 0 15 I297) → (z_rg 57 (-300000) 1000000 I297) → (z_BL I297) → (z_fr L_X12_flow I297 I) → z_W G A (shM, ad, I297, J298, PM ad) H → va_S A s.heap H locs → lv_has ls 7 [(4, .int y296), (3, .int y195), (0, .ref (ad 0)), (1, .int a1), (2, .int a2)] → W p l e (headSpec wsX12_flow { frames := 2, cells := 0, slots := 0, locals := 36 }).room s m ([.ref (ad 0), .int a1, .int a2] : List Value).toArray below meth c0 H locs 0 0 (MQ below (va_Qi (fun (r : Int32) (u1 : z_U) => ∃ (I1 : z_I) (J1 : z_J), u1 = (shM, ad, I1, J1, PM ad) ∧ z_imr I1 ∧ z_ims I1 ∧ z_rg 52 0 50 I1 ∧ z_rg 53 0 20 I1 ∧ z_rg 54 0 999 I1 ∧ z_rg 55 0 100 I1 ∧ z_rg 56 (-999) 999 I1 ∧ z_rg 58 0 15 I1 ∧ z_rg 57 (-300000) 1000000 I1 ∧ z_fr L_X12_flow I1 I) (z_B G A) A) ([.ref (ad 0), .int a1, .int a2] : List Value).toArray s 0 0 A) (F0 m 90 ls []) := by
                          intro f
                          induction f with
                          | zero => intro y296 I297 J298 H locs ls lp295m lp295l4 lp295u4 lp295mr lp295ms lp295Ald lp295Awt lp295Ard lp295Arm lp295Ami lp295Abk lp295Afr lp295L lp295fr hW hS hl; exact absurd lp295m (by have := Int32.toInt_lt y296; have := Int32.le_toInt y296; omega)
                          | succ f lp295ih =>
                            intro y296 I297 J298 H locs ls lp295m lp295l4 lp295u4 lp295mr lp295ms lp295Ald lp295Awt lp295Ard lp295Arm lp295Ami lp295Abk lp295Afr lp295L lp295fr hW hS hl
                            refine lv_iload hx hb dX12_flow_90 (lv_at hl 0 rfl) ?_
                            refine lv_aload_n hx hb dX12_flow_92 rfl (lv_at hl 2 rfl) ?_
                            have r299 : 0 ≤ (I297 0 54).toInt ∧ (I297 0 54).toInt ≤ 10 := lp295ms.1
                            refine z_get (T := TX12) (N := 96) (ci := 12) (i := 0) (v := .int (I297 0 54)) hx hb hts zj_X12_flow_X12 hown hK hW rfl rfl 54 (by decide) (hts (.fieldLink RX12 461 "PetrolBoardModel" "stations" "I") (me_s (me_l (me_l (List.mem_of_getElem? (i := 4) rfl))))) (fun _ h => h) rfl dX12_flow_93 ?_
                            refine lv_icmp_ge (tgt := 145) hx hb dX12_flow_96 (by decide) (fun c300 => ?_) (fun c300 => ?_)
                            · have g301 := z_f_ge rfl rfl c300
                              obtain ⟨x302, ex302⟩ : ∃ y : Int32, y = y195 + 1 := ⟨_, rfl⟩
                              have tx302 : x302.toInt = y195.toInt + 1 := z_tadd ex302 rfl z_l1 (by omega) (by omega)
                              refine lv_iinc (v := x302) (lv' := [(3, .int x302), (4, .int y296), (0, .ref (ad 0)), (1, .int a1), (2, .int a2)]) hx hb dX12_flow_145 hl (k := 1) rfl (by rw [ex302]; rfl) (by decide) rfl (fun ls hl => ?_)
                              refine lv_goto (tgt := 59) hx hb dX12_flow_148 (by decide) ?_
                              exact lp194ih x302 I297 J298 _ _ _ (by omega) (by omega) (by omega) (by show 0 ≤ (I297 0 75).toInt ∧ (I297 0 75).toInt ≤ 4; exact lp295mr) ⟨(by show 0 ≤ (I297 0 54).toInt ∧ (I297 0 54).toInt ≤ 10; exact lp295ms.1), (by show 0 ≤ (I297 0 55).toInt ∧ (I297 0 55).toInt ≤ 300; exact lp295ms.2)⟩ lp295Ald lp295Awt lp295Ard lp295Arm lp295Ami lp295Abk lp295Afr lp295L lp295fr hW hS (lv_sub hl [0, 2, 3, 4] rfl)
                            · have g303 := z_f_nge rfl rfl c300
                              refine lv_aload_n hx hb dX12_flow_99 rfl (lv_at hl 2 rfl) ?_
                              refine z_get (T := TX12) (N := 96) (ci := 12) (i := 0) (v := .ref (ad 54)) hx hb hts zj_X12_flow_X12 hown hK hW rfl rfl 78 (by decide) (hts (.fieldLink RX12 178 "PetrolBoardModel" "roadOf" "[I") (me_s (me_l (me_l (List.mem_of_getElem? (i := 5) rfl))))) (fun _ h => h) rfl dX12_flow_100 ?_
                              refine lv_bipush (v := 10) hx hb dX12_flow_103 (by decide) ?_
                              refine lv_iload_n hx hb dX12_flow_105 rfl (lv_at hl 1 rfl) ?_
                              refine lv_imul hx hb dX12_flow_106 ?_
                              refine lv_topi (fun x304 ex304 => ?_)
                              have tx304 : x304.toInt = 10 * y195.toInt := z_tmul ex304 z_l10 rfl (by omega) (by omega)
                              refine lv_iload hx hb dX12_flow_107 (lv_at hl 0 rfl) ?_
                              refine lv_iadd hx hb dX12_flow_109 ?_
                              refine lv_topi (fun x305 ex305 => ?_)
                              have tx305 : x305.toInt = x304.toInt + y296.toInt := z_tadd ex305 rfl rfl (by omega) (by omega)
                              refine z_iald (i := 54) hx hb hK hW rfl (z_ix rfl (by omega) (by omega)) dX12_flow_110 ?_
                              refine lv_topi (fun x306 ex306 => ?_)
                              have h307 : 0 ≤ x306.toInt ∧ x306.toInt ≤ 999 := by rw [ex306]; exact lp295Ard _
                              refine lv_if_le (tgt := 139) hx hb dX12_flow_111 (by decide) (fun c308 => ?_) (fun c308 => ?_)
                              · have g309 := z_f_le rfl z_l0 c308
                                obtain ⟨x310, ex310⟩ : ∃ y : Int32, y = y296 + 1 := ⟨_, rfl⟩
                                have tx310 : x310.toInt = y296.toInt + 1 := z_tadd ex310 rfl z_l1 (by omega) (by omega)
                                refine lv_iinc (v := x310) (lv' := [(4, .int x310), (3, .int y195), (0, .ref (ad 0)), (1, .int a1), (2, .int a2)]) hx hb dX12_flow_139 hl (k := 0) rfl (by rw [ex310]; rfl) (by decide) rfl (fun ls hl => ?_)
                                refine lv_goto (tgt := 90) hx hb dX12_flow_142 (by decide) ?_
                                exact lp295ih x310 I297 J298 _ _ _ (by omega) (by omega) (by omega) (by show 0 ≤ (I297 0 75).toInt ∧ (I297 0 75).toInt ≤ 4; exact lp295mr) ⟨(by show 0 ≤ (I297 0 54).toInt ∧ (I297 0 54).toInt ≤ 10; exact lp295ms.1), (by show 0 ≤ (I297 0 55).toInt ∧ (I297 0 55).toInt ≤ 300; exact lp295ms.2)⟩ lp295Ald lp295Awt lp295Ard lp295Arm lp295Ami lp295Abk lp295Afr lp295L lp295fr hW hS (lv_sub hl [0, 1, 2, 3, 4] rfl)
                              · have g311 := z_f_nle rfl z_l0 c308
                                refine lv_aload_n hx hb dX12_flow_114 rfl (lv_at hl 2 rfl) ?_
                                refine lv_iconst (v := 1) hx hb dX12_flow_115 (by decide) ?_
                                refine lv_iload_n hx hb dX12_flow_116 rfl (lv_at hl 1 rfl) ?_
                                refine lv_iadd hx hb dX12_flow_117 ?_
                                refine lv_topi (fun x312 ex312 => ?_)
                                have tx312 : x312.toInt = 1 + y195.toInt := z_tadd ex312 z_l1 rfl (by omega) (by omega)
                                refine lv_iconst (v := 5) hx hb dX12_flow_118 (by decide) ?_
                                refine lv_iload hx hb dX12_flow_119 (lv_at hl 0 rfl) ?_
                                refine lv_iadd hx hb dX12_flow_121 ?_
                                refine lv_topi (fun x313 ex313 => ?_)
                                have tx313 : x313.toInt = 5 + y296.toInt := z_tadd ex313 z_l5 rfl (by omega) (by omega)
                                refine lv_bipush (v := 50) hx hb dX12_flow_122 (by decide) ?_
                                refine lv_aload_n hx hb dX12_flow_124 rfl (lv_at hl 2 rfl) ?_
                                refine z_get (T := TX12) (N := 96) (ci := 12) (i := 0) (v := .ref (ad 54)) hx hb hts zj_X12_flow_X12 hown hK hW rfl rfl 78 (by decide) (hts (.fieldLink RX12 178 "PetrolBoardModel" "roadOf" "[I") (me_s (me_l (me_l (List.mem_of_getElem? (i := 5) rfl))))) (fun _ h => h) rfl dX12_flow_125 ?_
                                refine lv_bipush (v := 10) hx hb dX12_flow_128 (by decide) ?_
                                refine lv_iload_n hx hb dX12_flow_130 rfl (lv_at hl 1 rfl) ?_
                                refine lv_imul hx hb dX12_flow_131 ?_
                                refine lv_topi (fun x314 ex314 => ?_)
                                have tx314 : x314.toInt = 10 * y195.toInt := z_tmul ex314 z_l10 rfl (by omega) (by omega)
                                refine lv_iload hx hb dX12_flow_132 (lv_at hl 0 rfl) ?_
                                refine lv_iadd hx hb dX12_flow_134 ?_
                                refine lv_topi (fun x315 ex315 => ?_)
                                have tx315 : x315.toInt = x314.toInt + y296.toInt := z_tadd ex315 rfl rfl (by omega) (by omega)
                                refine z_iald (i := 54) hx hb hK hW rfl (z_ix rfl (by omega) (by omega)) dX12_flow_135 ?_
                                refine lv_topi (fun x316 ex316 => ?_)
                                have h317 : 0 ≤ x316.toInt ∧ x316.toInt ≤ 999 := by rw [ex316]; exact lp295Ard _
                                refine z_cv hW hS hA (va_runV (As := [.int x312, .int x313, .int 50, .int x316]) (rest := []) ⟨hx, hb, hml, hown, hts⟩ (sx_X12_edge l G ad I297 J298 lp295Arm lp295Ami x312 x313 50 x316 (by have := z_l50; omega) (by have := z_l50; omega) (by have := z_l50; omega) (by have := z_l50; omega) lp295L _) (cwV 4 hts gX12_flow_X12_edge rfl rfl rfl hy_X12_edge ⟨Nat.le_of_ble_eq_true rfl, Nat.le_of_ble_eq_true rfl⟩) (z_preV (i := 0) hK hW rfl rfl) rfl rfl hl.1 rfl (lv_room (Nat.le_of_ble_eq_true rfl)) dX12_flow_136 ⟨Nat.le_of_ble_eq_true rfl, Nat.le_of_ble_eq_true rfl⟩) (fun u1 H locs hp hW hS => ?_)
                                obtain ⟨I318, J320, e9, hI318Arm, hI318Ami, fI318, hp⟩ := hp
                                rw [e9] at hW
                                have f319 := z_fr_sub (L := L_X12_flow) lp295fr fI318 (by decide)
                                have k321 : 0 ≤ (I318 0 75).toInt ∧ (I318 0 75).toInt ≤ 4 := by rw [fI318 0 75 (by decide)]; exact (by show 0 ≤ (I297 0 75).toInt ∧ (I297 0 75).toInt ≤ 4; exact lp295mr)
                                have k322 : 0 ≤ (I318 0 54).toInt ∧ (I318 0 54).toInt ≤ 10 := by rw [fI318 0 54 (by decide)]; exact (by show 0 ≤ (I297 0 54).toInt ∧ (I297 0 54).toInt ≤ 10; exact lp295ms.1)
                                have k323 : 0 ≤ (I318 0 55).toInt ∧ (I318 0 55).toInt ≤ 300 := by rw [fI318 0 55 (by decide)]; exact (by show 0 ≤ (I297 0 55).toInt ∧ (I297 0 55).toInt ≤ 300; exact lp295ms.2)
                                have h324 := hp
                                obtain ⟨x325, ex325⟩ : ∃ y : Int32, y = y296 + 1 := ⟨_, rfl⟩
                                have tx325 : x325.toInt = y296.toInt + 1 := z_tadd ex325 rfl z_l1 (by omega) (by omega)
                                refine lv_iinc (v := x325) (lv' := [(4, .int x325), (3, .int y195), (0, .ref (ad 0)), (1, .int a1), (2, .int a2)]) hx hb dX12_flow_139 hl (k := 0) rfl (by rw [ex325]; rfl) (by decide) rfl (fun ls hl => ?_)
                                refine lv_goto (tgt := 90) hx hb dX12_flow_142 (by decide) ?_
                                exact lp295ih x325 I318 J320 _ _ _ (by omega) (by omega) (by omega) (by show 0 ≤ (I318 0 75).toInt ∧ (I318 0 75).toInt ≤ 4; exact k321) ⟨(by show 0 ≤ (I318 0 54).toInt ∧ (I318 0 54).toInt ≤ 10; exact k322), (by show 0 ≤ (I318 0 55).toInt ∧ (I318 0 55).toInt ≤ 300; exact k323)⟩ (z_rg_fr lp295Ald fI318 (by decide)) (z_rg_fr lp295Awt fI318 (by decide)) (z_rg_fr lp295Ard fI318 (by decide)) hI318Arm hI318Ami (z_rg_fr lp295Abk fI318 (by decide)) (z_rg_fr lp295Afr fI318 (by decide)) h324 f319 hW hS (lv_sub hl [0, 1, 2, 3, 4] rfl)
                        exact lp295 4294967296 (0) I196 J197 _ _ _ (z_m0u _) (by rw [z_l0]; omega) (by rw [z_l0]; omega) (by show 0 ≤ (I196 0 75).toInt ∧ (I196 0 75).toInt ≤ 4; exact lp194mr) ⟨(by show 0 ≤ (I196 0 54).toInt ∧ (I196 0 54).toInt ≤ 10; exact lp194ms.1), (by show 0 ≤ (I196 0 55).toInt ∧ (I196 0 55).toInt ≤ 300; exact lp194ms.2)⟩ lp194Ald lp194Awt lp194Ard lp194Arm lp194Ami lp194Abk lp194Afr lp194L lp194fr hW hS (lv_sub hl [0, 1, 2, 3, 4] rfl)
                      · have g326 := z_f_ne rfl rfl c293
                        refine lv_aload_n hx hb dX12_flow_72 rfl (lv_at hl 1 rfl) ?_
                        refine lv_iconst (v := 0) hx hb dX12_flow_73 (by decide) ?_
                        refine lv_iconst (v := 1) hx hb dX12_flow_74 (by decide) ?_
                        refine lv_iload_n hx hb dX12_flow_75 rfl (lv_at hl 0 rfl) ?_
                        refine lv_iadd hx hb dX12_flow_76 ?_
                        refine lv_topi (fun x327 ex327 => ?_)
                        have tx327 : x327.toInt = 1 + y195.toInt := z_tadd ex327 z_l1 rfl (by omega) (by omega)
                        refine lv_aload_n hx hb dX12_flow_77 rfl (lv_at hl 1 rfl) ?_
                        refine z_get (T := TX12) (N := 96) (ci := 12) (i := 0) (v := .ref (ad 52)) hx hb hts zj_X12_flow_X12 hown hK hW rfl rfl 76 (by decide) (hts (.fieldLink RX12 172 "PetrolBoardModel" "loadsOf" "[I") (me_s (me_l (me_l (List.mem_of_getElem? (i := 3) rfl))))) (fun _ h => h) rfl dX12_flow_78 ?_
                        refine lv_iload_n hx hb dX12_flow_81 rfl (lv_at hl 0 rfl) ?_
                        refine z_iald (i := 52) hx hb hK hW rfl (z_ix rfl (by omega) (by omega)) dX12_flow_82 ?_
                        refine lv_topi (fun x328 ex328 => ?_)
                        have h329 : 0 ≤ x328.toInt ∧ x328.toInt ≤ 50 := by rw [ex328]; exact lp194Ald _
                        refine lv_iconst (v := 0) hx hb dX12_flow_83 (by decide) ?_
                        refine z_cv hW hS hA (va_runV (As := [.int 0, .int x327, .int x328, .int 0]) (rest := []) ⟨hx, hb, hml, hown, hts⟩ (sx_X12_edge l G ad I196 J197 lp194Arm lp194Ami 0 x327 x328 0 (by have := z_l0; have := z_l0; omega) (by have := z_l0; have := z_l0; omega) (by have := z_l0; have := z_l0; omega) (by have := z_l0; have := z_l0; omega) lp194L _) (cwV 4 hts gX12_flow_X12_edge rfl rfl rfl hy_X12_edge ⟨Nat.le_of_ble_eq_true rfl, Nat.le_of_ble_eq_true rfl⟩) (z_preV (i := 0) hK hW rfl rfl) rfl rfl hl.1 rfl (lv_room (Nat.le_of_ble_eq_true rfl)) dX12_flow_84 ⟨Nat.le_of_ble_eq_true rfl, Nat.le_of_ble_eq_true rfl⟩) (fun u1 H locs hp hW hS => ?_)
                        obtain ⟨I330, J332, e9, hI330Arm, hI330Ami, fI330, hp⟩ := hp
                        rw [e9] at hW
                        have f331 := z_fr_sub (L := L_X12_flow) lp194fr fI330 (by decide)
                        have k333 : 0 ≤ (I330 0 75).toInt ∧ (I330 0 75).toInt ≤ 4 := by rw [fI330 0 75 (by decide)]; exact (by show 0 ≤ (I196 0 75).toInt ∧ (I196 0 75).toInt ≤ 4; exact lp194mr)
                        have k334 : 0 ≤ (I330 0 54).toInt ∧ (I330 0 54).toInt ≤ 10 := by rw [fI330 0 54 (by decide)]; exact (by show 0 ≤ (I196 0 54).toInt ∧ (I196 0 54).toInt ≤ 10; exact lp194ms.1)
                        have k335 : 0 ≤ (I330 0 55).toInt ∧ (I330 0 55).toInt ≤ 300 := by rw [fI330 0 55 (by decide)]; exact (by show 0 ≤ (I196 0 55).toInt ∧ (I196 0 55).toInt ≤ 300; exact lp194ms.2)
                        have h336 := hp
                        refine lv_iconst (v := 0) hx hb dX12_flow_87 (by decide) ?_
                        refine lv_istore (lv' := [(4, .int 0), (3, .int y195), (0, .ref (ad 0)), (1, .int a1), (2, .int a2)]) hx hb dX12_flow_88 hl (by decide) rfl (fun ls hl => ?_)
                        have lp337 : ∀ (f : Nat) (y338 : Int32) (I339 : z_I) (J340 : z_J) (H : Heap) (locs : List Loc) (ls : Array Slot), (2147483647 < y338.toInt + (f : Int)) → (0 ≤ y338.toInt) → (y338.toInt ≤ 10) → (z_imr I339) → (z_ims I339) → (z_rg 52 0 50 I339) → (z_rg 53 0 20 I339) → (z_rg 54 0 999 I339) → (z_rg 55 0 100 I339) → (z_rg 56 (-999) 999 I339) → (z_rg 58 0 15 I339) → (z_rg 57 (-300000) 1000000 I339) → (z_BL I339) → (z_fr L_X12_flow I339 I) → z_W G A (shM, ad, I339, J340, PM ad) H → va_S A s.heap H locs → lv_has ls 7 [(4, .int y338), (3, .int y195), (0, .ref (ad 0)), (1, .int a1), (2, .int a2)] → W p l e (headSpec wsX12_flow { frames := 2, cells := 0, slots := 0, locals := 36 }).room s m ([.ref (ad 0), .int a1, .int a2] : List Value).toArray below meth c0 H locs 0 0 (MQ below (va_Qi (fun (r : Int32) (u1 : z_U) => ∃ (I1 : z_I) (J1 : z_J), u1 = (shM, ad, I1, J1, PM ad) ∧ z_imr I1 ∧ z_ims I1 ∧ z_rg 52 0 50 I1 ∧ z_rg 53 0 20 I1 ∧ z_rg 54 0 999 I1 ∧ z_rg 55 0 100 I1 ∧ z_rg 56 (-999) 999 I1 ∧ z_rg 58 0 15 I1 ∧ z_rg 57 (-300000) 1000000 I1 ∧ z_fr L_X12_flow I1 I) (z_B G A) A) ([.ref (ad 0), .int a1, .int a2] : List Value).toArray s 0 0 A) (F0 m 90 ls []) := by
                          intro f
                          induction f with
                          | zero => intro y338 I339 J340 H locs ls lp337m lp337l4 lp337u4 lp337mr lp337ms lp337Ald lp337Awt lp337Ard lp337Arm lp337Ami lp337Abk lp337Afr lp337L lp337fr hW hS hl; exact absurd lp337m (by have := Int32.toInt_lt y338; have := Int32.le_toInt y338; omega)
                          | succ f lp337ih =>
                            intro y338 I339 J340 H locs ls lp337m lp337l4 lp337u4 lp337mr lp337ms lp337Ald lp337Awt lp337Ard lp337Arm lp337Ami lp337Abk lp337Afr lp337L lp337fr hW hS hl
                            refine lv_iload hx hb dX12_flow_90 (lv_at hl 0 rfl) ?_
                            refine lv_aload_n hx hb dX12_flow_92 rfl (lv_at hl 2 rfl) ?_
                            have r341 : 0 ≤ (I339 0 54).toInt ∧ (I339 0 54).toInt ≤ 10 := lp337ms.1
                            refine z_get (T := TX12) (N := 96) (ci := 12) (i := 0) (v := .int (I339 0 54)) hx hb hts zj_X12_flow_X12 hown hK hW rfl rfl 54 (by decide) (hts (.fieldLink RX12 461 "PetrolBoardModel" "stations" "I") (me_s (me_l (me_l (List.mem_of_getElem? (i := 4) rfl))))) (fun _ h => h) rfl dX12_flow_93 ?_
                            refine lv_icmp_ge (tgt := 145) hx hb dX12_flow_96 (by decide) (fun c342 => ?_) (fun c342 => ?_)
                            · have g343 := z_f_ge rfl rfl c342
                              obtain ⟨x344, ex344⟩ : ∃ y : Int32, y = y195 + 1 := ⟨_, rfl⟩
                              have tx344 : x344.toInt = y195.toInt + 1 := z_tadd ex344 rfl z_l1 (by omega) (by omega)
                              refine lv_iinc (v := x344) (lv' := [(3, .int x344), (4, .int y338), (0, .ref (ad 0)), (1, .int a1), (2, .int a2)]) hx hb dX12_flow_145 hl (k := 1) rfl (by rw [ex344]; rfl) (by decide) rfl (fun ls hl => ?_)
                              refine lv_goto (tgt := 59) hx hb dX12_flow_148 (by decide) ?_
                              exact lp194ih x344 I339 J340 _ _ _ (by omega) (by omega) (by omega) (by show 0 ≤ (I339 0 75).toInt ∧ (I339 0 75).toInt ≤ 4; exact lp337mr) ⟨(by show 0 ≤ (I339 0 54).toInt ∧ (I339 0 54).toInt ≤ 10; exact lp337ms.1), (by show 0 ≤ (I339 0 55).toInt ∧ (I339 0 55).toInt ≤ 300; exact lp337ms.2)⟩ lp337Ald lp337Awt lp337Ard lp337Arm lp337Ami lp337Abk lp337Afr lp337L lp337fr hW hS (lv_sub hl [0, 2, 3, 4] rfl)
                            · have g345 := z_f_nge rfl rfl c342
                              refine lv_aload_n hx hb dX12_flow_99 rfl (lv_at hl 2 rfl) ?_
                              refine z_get (T := TX12) (N := 96) (ci := 12) (i := 0) (v := .ref (ad 54)) hx hb hts zj_X12_flow_X12 hown hK hW rfl rfl 78 (by decide) (hts (.fieldLink RX12 178 "PetrolBoardModel" "roadOf" "[I") (me_s (me_l (me_l (List.mem_of_getElem? (i := 5) rfl))))) (fun _ h => h) rfl dX12_flow_100 ?_
                              refine lv_bipush (v := 10) hx hb dX12_flow_103 (by decide) ?_
                              refine lv_iload_n hx hb dX12_flow_105 rfl (lv_at hl 1 rfl) ?_
                              refine lv_imul hx hb dX12_flow_106 ?_
                              refine lv_topi (fun x346 ex346 => ?_)
                              have tx346 : x346.toInt = 10 * y195.toInt := z_tmul ex346 z_l10 rfl (by omega) (by omega)
                              refine lv_iload hx hb dX12_flow_107 (lv_at hl 0 rfl) ?_
                              refine lv_iadd hx hb dX12_flow_109 ?_
                              refine lv_topi (fun x347 ex347 => ?_)
                              have tx347 : x347.toInt = x346.toInt + y338.toInt := z_tadd ex347 rfl rfl (by omega) (by omega)
                              refine z_iald (i := 54) hx hb hK hW rfl (z_ix rfl (by omega) (by omega)) dX12_flow_110 ?_
                              refine lv_topi (fun x348 ex348 => ?_)
                              have h349 : 0 ≤ x348.toInt ∧ x348.toInt ≤ 999 := by rw [ex348]; exact lp337Ard _
                              refine lv_if_le (tgt := 139) hx hb dX12_flow_111 (by decide) (fun c350 => ?_) (fun c350 => ?_)
                              · have g351 := z_f_le rfl z_l0 c350
                                obtain ⟨x352, ex352⟩ : ∃ y : Int32, y = y338 + 1 := ⟨_, rfl⟩
                                have tx352 : x352.toInt = y338.toInt + 1 := z_tadd ex352 rfl z_l1 (by omega) (by omega)
                                refine lv_iinc (v := x352) (lv' := [(4, .int x352), (3, .int y195), (0, .ref (ad 0)), (1, .int a1), (2, .int a2)]) hx hb dX12_flow_139 hl (k := 0) rfl (by rw [ex352]; rfl) (by decide) rfl (fun ls hl => ?_)
                                refine lv_goto (tgt := 90) hx hb dX12_flow_142 (by decide) ?_
                                exact lp337ih x352 I339 J340 _ _ _ (by omega) (by omega) (by omega) (by show 0 ≤ (I339 0 75).toInt ∧ (I339 0 75).toInt ≤ 4; exact lp337mr) ⟨(by show 0 ≤ (I339 0 54).toInt ∧ (I339 0 54).toInt ≤ 10; exact lp337ms.1), (by show 0 ≤ (I339 0 55).toInt ∧ (I339 0 55).toInt ≤ 300; exact lp337ms.2)⟩ lp337Ald lp337Awt lp337Ard lp337Arm lp337Ami lp337Abk lp337Afr lp337L lp337fr hW hS (lv_sub hl [0, 1, 2, 3, 4] rfl)
                              · have g353 := z_f_nle rfl z_l0 c350
                                refine lv_aload_n hx hb dX12_flow_114 rfl (lv_at hl 2 rfl) ?_
                                refine lv_iconst (v := 1) hx hb dX12_flow_115 (by decide) ?_
                                refine lv_iload_n hx hb dX12_flow_116 rfl (lv_at hl 1 rfl) ?_
                                refine lv_iadd hx hb dX12_flow_117 ?_
                                refine lv_topi (fun x354 ex354 => ?_)
                                have tx354 : x354.toInt = 1 + y195.toInt := z_tadd ex354 z_l1 rfl (by omega) (by omega)
                                refine lv_iconst (v := 5) hx hb dX12_flow_118 (by decide) ?_
                                refine lv_iload hx hb dX12_flow_119 (lv_at hl 0 rfl) ?_
                                refine lv_iadd hx hb dX12_flow_121 ?_
                                refine lv_topi (fun x355 ex355 => ?_)
                                have tx355 : x355.toInt = 5 + y338.toInt := z_tadd ex355 z_l5 rfl (by omega) (by omega)
                                refine lv_bipush (v := 50) hx hb dX12_flow_122 (by decide) ?_
                                refine lv_aload_n hx hb dX12_flow_124 rfl (lv_at hl 2 rfl) ?_
                                refine z_get (T := TX12) (N := 96) (ci := 12) (i := 0) (v := .ref (ad 54)) hx hb hts zj_X12_flow_X12 hown hK hW rfl rfl 78 (by decide) (hts (.fieldLink RX12 178 "PetrolBoardModel" "roadOf" "[I") (me_s (me_l (me_l (List.mem_of_getElem? (i := 5) rfl))))) (fun _ h => h) rfl dX12_flow_125 ?_
                                refine lv_bipush (v := 10) hx hb dX12_flow_128 (by decide) ?_
                                refine lv_iload_n hx hb dX12_flow_130 rfl (lv_at hl 1 rfl) ?_
                                refine lv_imul hx hb dX12_flow_131 ?_
                                refine lv_topi (fun x356 ex356 => ?_)
                                have tx356 : x356.toInt = 10 * y195.toInt := z_tmul ex356 z_l10 rfl (by omega) (by omega)
                                refine lv_iload hx hb dX12_flow_132 (lv_at hl 0 rfl) ?_
                                refine lv_iadd hx hb dX12_flow_134 ?_
                                refine lv_topi (fun x357 ex357 => ?_)
                                have tx357 : x357.toInt = x356.toInt + y338.toInt := z_tadd ex357 rfl rfl (by omega) (by omega)
                                refine z_iald (i := 54) hx hb hK hW rfl (z_ix rfl (by omega) (by omega)) dX12_flow_135 ?_
                                refine lv_topi (fun x358 ex358 => ?_)
                                have h359 : 0 ≤ x358.toInt ∧ x358.toInt ≤ 999 := by rw [ex358]; exact lp337Ard _
                                refine z_cv hW hS hA (va_runV (As := [.int x354, .int x355, .int 50, .int x358]) (rest := []) ⟨hx, hb, hml, hown, hts⟩ (sx_X12_edge l G ad I339 J340 lp337Arm lp337Ami x354 x355 50 x358 (by have := z_l50; omega) (by have := z_l50; omega) (by have := z_l50; omega) (by have := z_l50; omega) lp337L _) (cwV 4 hts gX12_flow_X12_edge rfl rfl rfl hy_X12_edge ⟨Nat.le_of_ble_eq_true rfl, Nat.le_of_ble_eq_true rfl⟩) (z_preV (i := 0) hK hW rfl rfl) rfl rfl hl.1 rfl (lv_room (Nat.le_of_ble_eq_true rfl)) dX12_flow_136 ⟨Nat.le_of_ble_eq_true rfl, Nat.le_of_ble_eq_true rfl⟩) (fun u1 H locs hp hW hS => ?_)
                                obtain ⟨I360, J362, e9, hI360Arm, hI360Ami, fI360, hp⟩ := hp
                                rw [e9] at hW
                                have f361 := z_fr_sub (L := L_X12_flow) lp337fr fI360 (by decide)
                                have k363 : 0 ≤ (I360 0 75).toInt ∧ (I360 0 75).toInt ≤ 4 := by rw [fI360 0 75 (by decide)]; exact (by show 0 ≤ (I339 0 75).toInt ∧ (I339 0 75).toInt ≤ 4; exact lp337mr)
                                have k364 : 0 ≤ (I360 0 54).toInt ∧ (I360 0 54).toInt ≤ 10 := by rw [fI360 0 54 (by decide)]; exact (by show 0 ≤ (I339 0 54).toInt ∧ (I339 0 54).toInt ≤ 10; exact lp337ms.1)
                                have k365 : 0 ≤ (I360 0 55).toInt ∧ (I360 0 55).toInt ≤ 300 := by rw [fI360 0 55 (by decide)]; exact (by show 0 ≤ (I339 0 55).toInt ∧ (I339 0 55).toInt ≤ 300; exact lp337ms.2)
                                have h366 := hp
                                obtain ⟨x367, ex367⟩ : ∃ y : Int32, y = y338 + 1 := ⟨_, rfl⟩
                                have tx367 : x367.toInt = y338.toInt + 1 := z_tadd ex367 rfl z_l1 (by omega) (by omega)
                                refine lv_iinc (v := x367) (lv' := [(4, .int x367), (3, .int y195), (0, .ref (ad 0)), (1, .int a1), (2, .int a2)]) hx hb dX12_flow_139 hl (k := 0) rfl (by rw [ex367]; rfl) (by decide) rfl (fun ls hl => ?_)
                                refine lv_goto (tgt := 90) hx hb dX12_flow_142 (by decide) ?_
                                exact lp337ih x367 I360 J362 _ _ _ (by omega) (by omega) (by omega) (by show 0 ≤ (I360 0 75).toInt ∧ (I360 0 75).toInt ≤ 4; exact k363) ⟨(by show 0 ≤ (I360 0 54).toInt ∧ (I360 0 54).toInt ≤ 10; exact k364), (by show 0 ≤ (I360 0 55).toInt ∧ (I360 0 55).toInt ≤ 300; exact k365)⟩ (z_rg_fr lp337Ald fI360 (by decide)) (z_rg_fr lp337Awt fI360 (by decide)) (z_rg_fr lp337Ard fI360 (by decide)) hI360Arm hI360Ami (z_rg_fr lp337Abk fI360 (by decide)) (z_rg_fr lp337Afr fI360 (by decide)) h366 f361 hW hS (lv_sub hl [0, 1, 2, 3, 4] rfl)
                        exact lp337 4294967296 (0) I330 J332 _ _ _ (z_m0u _) (by rw [z_l0]; omega) (by rw [z_l0]; omega) (by show 0 ≤ (I330 0 75).toInt ∧ (I330 0 75).toInt ≤ 4; exact k333) ⟨(by show 0 ≤ (I330 0 54).toInt ∧ (I330 0 54).toInt ≤ 10; exact k334), (by show 0 ≤ (I330 0 55).toInt ∧ (I330 0 55).toInt ≤ 300; exact k335)⟩ (z_rg_fr lp194Ald fI330 (by decide)) (z_rg_fr lp194Awt fI330 (by decide)) (z_rg_fr lp194Ard fI330 (by decide)) hI330Arm hI330Ami (z_rg_fr lp194Abk fI330 (by decide)) (z_rg_fr lp194Afr fI330 (by decide)) h336 f331 hW hS (lv_sub hl [0, 1, 2, 3, 4] rfl)
                exact lp194 4294967296 (0) I190 J191 _ _ _ (z_m0u _) (by rw [z_l0]; omega) (by rw [z_l0]; omega) (by show 0 ≤ (I190 0 75).toInt ∧ (I190 0 75).toInt ≤ 4; exact lp188mr) ⟨(by show 0 ≤ (I190 0 54).toInt ∧ (I190 0 54).toInt ≤ 10; exact lp188ms.1), (by show 0 ≤ (I190 0 55).toInt ∧ (I190 0 55).toInt ≤ 300; exact lp188ms.2)⟩ lp188Ald lp188Awt lp188Ard lp188Arm lp188Ami lp188Abk lp188Afr (z_BL_0 (fun j hj => lp188Z j (by omega))) lp188fr hW hS (lv_sub hl [0, 1, 2, 3] rfl)
              · have g368 := z_f_nge rfl z_l256 c192
                refine lv_aload_n hx hb dX12_flow_37 rfl (lv_at hl 1 rfl) ?_
                refine z_get (T := TX12) (N := 96) (ci := 12) (i := 0) (v := .ref (ad 55)) hx hb hts zj_X12_flow_X12 hown hK hW rfl rfl 79 (by decide) (hts (.fieldLink RX12 181 "PetrolBoardModel" "room" "[I") (me_s (me_l (me_l (List.mem_of_getElem? (i := 1) rfl))))) (fun _ h => h) rfl dX12_flow_38 ?_
                refine lv_iload_n hx hb dX12_flow_41 rfl (lv_at hl 0 rfl) ?_
                refine lv_iconst (v := 0) hx hb dX12_flow_42 (by decide) ?_
                refine z_iast (i := 55) hx hb hK hW hS rfl (z_ix rfl (by omega) (by omega)) dX12_flow_43 (fun H locs hz1 hW hS => ?_)
                obtain ⟨I369, eI369⟩ : ∃ K : z_I, K = z_up I190 55 y189.toNatClampNeg 0 := ⟨_, rfl⟩
                rw [← eI369] at hW
                have f370 := z_fr_a lp188fr (show z_wa L_X12_flow 55 = true by decide) eI369
                have a371 := z_rg_n lp188Ald (by decide) eI369
                have a372 := z_rg_n lp188Awt (by decide) eI369
                have a373 := z_rg_n lp188Ard (by decide) eI369
                have a374 := z_rg_a lp188Arm (by decide) eI369
                have a375 := z_rg_n lp188Ami (by decide) eI369
                have a376 := z_rg_n lp188Abk (by decide) eI369
                have a377 := z_rg_n lp188Afr (by decide) eI369
                refine lv_aload_n hx hb dX12_flow_44 rfl (lv_at hl 1 rfl) ?_
                refine z_get (T := TX12) (N := 96) (ci := 12) (i := 0) (v := .ref (ad 56)) hx hb hts zj_X12_flow_X12 hown hK hW rfl rfl 80 (by decide) (hts (.fieldLink RX12 184 "PetrolBoardModel" "miles" "[I") (me_s (me_l (me_l (List.mem_of_getElem? (i := 2) rfl))))) (fun _ h => h) rfl dX12_flow_45 ?_
                refine lv_iload_n hx hb dX12_flow_48 rfl (lv_at hl 0 rfl) ?_
                refine lv_iconst (v := 0) hx hb dX12_flow_49 (by decide) ?_
                refine z_iast (i := 56) hx hb hK hW hS rfl (z_ix rfl (by omega) (by omega)) dX12_flow_50 (fun H locs hz1 hW hS => ?_)
                obtain ⟨I378, eI378⟩ : ∃ K : z_I, K = z_up I369 56 y189.toNatClampNeg 0 := ⟨_, rfl⟩
                rw [← eI378] at hW
                have f379 := z_fr_a f370 (show z_wa L_X12_flow 56 = true by decide) eI378
                have a380 := z_rg_n a371 (by decide) eI378
                have a381 := z_rg_n a372 (by decide) eI378
                have a382 := z_rg_n a373 (by decide) eI378
                have a383 := z_rg_n a374 (by decide) eI378
                have a384 := z_rg_a a375 (by decide) eI378
                have a385 := z_rg_n a376 (by decide) eI378
                have a386 := z_rg_n a377 (by decide) eI378
                obtain ⟨x387, ex387⟩ : ∃ y : Int32, y = y189 + 1 := ⟨_, rfl⟩
                have tx387 : x387.toInt = y189.toInt + 1 := z_tadd ex387 rfl z_l1 (by omega) (by omega)
                refine lv_iinc (v := x387) (lv' := [(3, .int x387), (0, .ref (ad 0)), (1, .int a1), (2, .int a2)]) hx hb dX12_flow_51 hl (k := 0) rfl (by rw [ex387]; rfl) (by decide) rfl (fun ls hl => ?_)
                refine lv_goto (tgt := 30) hx hb dX12_flow_54 (by decide) ?_
                exact lp188ih x387 I378 J191 _ _ _ (by omega) (by omega) (by omega) (by show 0 ≤ (I378 0 75).toInt ∧ (I378 0 75).toInt ≤ 4; rw [eI378, z_up_n (by decide), eI369, z_up_n (by decide)]; exact lp188mr) ⟨(by show 0 ≤ (I378 0 54).toInt ∧ (I378 0 54).toInt ≤ 10; rw [eI378, z_up_n (by decide), eI369, z_up_n (by decide)]; exact lp188ms.1), (by show 0 ≤ (I378 0 55).toInt ∧ (I378 0 55).toInt ≤ 300; rw [eI378, z_up_n (by decide), eI369, z_up_n (by decide)]; exact lp188ms.2)⟩ a380 a381 a382 a383 a384 a385 a386 (fun j hj => by by_cases q9 : j = y189.toNatClampNeg; (· (exact ⟨by rw [eI378, z_up_n (by decide), eI369, q9, z_up_s], by rw [eI378, q9, z_up_s]⟩)); (· (have hc9 := z_clt (x := y189) rfl (by omega); have h9 := lp188Z j (by omega); exact ⟨by rw [eI378, z_up_n (by decide), eI369, z_up_k q9]; exact h9.1, by rw [eI378, z_up_k q9, eI369, z_up_n (by decide)]; exact h9.2⟩))) f379 hW hS (lv_sub hl [0, 1, 2, 3] rfl)
          exact lp188 4294967296 (0) I J _ _ _ (z_m0u _) (by rw [z_l0]; omega) (by rw [z_l0]; omega) (by show 0 ≤ (I 0 75).toInt ∧ (I 0 75).toInt ≤ 4; exact hmr) ⟨(by show 0 ≤ (I 0 54).toInt ∧ (I 0 54).toInt ≤ 10; exact hms.1), (by show 0 ≤ (I 0 55).toInt ∧ (I 0 55).toInt ≤ 300; exact hms.2)⟩ hAld hAwt hArd hArm hAmi hAbk hAfr (fun j hj => absurd hj (by have : ((0 : Int32)).toInt = 0 := (by decide); omega)) z_fr_0 hW hS (lv_sub hl [0, 1, 2, 3] rfl)
        · refine lv_if_ne (tgt := 28) hx hb dX12_flow_23 (by decide) (fun c388 => absurd (by decide) c388) (fun c388 => ?_)
          refine lv_iconst (v := (-1)) hx hb dX12_flow_26 (by decide) ?_
          exact z_iret hx hb hr hK hS (Nat.le_of_ble_eq_true rfl) (Nat.le_of_ble_eq_true rfl) hlocks dX12_flow_27 (shM, ad, I, J, PM ad) hW ⟨I, J, rfl, (by show 0 ≤ (I 0 75).toInt ∧ (I 0 75).toInt ≤ 4; exact hmr), ⟨(by show 0 ≤ (I 0 54).toInt ∧ (I 0 54).toInt ≤ 10; exact hms.1), (by show 0 ≤ (I 0 55).toInt ∧ (I 0 55).toInt ≤ 300; exact hms.2)⟩, hAld, hAwt, hArd, hArm, hAmi, hAbk, hAfr, z_fr_0⟩
