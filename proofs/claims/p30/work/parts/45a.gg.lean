theorem goodIn_su2 {big ws : List Cond} (hin : ∀ w ∈ ws, w ∈ big) (h : ws.all goodWord = true) : GoodIn big ws := fun w hw => ⟨hin w hw, good_of_word (List.all_eq_true.mp h w hw)⟩
set_option maxRecDepth 20000 in
theorem z_gw12 : wsX120.all goodWord = true := by decide +kernel
set_option maxRecDepth 20000 in
theorem pp_ggX12_statement_X12_parse_wsX12_parse_r1_0 : GoodIn wsX12_statement [Cond.fieldLink RX12 340 "PetrolBoardModel" "deep" "I", Cond.fieldLink RX12 346 "PetrolBoardModel" "open" "I", Cond.fieldLink RX12 294 "PetrolBoardModel" "isWrong" "Z", Cond.fieldLink RX12 91 "PetrolBoardModel" "what" "[I", Cond.fieldLink RX12 343 "PetrolBoardModel" "got" "I", Cond.methodLink RX12 349 yX12_begin] := goodIn_r _ [60, 61, 9, 62, 63, 64] rfl (by decide +kernel)
set_option maxRecDepth 20000 in
theorem pp_ggX12_statement_X12_parse_wsX12_parse_r1_6 : GoodIn wsX12_statement [Cond.instanceMethod yX12_begin, Cond.selects RX12 yX12_begin yX12_begin, Cond.initialized RX12, Cond.code yX12_begin cX12_begin 2 none, Cond.fieldLink RX12 94 "PetrolBoardModel" "at" "[I", Cond.fieldLink RX12 97 "PetrolBoardModel" "one" "[I"] := goodIn_r _ [65, 66, 16, 67, 68, 69] rfl (by decide +kernel)
set_option maxRecDepth 20000 in
theorem pp_ggX12_statement_X12_parse_wsX12_parse_r1_12 : GoodIn wsX12_statement [Cond.fieldLink RX12 100 "PetrolBoardModel" "sort" "[I", Cond.methodLink RX12 353 yX12_sums, Cond.instanceMethod yX12_sums, Cond.selects RX12 yX12_sums yX12_sums, Cond.code yX12_sums cX12_sums 4 none, Cond.methodLink RX12 366 yX12_node] := goodIn_r _ [70, 71, 72, 73, 74, 75] rfl (by decide +kernel)
set_option maxRecDepth 20000 in
theorem pp_ggX12_statement_X12_parse_wsX12_parse_r1_18 : GoodIn wsX12_statement [Cond.instanceMethod yX12_node, Cond.selects RX12 yX12_node yX12_node, Cond.code yX12_node cX12_node 4 (some .int), Cond.fieldLink RX12 70 "PetrolBoardModel" "nodeKind" "[I", Cond.fieldLink RX12 337 "PetrolBoardModel" "nodes" "I", Cond.fieldLink RX12 73 "PetrolBoardModel" "nodeA" "[I"] := goodIn_r _ [76, 77, 78, 79, 5, 80] rfl (by decide +kernel)
set_option maxRecDepth 20000 in
theorem pp_ggX12_statement_X12_parse_wsX12_parse_r1 : GoodIn wsX12_statement wsX12_parse_r1 := (goodIn_app pp_ggX12_statement_X12_parse_wsX12_parse_r1_0 (goodIn_app pp_ggX12_statement_X12_parse_wsX12_parse_r1_6 (goodIn_app pp_ggX12_statement_X12_parse_wsX12_parse_r1_12 pp_ggX12_statement_X12_parse_wsX12_parse_r1_18)))
set_option maxRecDepth 20000 in
theorem pp_ggX12_statement_X12_parse_wsX12_parse_r2_0 : GoodIn wsX12_statement [Cond.fieldLink RX12 76 "PetrolBoardModel" "nodeB" "[I", Cond.methodLink RX12 298 yX12_isSign, Cond.instanceMethod yX12_isSign, Cond.selects RX12 yX12_isSign yX12_isSign, Cond.code yX12_isSign cX12_isSign 2 (some .boolean), Cond.fieldLink RX12 281 "PetrolBoardModel" "token" "I"] := goodIn_r _ [81, 82, 83, 84, 85, 6] rfl (by decide +kernel)
set_option maxRecDepth 20000 in
theorem pp_ggX12_statement_X12_parse_wsX12_parse_r2_6 : GoodIn wsX12_statement [Cond.fieldLink RX12 275 "PetrolBoardModel" "sign" "I", Cond.methodLink RX12 301 yX12_next, Cond.instanceMethod yX12_next, Cond.selects RX12 yX12_next yX12_next, Cond.code yX12_next cX12_next 2 none, Cond.fieldLink RX12 256 "PetrolBoardModel" "point" "I"] := goodIn_r _ [38, 32, 33, 34, 35, 36] rfl (by decide +kernel)
set_option maxRecDepth 20000 in
theorem pp_ggX12_statement_X12_parse_wsX12_parse_r2_12 : GoodIn wsX12_statement [Cond.fieldLink RX12 266 "PetrolBoardModel" "from" "I", Cond.constantLong RX12 269 (-1), Cond.fieldLink RX12 271 "PetrolBoardModel" "word" "J", Cond.fieldLink RX12 278 "PetrolBoardModel" "value" "I", Cond.constantLong RX12 284 (27), Cond.constant RX12 286 (10000000)] := goodIn_r _ [30, 37, 7, 11, 39, 40] rfl (by decide +kernel)
set_option maxRecDepth 20000 in
theorem pp_ggX12_statement_X12_parse_wsX12_parse_r2_18 : GoodIn wsX12_statement [Cond.methodLink RX12 262 yX12_here, Cond.instanceMethod yX12_here, Cond.selects RX12 yX12_here yX12_here, Cond.code yX12_here cX12_here 1 (some .int), Cond.fieldLink RX12 259 "PetrolBoardModel" "limit" "I", Cond.fieldLink RX12 83 "PetrolBoardModel" "tape" "[B"] := goodIn_r _ [41, 42, 43, 44, 45, 46] rfl (by decide +kernel)
set_option maxRecDepth 20000 in
theorem pp_ggX12_statement_X12_parse_wsX12_parse_r2 : GoodIn wsX12_statement wsX12_parse_r2 := (goodIn_app pp_ggX12_statement_X12_parse_wsX12_parse_r2_0 (goodIn_app pp_ggX12_statement_X12_parse_wsX12_parse_r2_6 (goodIn_app pp_ggX12_statement_X12_parse_wsX12_parse_r2_12 pp_ggX12_statement_X12_parse_wsX12_parse_r2_18)))
set_option maxRecDepth 20000 in
theorem pp_ggX12_statement_X12_parse_wsX12_parse_r3_0 : GoodIn wsX12_statement [Cond.methodLink RX12 235 yX12_within, Cond.static yX12_within, Cond.code yX12_within cX12_within 3 (some .boolean), Cond.methodLink RX12 287 yX12_min, Cond.static yX12_min, Cond.code yX12_min cX12_min 2 (some .int)] := goodIn_r _ [47, 48, 49, 50, 51, 52] rfl (by decide +kernel)
set_option maxRecDepth 20000 in
theorem pp_ggX12_statement_X12_parse_wsX12_parse_r3_6 : GoodIn wsX12_statement [Cond.methodLink RX12 291 yX12_isSignByte, Cond.static yX12_isSignByte, Cond.code yX12_isSignByte cX12_isSignByte 1 (some .boolean), Cond.methodLink RX12 369 yX12_ends, Cond.instanceMethod yX12_ends, Cond.selects RX12 yX12_ends yX12_ends] := goodIn_r _ [53, 54, 55, 86, 87, 88] rfl (by decide +kernel)
set_option maxRecDepth 20000 in
theorem pp_ggX12_statement_X12_parse_wsX12_parse_r3_12 : GoodIn wsX12_statement [Cond.code yX12_ends cX12_ends 2 none, Cond.methodLink RX12 357 yX12_atom, Cond.instanceMethod yX12_atom, Cond.selects RX12 yX12_atom yX12_atom, Cond.code yX12_atom cX12_atom 3 none, Cond.constantLong RX12 375 (6476969)] := goodIn_r _ [89, 90, 91, 92, 93, 94] rfl (by decide +kernel)
set_option maxRecDepth 20000 in
theorem pp_ggX12_statement_X12_parse_wsX12_parse_r3_18 : GoodIn wsX12_statement [Cond.constantLong RX12 381 (267347), Cond.methodLink RX12 372 yX12_opens, Cond.instanceMethod yX12_opens, Cond.selects RX12 yX12_opens yX12_opens, Cond.code yX12_opens cX12_opens 1 none, Cond.methodLink RX12 304 yX12_errs] := goodIn_r _ [95, 96, 97, 98, 99, 26] rfl (by decide +kernel)
set_option maxRecDepth 20000 in
theorem pp_ggX12_statement_X12_parse_wsX12_parse_r3 : GoodIn wsX12_statement wsX12_parse_r3 := (goodIn_app pp_ggX12_statement_X12_parse_wsX12_parse_r3_0 (goodIn_app pp_ggX12_statement_X12_parse_wsX12_parse_r3_6 (goodIn_app pp_ggX12_statement_X12_parse_wsX12_parse_r3_12 pp_ggX12_statement_X12_parse_wsX12_parse_r3_18)))
set_option maxRecDepth 20000 in
theorem pp_ggX12_statement_X12_parse_wsX12_parse_r4_0 : GoodIn wsX12_statement [Cond.instanceMethod yX12_errs, Cond.selects RX12 yX12_errs yX12_errs, Cond.code yX12_errs cX12_errs 1 none, Cond.fieldLink RX12 87 "PetrolBoardModel" "faultAt" "I", Cond.methodLink RX12 377 yX12_isWord, Cond.instanceMethod yX12_isWord] := goodIn_r _ [27, 28, 29, 31, 100, 101] rfl (by decide +kernel)
set_option maxRecDepth 20000 in
theorem pp_ggX12_statement_X12_parse_wsX12_parse_r4_6 : GoodIn wsX12_statement [Cond.selects RX12 yX12_isWord yX12_isWord, Cond.code yX12_isWord cX12_isWord 3 (some .boolean), Cond.methodLink RX12 383 yX12_must, Cond.instanceMethod yX12_must, Cond.selects RX12 yX12_must yX12_must, Cond.code yX12_must cX12_must 2 none] := goodIn_r _ [102, 103, 104, 105, 106, 107] rfl (by decide +kernel)
set_option maxRecDepth 20000 in
theorem pp_ggX12_statement_X12_parse_wsX12_parse_r4_12 : GoodIn wsX12_statement [Cond.methodLink RX12 386 yX12_nameOf, Cond.instanceMethod yX12_nameOf, Cond.selects RX12 yX12_nameOf yX12_nameOf, Cond.code yX12_nameOf cX12_nameOf 3 (some .int), Cond.constantLong RX12 323 (1831780), Cond.constantLong RX12 325 (381245)] := goodIn_r _ [108, 109, 110, 111, 112, 113] rfl (by decide +kernel)
set_option maxRecDepth 20000 in
theorem pp_ggX12_statement_X12_parse_wsX12_parse_r4_18 : GoodIn wsX12_statement [Cond.constantLong RX12 327 (405230), Cond.constantLong RX12 329 (7214732), Cond.constantLong RX12 331 (7094782), Cond.constantLong RX12 333 (232546955), Cond.constantLong RX12 335 (260971484), Cond.methodLink RX12 360 yX12_chain] := goodIn_r _ [114, 115, 116, 117, 118, 119] rfl (by decide +kernel)
set_option maxRecDepth 20000 in
theorem pp_ggX12_statement_X12_parse_wsX12_parse_r4 : GoodIn wsX12_statement wsX12_parse_r4 := (goodIn_app pp_ggX12_statement_X12_parse_wsX12_parse_r4_0 (goodIn_app pp_ggX12_statement_X12_parse_wsX12_parse_r4_6 (goodIn_app pp_ggX12_statement_X12_parse_wsX12_parse_r4_12 pp_ggX12_statement_X12_parse_wsX12_parse_r4_18)))
set_option maxRecDepth 20000 in
theorem pp_ggX12_statement_X12_parse_wsX12_parse_r5_0 : GoodIn wsX12_statement [Cond.instanceMethod yX12_chain, Cond.selects RX12 yX12_chain yX12_chain, Cond.code yX12_chain cX12_chain 3 none, Cond.constantLong RX12 390 (423), Cond.constantLong RX12 392 (1111), Cond.methodLink RX12 363 yX12_test] := goodIn_r _ [120, 121, 122, 123, 124, 125] rfl (by decide +kernel)
set_option maxRecDepth 20000 in
theorem pp_ggX12_statement_X12_parse_wsX12_parse_r5_6 : GoodIn wsX12_statement [Cond.instanceMethod yX12_test, Cond.selects RX12 yX12_test yX12_test, Cond.code yX12_test cX12_test 2 none, Cond.constantLong RX12 394 (10631)] := goodIn_r _ [126, 127, 128, 129] rfl (by decide +kernel)
set_option maxRecDepth 20000 in
theorem pp_ggX12_statement_X12_parse_wsX12_parse_r5 : GoodIn wsX12_statement wsX12_parse_r5 := (goodIn_app pp_ggX12_statement_X12_parse_wsX12_parse_r5_0 pp_ggX12_statement_X12_parse_wsX12_parse_r5_6)
set_option maxRecDepth 20000 in
theorem pp_ggX12_statement_X12_parse_0 : GoodIn wsX12_statement wsX120 := goodIn_su2 (fun w h => (List.mem_cons_of_mem _ (List.mem_append_right _ h))) z_gw12
set_option maxRecDepth 20000 in
theorem ggX12_statement_X12_parse_h : GoodIn wsX12_statement [.code yX12_parse cX12_parse 4 (some .int)] := goodIn_r _ [59] rfl (by decide +kernel)
set_option maxRecDepth 20000 in
theorem ggX12_statement_X12_parse : GoodIn wsX12_statement wsX12_parse := goodIn_app ggX12_statement_X12_parse_h (goodIn_app (goodIn_app pp_ggX12_statement_X12_parse_wsX12_parse_r1 (goodIn_app pp_ggX12_statement_X12_parse_wsX12_parse_r2 (goodIn_app pp_ggX12_statement_X12_parse_wsX12_parse_r3 (goodIn_app pp_ggX12_statement_X12_parse_wsX12_parse_r4 pp_ggX12_statement_X12_parse_wsX12_parse_r5)))) pp_ggX12_statement_X12_parse_0)
set_option maxRecDepth 20000 in
theorem gX12_statement_X12_parse : GoodIn wsX12_statement (wsV RX12 399 RX12 yX12_parse wsX12_parse) := goodIn_app (goodIn_sub (fa_c (me_s (me_l (me_r (me_r (me_l (List.mem_of_getElem? (i := 7) rfl)))))) (fa_c (me_s (me_l (me_r (me_r (me_l (List.mem_of_getElem? (i := 8) rfl)))))) (fa_c (me_s (me_l (me_r (me_r (me_l (List.mem_of_getElem? (i := 9) rfl)))))) (fa_c (me_s (me_l (me_l (List.mem_of_getElem? (i := 15) rfl)))) fa_n)))) (by decide +kernel)) ggX12_statement_X12_parse
set_option maxRecDepth 20000 in
theorem pp_ggX12_orders_X12_statement_wsX12_statement_r1_0 : GoodIn wsX12_orders [Cond.fieldLink RX12 55 "PetrolBoardModel" "stNumber" "[I", Cond.fieldLink RX12 58 "PetrolBoardModel" "stEx" "[I", Cond.fieldLink RX12 61 "PetrolBoardModel" "stCond" "[I", Cond.fieldLink RX12 64 "PetrolBoardModel" "stFrom" "[I", Cond.fieldLink RX12 337 "PetrolBoardModel" "nodes" "I", Cond.fieldLink RX12 281 "PetrolBoardModel" "token" "I"] := goodIn_r _ [52, 53, 54, 55, 8, 9] rfl (by decide +kernel)
set_option maxRecDepth 20000 in
theorem pp_ggX12_orders_X12_statement_wsX12_statement_r1_6 : GoodIn wsX12_orders [Cond.fieldLink RX12 271 "PetrolBoardModel" "word" "J", Cond.fieldLink RX12 52 "PetrolBoardModel" "stRule" "[I", Cond.fieldLink RX12 294 "PetrolBoardModel" "isWrong" "Z", Cond.constantLong RX12 403 (249), Cond.fieldLink RX12 278 "PetrolBoardModel" "value" "I", Cond.fieldLink RX12 67 "PetrolBoardModel" "stTo" "[I"] := goodIn_r _ [25, 56, 6, 57, 27, 58] rfl (by decide +kernel)
set_option maxRecDepth 20000 in
theorem pp_ggX12_orders_X12_statement_wsX12_statement_r1_12 : GoodIn wsX12_orders [Cond.methodLink RX12 396 yX12_ruleOf, Cond.instanceMethod yX12_ruleOf, Cond.selects RX12 yX12_ruleOf yX12_ruleOf, Cond.initialized RX12, Cond.code yX12_ruleOf cX12_ruleOf 3 (some .int), Cond.constantLong RX12 307 (11442943)] := goodIn_r _ [59, 60, 61, 17, 62, 63] rfl (by decide +kernel)
set_option maxRecDepth 20000 in
theorem pp_ggX12_orders_X12_statement_wsX12_statement_r1_18 : GoodIn wsX12_orders [Cond.constantLong RX12 309 (407041), Cond.constantLong RX12 311 (388978), Cond.constantLong RX12 313 (12532058), Cond.constantLong RX12 315 (6409157), Cond.constantLong RX12 317 (240223), Cond.constantLong RX12 319 (12257222)] := goodIn_r _ [64, 65, 66, 67, 68, 69] rfl (by decide +kernel)
set_option maxRecDepth 20000 in
theorem pp_ggX12_orders_X12_statement_wsX12_statement_r1 : GoodIn wsX12_orders wsX12_statement_r1 := (goodIn_app pp_ggX12_orders_X12_statement_wsX12_statement_r1_0 (goodIn_app pp_ggX12_orders_X12_statement_wsX12_statement_r1_6 (goodIn_app pp_ggX12_orders_X12_statement_wsX12_statement_r1_12 pp_ggX12_orders_X12_statement_wsX12_statement_r1_18)))
set_option maxRecDepth 20000 in
theorem pp_ggX12_orders_X12_statement_wsX12_statement_r2_0 : GoodIn wsX12_orders [Cond.constantLong RX12 321 (2436392), Cond.methodLink RX12 304 yX12_errs, Cond.instanceMethod yX12_errs, Cond.selects RX12 yX12_errs yX12_errs, Cond.code yX12_errs cX12_errs 1 none, Cond.fieldLink RX12 266 "PetrolBoardModel" "from" "I"] := goodIn_r _ [70, 44, 45, 46, 47, 23] rfl (by decide +kernel)
set_option maxRecDepth 20000 in
theorem pp_ggX12_orders_X12_statement_wsX12_statement_r2_6 : GoodIn wsX12_orders [Cond.fieldLink RX12 87 "PetrolBoardModel" "faultAt" "I", Cond.methodLink RX12 301 yX12_next, Cond.instanceMethod yX12_next, Cond.selects RX12 yX12_next yX12_next, Cond.code yX12_next cX12_next 2 none, Cond.fieldLink RX12 256 "PetrolBoardModel" "point" "I"] := goodIn_r _ [5, 19, 20, 21, 22, 4] rfl (by decide +kernel)
set_option maxRecDepth 20000 in
theorem pp_ggX12_orders_X12_statement_wsX12_statement_r2_12 : GoodIn wsX12_orders [Cond.constantLong RX12 269 (-1), Cond.fieldLink RX12 275 "PetrolBoardModel" "sign" "I", Cond.constantLong RX12 284 (27), Cond.constant RX12 286 (10000000), Cond.methodLink RX12 262 yX12_here, Cond.instanceMethod yX12_here] := goodIn_r _ [24, 26, 28, 29, 30, 31] rfl (by decide +kernel)
set_option maxRecDepth 20000 in
theorem pp_ggX12_orders_X12_statement_wsX12_statement_r2_18 : GoodIn wsX12_orders [Cond.selects RX12 yX12_here yX12_here, Cond.code yX12_here cX12_here 1 (some .int), Cond.fieldLink RX12 259 "PetrolBoardModel" "limit" "I", Cond.fieldLink RX12 83 "PetrolBoardModel" "tape" "[B", Cond.methodLink RX12 235 yX12_within, Cond.static yX12_within] := goodIn_r _ [32, 33, 3, 34, 35, 36] rfl (by decide +kernel)
set_option maxRecDepth 20000 in
theorem pp_ggX12_orders_X12_statement_wsX12_statement_r2 : GoodIn wsX12_orders wsX12_statement_r2 := (goodIn_app pp_ggX12_orders_X12_statement_wsX12_statement_r2_0 (goodIn_app pp_ggX12_orders_X12_statement_wsX12_statement_r2_6 (goodIn_app pp_ggX12_orders_X12_statement_wsX12_statement_r2_12 pp_ggX12_orders_X12_statement_wsX12_statement_r2_18)))
set_option maxRecDepth 20000 in
theorem pp_ggX12_orders_X12_statement_wsX12_statement_r3_0 : GoodIn wsX12_orders [Cond.code yX12_within cX12_within 3 (some .boolean), Cond.methodLink RX12 287 yX12_min, Cond.static yX12_min, Cond.code yX12_min cX12_min 2 (some .int), Cond.methodLink RX12 291 yX12_isSignByte, Cond.static yX12_isSignByte] := goodIn_r _ [37, 38, 39, 40, 41, 42] rfl (by decide +kernel)
set_option maxRecDepth 20000 in
theorem pp_ggX12_orders_X12_statement_wsX12_statement_r3_6 : GoodIn wsX12_orders [Cond.code yX12_isSignByte cX12_isSignByte 1 (some .boolean), Cond.methodLink RX12 399 yX12_parse, Cond.instanceMethod yX12_parse, Cond.selects RX12 yX12_parse yX12_parse, Cond.code yX12_parse cX12_parse 4 (some .int), Cond.fieldLink RX12 340 "PetrolBoardModel" "deep" "I"] := goodIn_r _ [43, 71, 72, 73, 74, 75] rfl (by decide +kernel)
set_option maxRecDepth 20000 in
theorem pp_ggX12_orders_X12_statement_wsX12_statement_r3_12 : GoodIn wsX12_orders [Cond.fieldLink RX12 346 "PetrolBoardModel" "open" "I", Cond.fieldLink RX12 91 "PetrolBoardModel" "what" "[I", Cond.fieldLink RX12 343 "PetrolBoardModel" "got" "I", Cond.methodLink RX12 349 yX12_begin, Cond.instanceMethod yX12_begin, Cond.selects RX12 yX12_begin yX12_begin] := goodIn_r _ [76, 77, 78, 79, 80, 81] rfl (by decide +kernel)
set_option maxRecDepth 20000 in
theorem pp_ggX12_orders_X12_statement_wsX12_statement_r3_18 : GoodIn wsX12_orders [Cond.code yX12_begin cX12_begin 2 none, Cond.fieldLink RX12 94 "PetrolBoardModel" "at" "[I", Cond.fieldLink RX12 97 "PetrolBoardModel" "one" "[I", Cond.fieldLink RX12 100 "PetrolBoardModel" "sort" "[I", Cond.methodLink RX12 353 yX12_sums, Cond.instanceMethod yX12_sums] := goodIn_r _ [82, 83, 84, 85, 86, 87] rfl (by decide +kernel)
set_option maxRecDepth 20000 in
theorem pp_ggX12_orders_X12_statement_wsX12_statement_r3 : GoodIn wsX12_orders wsX12_statement_r3 := (goodIn_app pp_ggX12_orders_X12_statement_wsX12_statement_r3_0 (goodIn_app pp_ggX12_orders_X12_statement_wsX12_statement_r3_6 (goodIn_app pp_ggX12_orders_X12_statement_wsX12_statement_r3_12 pp_ggX12_orders_X12_statement_wsX12_statement_r3_18)))
set_option maxRecDepth 20000 in
theorem pp_ggX12_orders_X12_statement_wsX12_statement_r4_0 : GoodIn wsX12_orders [Cond.selects RX12 yX12_sums yX12_sums, Cond.code yX12_sums cX12_sums 4 none, Cond.methodLink RX12 366 yX12_node, Cond.instanceMethod yX12_node, Cond.selects RX12 yX12_node yX12_node, Cond.code yX12_node cX12_node 4 (some .int)] := goodIn_r _ [88, 89, 90, 91, 92, 93] rfl (by decide +kernel)
set_option maxRecDepth 20000 in
theorem pp_ggX12_orders_X12_statement_wsX12_statement_r4_6 : GoodIn wsX12_orders [Cond.fieldLink RX12 70 "PetrolBoardModel" "nodeKind" "[I", Cond.fieldLink RX12 73 "PetrolBoardModel" "nodeA" "[I", Cond.fieldLink RX12 76 "PetrolBoardModel" "nodeB" "[I", Cond.methodLink RX12 298 yX12_isSign, Cond.instanceMethod yX12_isSign, Cond.selects RX12 yX12_isSign yX12_isSign] := goodIn_r _ [94, 95, 96, 97, 98, 99] rfl (by decide +kernel)
set_option maxRecDepth 20000 in
theorem pp_ggX12_orders_X12_statement_wsX12_statement_r4_12 : GoodIn wsX12_orders [Cond.code yX12_isSign cX12_isSign 2 (some .boolean), Cond.methodLink RX12 369 yX12_ends, Cond.instanceMethod yX12_ends, Cond.selects RX12 yX12_ends yX12_ends, Cond.code yX12_ends cX12_ends 2 none, Cond.methodLink RX12 357 yX12_atom] := goodIn_r _ [100, 101, 102, 103, 104, 105] rfl (by decide +kernel)
set_option maxRecDepth 20000 in
theorem pp_ggX12_orders_X12_statement_wsX12_statement_r4_18 : GoodIn wsX12_orders [Cond.instanceMethod yX12_atom, Cond.selects RX12 yX12_atom yX12_atom, Cond.code yX12_atom cX12_atom 3 none, Cond.constantLong RX12 375 (6476969), Cond.constantLong RX12 381 (267347), Cond.methodLink RX12 372 yX12_opens] := goodIn_r _ [106, 107, 108, 109, 110, 111] rfl (by decide +kernel)
set_option maxRecDepth 20000 in
theorem pp_ggX12_orders_X12_statement_wsX12_statement_r4 : GoodIn wsX12_orders wsX12_statement_r4 := (goodIn_app pp_ggX12_orders_X12_statement_wsX12_statement_r4_0 (goodIn_app pp_ggX12_orders_X12_statement_wsX12_statement_r4_6 (goodIn_app pp_ggX12_orders_X12_statement_wsX12_statement_r4_12 pp_ggX12_orders_X12_statement_wsX12_statement_r4_18)))
set_option maxRecDepth 20000 in
theorem pp_ggX12_orders_X12_statement_wsX12_statement_r5_0 : GoodIn wsX12_orders [Cond.instanceMethod yX12_opens, Cond.selects RX12 yX12_opens yX12_opens, Cond.code yX12_opens cX12_opens 1 none, Cond.methodLink RX12 377 yX12_isWord, Cond.instanceMethod yX12_isWord, Cond.selects RX12 yX12_isWord yX12_isWord] := goodIn_r _ [112, 113, 114, 115, 116, 117] rfl (by decide +kernel)
set_option maxRecDepth 20000 in
theorem pp_ggX12_orders_X12_statement_wsX12_statement_r5_6 : GoodIn wsX12_orders [Cond.code yX12_isWord cX12_isWord 3 (some .boolean), Cond.methodLink RX12 383 yX12_must, Cond.instanceMethod yX12_must, Cond.selects RX12 yX12_must yX12_must, Cond.code yX12_must cX12_must 2 none, Cond.methodLink RX12 386 yX12_nameOf] := goodIn_r _ [118, 119, 120, 121, 122, 123] rfl (by decide +kernel)
set_option maxRecDepth 20000 in
theorem pp_ggX12_orders_X12_statement_wsX12_statement_r5_12 : GoodIn wsX12_orders [Cond.instanceMethod yX12_nameOf, Cond.selects RX12 yX12_nameOf yX12_nameOf, Cond.code yX12_nameOf cX12_nameOf 3 (some .int), Cond.constantLong RX12 323 (1831780), Cond.constantLong RX12 325 (381245), Cond.constantLong RX12 327 (405230)] := goodIn_r _ [124, 125, 126, 127, 128, 129] rfl (by decide +kernel)
set_option maxRecDepth 20000 in
theorem pp_ggX12_orders_X12_statement_wsX12_statement_r5_18 : GoodIn wsX12_orders [Cond.constantLong RX12 329 (7214732), Cond.constantLong RX12 331 (7094782), Cond.constantLong RX12 333 (232546955), Cond.constantLong RX12 335 (260971484), Cond.methodLink RX12 360 yX12_chain, Cond.instanceMethod yX12_chain] := goodIn_r _ [130, 131, 132, 133, 134, 135] rfl (by decide +kernel)
set_option maxRecDepth 20000 in
theorem pp_ggX12_orders_X12_statement_wsX12_statement_r5 : GoodIn wsX12_orders wsX12_statement_r5 := (goodIn_app pp_ggX12_orders_X12_statement_wsX12_statement_r5_0 (goodIn_app pp_ggX12_orders_X12_statement_wsX12_statement_r5_6 (goodIn_app pp_ggX12_orders_X12_statement_wsX12_statement_r5_12 pp_ggX12_orders_X12_statement_wsX12_statement_r5_18)))
set_option maxRecDepth 20000 in
theorem pp_ggX12_orders_X12_statement_wsX12_statement_r6_0 : GoodIn wsX12_orders [Cond.selects RX12 yX12_chain yX12_chain, Cond.code yX12_chain cX12_chain 3 none, Cond.constantLong RX12 390 (423), Cond.constantLong RX12 392 (1111), Cond.methodLink RX12 363 yX12_test, Cond.instanceMethod yX12_test] := goodIn_r _ [136, 137, 138, 139, 140, 141] rfl (by decide +kernel)
set_option maxRecDepth 20000 in
theorem pp_ggX12_orders_X12_statement_wsX12_statement_r6_6 : GoodIn wsX12_orders [Cond.selects RX12 yX12_test yX12_test, Cond.code yX12_test cX12_test 2 none, Cond.constantLong RX12 394 (10631)] := goodIn_r _ [142, 143, 144] rfl (by decide +kernel)
set_option maxRecDepth 20000 in
theorem pp_ggX12_orders_X12_statement_wsX12_statement_r6 : GoodIn wsX12_orders wsX12_statement_r6 := (goodIn_app pp_ggX12_orders_X12_statement_wsX12_statement_r6_0 pp_ggX12_orders_X12_statement_wsX12_statement_r6_6)
set_option maxRecDepth 20000 in
theorem pp_ggX12_orders_X12_statement_0 : GoodIn wsX12_orders wsX120 := goodIn_su2 (fun w h => (List.mem_cons_of_mem _ (List.mem_append_right _ h))) z_gw12
set_option maxRecDepth 20000 in
theorem ggX12_orders_X12_statement_h : GoodIn wsX12_orders [.code yX12_statement cX12_statement 3 none] := goodIn_r _ [51] rfl (by decide +kernel)
set_option maxRecDepth 20000 in
theorem ggX12_orders_X12_statement : GoodIn wsX12_orders wsX12_statement := goodIn_app ggX12_orders_X12_statement_h (goodIn_app (goodIn_app pp_ggX12_orders_X12_statement_wsX12_statement_r1 (goodIn_app pp_ggX12_orders_X12_statement_wsX12_statement_r2 (goodIn_app pp_ggX12_orders_X12_statement_wsX12_statement_r3 (goodIn_app pp_ggX12_orders_X12_statement_wsX12_statement_r4 (goodIn_app pp_ggX12_orders_X12_statement_wsX12_statement_r5 pp_ggX12_orders_X12_statement_wsX12_statement_r6))))) pp_ggX12_orders_X12_statement_0)
set_option maxRecDepth 20000 in
theorem gX12_orders_X12_statement : GoodIn wsX12_orders (wsV RX12 414 RX12 yX12_statement wsX12_statement) := goodIn_app (goodIn_sub (fa_c (me_s (me_l (me_r (me_l (List.mem_of_getElem? (i := 23) rfl))))) (fa_c (me_s (me_l (me_r (me_r (me_l (List.mem_of_getElem? (i := 0) rfl)))))) (fa_c (me_s (me_l (me_r (me_r (me_l (List.mem_of_getElem? (i := 1) rfl)))))) (fa_c (me_s (me_l (me_l (List.mem_of_getElem? (i := 16) rfl)))) fa_n)))) (by decide +kernel)) ggX12_orders_X12_statement
