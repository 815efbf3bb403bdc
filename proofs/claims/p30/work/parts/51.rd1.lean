theorem dX9_put_0 : decode cX9_put 0 = .ok (.bipush 24, 2) := z_dd_16 (by decide +kernel)
theorem dX9_put_2 : decode cX9_put 2 = .ok (.istore_n 2, 1) := z_dd_61 (by decide +kernel)
theorem dX9_put_3 : decode cX9_put 3 = .ok (.iload_n 2, 1) := z_dd_28 (by decide +kernel)
theorem dX9_put_4 : decode cX9_put 4 = .ok (.ifCond .lt 47, 3) := z_dd_155 (by decide +kernel)
theorem dX9_put_51 : decode cX9_put 51 = .ok (.return_, 1) := z_dd_177 (by decide +kernel)
theorem dX9_put_7 : decode cX9_put 7 = .ok (.aload_n 0, 1) := z_dd_42 (by decide +kernel)
theorem dX9_put_8 : decode cX9_put 8 = .ok (.getfield 36, 3) := z_dd_180 (by decide +kernel)
theorem dX9_put_11 : decode cX9_put 11 = .ok (.aload_n 0, 1) := z_dd_42 (by decide +kernel)
theorem dX9_put_12 : decode cX9_put 12 = .ok (.getfield 9, 3) := z_dd_180 (by decide +kernel)
theorem dX9_put_15 : decode cX9_put 15 = .ok (.arraylength, 1) := z_dd_190 (by decide +kernel)
theorem dX9_put_16 : decode cX9_put 16 = .ok (.if_icmp .ge 35, 3) := z_dd_162 (by decide +kernel)
theorem dX9_put_19 : decode cX9_put 19 = .ok (.aload_n 0, 1) := z_dd_42 (by decide +kernel)
theorem dX9_put_20 : decode cX9_put 20 = .ok (.getfield 9, 3) := z_dd_180 (by decide +kernel)
theorem dX9_put_23 : decode cX9_put 23 = .ok (.aload_n 0, 1) := z_dd_42 (by decide +kernel)
theorem dX9_put_24 : decode cX9_put 24 = .ok (.getfield 36, 3) := z_dd_180 (by decide +kernel)
theorem dX9_put_27 : decode cX9_put 27 = .ok (.iload_n 1, 1) := z_dd_27 (by decide +kernel)
theorem dX9_put_28 : decode cX9_put 28 = .ok (.iload_n 2, 1) := z_dd_28 (by decide +kernel)
theorem dX9_put_29 : decode cX9_put 29 = .ok (.iushr, 1) := z_dd_124 (by decide +kernel)
theorem dX9_put_30 : decode cX9_put 30 = .ok (.sipush 255, 3) := z_dd_17 (by decide +kernel)
theorem dX9_put_33 : decode cX9_put 33 = .ok (.iand, 1) := z_dd_126 (by decide +kernel)
theorem dX9_put_34 : decode cX9_put 34 = .ok (.iastore, 1) := z_dd_79 (by decide +kernel)
theorem dX9_put_35 : decode cX9_put 35 = .ok (.aload_n 0, 1) := z_dd_42 (by decide +kernel)
theorem dX9_put_36 : decode cX9_put 36 = .ok (.dup, 1) := z_dd_89 (by decide +kernel)
theorem dX9_put_37 : decode cX9_put 37 = .ok (.getfield 36, 3) := z_dd_180 (by decide +kernel)
theorem dX9_put_40 : decode cX9_put 40 = .ok (.iconst 1, 1) := z_dd_4 (by decide +kernel)
theorem dX9_put_41 : decode cX9_put 41 = .ok (.iadd, 1) := z_dd_96 (by decide +kernel)
theorem dX9_put_42 : decode cX9_put 42 = .ok (.putfield 36, 3) := z_dd_181 (by decide +kernel)
theorem dX9_put_45 : decode cX9_put 45 = .ok (.iinc 2 (-8), 3) := z_dd_132 (by decide +kernel)
theorem dX9_put_48 : decode cX9_put 48 = .ok (.goto (-45), 3) := z_dd_167 (by decide +kernel)
theorem dX9_step_0 : decode cX9_step 0 = .ok (.aload_n 0, 1) := z_dd_42 (by decide +kernel)
theorem dX9_step_1 : decode cX9_step 1 = .ok (.dup, 1) := z_dd_89 (by decide +kernel)
theorem dX9_step_2 : decode cX9_step 2 = .ok (.getfield 56, 3) := z_dd_180 (by decide +kernel)
theorem dX9_step_5 : decode cX9_step 5 = .ok (.iconst 1, 1) := z_dd_4 (by decide +kernel)
theorem dX9_step_6 : decode cX9_step 6 = .ok (.iadd, 1) := z_dd_96 (by decide +kernel)
theorem dX9_step_7 : decode cX9_step 7 = .ok (.putfield 56, 3) := z_dd_181 (by decide +kernel)
theorem dX9_step_10 : decode cX9_step 10 = .ok (.aload_n 0, 1) := z_dd_42 (by decide +kernel)
theorem dX9_step_11 : decode cX9_step 11 = .ok (.aload_n 0, 1) := z_dd_42 (by decide +kernel)
theorem dX9_step_12 : decode cX9_step 12 = .ok (.getfield 56, 3) := z_dd_180 (by decide +kernel)
theorem dX9_step_15 : decode cX9_step 15 = .ok (.aload_n 0, 1) := z_dd_42 (by decide +kernel)
theorem dX9_step_16 : decode cX9_step 16 = .ok (.getfield 76, 3) := z_dd_180 (by decide +kernel)
theorem dX9_step_19 : decode cX9_step 19 = .ok (.if_icmp .ge 27, 3) := z_dd_162 (by decide +kernel)
theorem dX9_step_46 : decode cX9_step 46 = .ok (.sipush 401, 3) := z_dd_17 (by decide +kernel)
theorem dX9_step_49 : decode cX9_step 49 = .ok (.putfield 62, 3) := z_dd_181 (by decide +kernel)
theorem dX9_step_52 : decode cX9_step 52 = .ok (.return_, 1) := z_dd_177 (by decide +kernel)
theorem dX9_step_22 : decode cX9_step 22 = .ok (.aload_n 0, 1) := z_dd_42 (by decide +kernel)
theorem dX9_step_23 : decode cX9_step 23 = .ok (.getfield 56, 3) := z_dd_180 (by decide +kernel)
theorem dX9_step_26 : decode cX9_step 26 = .ok (.aload_n 0, 1) := z_dd_42 (by decide +kernel)
theorem dX9_step_27 : decode cX9_step 27 = .ok (.getfield 15, 3) := z_dd_180 (by decide +kernel)
theorem dX9_step_30 : decode cX9_step 30 = .ok (.arraylength, 1) := z_dd_190 (by decide +kernel)
theorem dX9_step_31 : decode cX9_step 31 = .ok (.if_icmp .ge 15, 3) := z_dd_162 (by decide +kernel)
theorem dX9_step_34 : decode cX9_step 34 = .ok (.aload_n 0, 1) := z_dd_42 (by decide +kernel)
theorem dX9_step_35 : decode cX9_step 35 = .ok (.getfield 15, 3) := z_dd_180 (by decide +kernel)
theorem dX9_step_38 : decode cX9_step 38 = .ok (.aload_n 0, 1) := z_dd_42 (by decide +kernel)
theorem dX9_step_39 : decode cX9_step 39 = .ok (.getfield 56, 3) := z_dd_180 (by decide +kernel)
theorem dX9_step_42 : decode cX9_step 42 = .ok (.iaload, 1) := z_dd_46 (by decide +kernel)
theorem dX9_step_43 : decode cX9_step 43 = .ok (.goto 6, 3) := z_dd_167 (by decide +kernel)
theorem dX9_taken_0 : decode cX9_taken 0 = .ok (.aload_n 0, 1) := z_dd_42 (by decide +kernel)
theorem dX9_taken_1 : decode cX9_taken 1 = .ok (.getfield 62, 3) := z_dd_180 (by decide +kernel)
theorem dX9_taken_4 : decode cX9_taken 4 = .ok (.iload_n 1, 1) := z_dd_27 (by decide +kernel)
theorem dX9_taken_5 : decode cX9_taken 5 = .ok (.if_icmp .eq 5, 3) := z_dd_159 (by decide +kernel)
theorem dX9_taken_10 : decode cX9_taken 10 = .ok (.aload_n 0, 1) := z_dd_42 (by decide +kernel)
set_option maxRecDepth 20000 in
theorem ggX9_taken_X9_step : GoodIn wsX9_taken wsX9_step := goodIn_sub (fa_c (me_s (me_l (List.mem_of_getElem? (i := 5) rfl))) (fa_a (fa_c (me_s (me_l (List.mem_of_getElem? (i := 6) rfl))) (fa_c (me_s (me_l (List.mem_of_getElem? (i := 7) rfl))) (fa_c (me_s (me_l (List.mem_of_getElem? (i := 8) rfl))) (fa_c (me_s (me_l (List.mem_of_getElem? (i := 0) rfl))) fa_n)))) (fun w h => (me_s (me_r h))))) (by decide +kernel)
set_option maxRecDepth 20000 in
theorem gX9_taken_X9_step : GoodIn wsX9_taken (wsV RX9 59 RX9 yX9_step wsX9_step) := goodIn_app (goodIn_sub (fa_c (me_s (me_l (List.mem_of_getElem? (i := 1) rfl))) (fa_c (me_s (me_l (List.mem_of_getElem? (i := 2) rfl))) (fa_c (me_s (me_l (List.mem_of_getElem? (i := 3) rfl))) (fa_c (me_s (me_l (List.mem_of_getElem? (i := 4) rfl))) fa_n)))) (by decide +kernel)) ggX9_taken_X9_step
theorem dX9_taken_11 : decode cX9_taken 11 = .ok (.invokevirtual 59, 3) := z_dd_182 (by decide +kernel)
theorem dX9_taken_14 : decode cX9_taken 14 = .ok (.iconst 1, 1) := z_dd_4 (by decide +kernel)
theorem dX9_taken_15 : decode cX9_taken 15 = .ok (.ireturn, 1) := z_dd_172 (by decide +kernel)
theorem dX9_taken_8 : decode cX9_taken 8 = .ok (.iconst 0, 1) := z_dd_3 (by decide +kernel)
theorem dX9_taken_9 : decode cX9_taken 9 = .ok (.ireturn, 1) := z_dd_172 (by decide +kernel)
theorem dX9_emit_0 : decode cX9_emit 0 = .ok (.aload_n 0, 1) := z_dd_42 (by decide +kernel)
theorem dX9_emit_1 : decode cX9_emit 1 = .ok (.getfield 50, 3) := z_dd_180 (by decide +kernel)
theorem dX9_emit_4 : decode cX9_emit 4 = .ok (.aload_n 0, 1) := z_dd_42 (by decide +kernel)
theorem dX9_emit_5 : decode cX9_emit 5 = .ok (.getfield 24, 3) := z_dd_180 (by decide +kernel)
theorem dX9_emit_8 : decode cX9_emit 8 = .ok (.arraylength, 1) := z_dd_190 (by decide +kernel)
theorem dX9_emit_9 : decode cX9_emit 9 = .ok (.if_icmp .ge 23, 3) := z_dd_162 (by decide +kernel)
theorem dX9_emit_32 : decode cX9_emit 32 = .ok (.return_, 1) := z_dd_177 (by decide +kernel)
theorem dX9_emit_12 : decode cX9_emit 12 = .ok (.aload_n 0, 1) := z_dd_42 (by decide +kernel)
theorem dX9_emit_13 : decode cX9_emit 13 = .ok (.getfield 24, 3) := z_dd_180 (by decide +kernel)
theorem dX9_emit_16 : decode cX9_emit 16 = .ok (.aload_n 0, 1) := z_dd_42 (by decide +kernel)
theorem dX9_emit_17 : decode cX9_emit 17 = .ok (.getfield 50, 3) := z_dd_180 (by decide +kernel)
theorem dX9_emit_20 : decode cX9_emit 20 = .ok (.iload_n 1, 1) := z_dd_27 (by decide +kernel)
theorem dX9_emit_21 : decode cX9_emit 21 = .ok (.iastore, 1) := z_dd_79 (by decide +kernel)
theorem dX9_emit_22 : decode cX9_emit 22 = .ok (.aload_n 0, 1) := z_dd_42 (by decide +kernel)
theorem dX9_emit_23 : decode cX9_emit 23 = .ok (.dup, 1) := z_dd_89 (by decide +kernel)
theorem dX9_emit_24 : decode cX9_emit 24 = .ok (.getfield 50, 3) := z_dd_180 (by decide +kernel)
theorem dX9_emit_27 : decode cX9_emit 27 = .ok (.iconst 1, 1) := z_dd_4 (by decide +kernel)
theorem dX9_emit_28 : decode cX9_emit 28 = .ok (.iadd, 1) := z_dd_96 (by decide +kernel)
theorem dX9_emit_29 : decode cX9_emit 29 = .ok (.putfield 50, 3) := z_dd_181 (by decide +kernel)
theorem dX9_numberHere_0 : decode cX9_numberHere 0 = .ok (.aload_n 0, 1) := z_dd_42 (by decide +kernel)
theorem dX9_numberHere_1 : decode cX9_numberHere 1 = .ok (.getfield 56, 3) := z_dd_180 (by decide +kernel)
theorem dX9_numberHere_4 : decode cX9_numberHere 4 = .ok (.ifCond .lt 27, 3) := z_dd_155 (by decide +kernel)
theorem dX9_numberHere_31 : decode cX9_numberHere 31 = .ok (.iconst 0, 1) := z_dd_3 (by decide +kernel)
theorem dX9_numberHere_32 : decode cX9_numberHere 32 = .ok (.ireturn, 1) := z_dd_172 (by decide +kernel)
theorem dX9_numberHere_7 : decode cX9_numberHere 7 = .ok (.aload_n 0, 1) := z_dd_42 (by decide +kernel)
theorem dX9_numberHere_8 : decode cX9_numberHere 8 = .ok (.getfield 56, 3) := z_dd_180 (by decide +kernel)
theorem dX9_numberHere_11 : decode cX9_numberHere 11 = .ok (.aload_n 0, 1) := z_dd_42 (by decide +kernel)
theorem dX9_numberHere_12 : decode cX9_numberHere 12 = .ok (.getfield 18, 3) := z_dd_180 (by decide +kernel)
theorem dX9_numberHere_15 : decode cX9_numberHere 15 = .ok (.arraylength, 1) := z_dd_190 (by decide +kernel)
theorem dX9_numberHere_16 : decode cX9_numberHere 16 = .ok (.if_icmp .ge 15, 3) := z_dd_162 (by decide +kernel)
theorem dX9_numberHere_19 : decode cX9_numberHere 19 = .ok (.aload_n 0, 1) := z_dd_42 (by decide +kernel)
theorem dX9_numberHere_20 : decode cX9_numberHere 20 = .ok (.getfield 18, 3) := z_dd_180 (by decide +kernel)
theorem dX9_numberHere_23 : decode cX9_numberHere 23 = .ok (.aload_n 0, 1) := z_dd_42 (by decide +kernel)
theorem dX9_numberHere_24 : decode cX9_numberHere 24 = .ok (.getfield 56, 3) := z_dd_180 (by decide +kernel)
theorem dX9_numberHere_27 : decode cX9_numberHere 27 = .ok (.iaload, 1) := z_dd_46 (by decide +kernel)
theorem dX9_numberHere_28 : decode cX9_numberHere 28 = .ok (.goto 4, 3) := z_dd_167 (by decide +kernel)
theorem dX9_place_0 : decode cX9_place 0 = .ok (.aload_n 0, 1) := z_dd_42 (by decide +kernel)
theorem dX9_place_1 : decode cX9_place 1 = .ok (.getfield 56, 3) := z_dd_180 (by decide +kernel)
theorem dX9_place_4 : decode cX9_place 4 = .ok (.ifCond .lt 38, 3) := z_dd_155 (by decide +kernel)
theorem dX9_place_42 : decode cX9_place 42 = .ok (.iconst 0, 1) := z_dd_3 (by decide +kernel)
theorem dX9_place_43 : decode cX9_place 43 = .ok (.ireturn, 1) := z_dd_172 (by decide +kernel)
theorem dX9_place_7 : decode cX9_place 7 = .ok (.aload_n 0, 1) := z_dd_42 (by decide +kernel)
theorem dX9_place_8 : decode cX9_place 8 = .ok (.getfield 56, 3) := z_dd_180 (by decide +kernel)
theorem dX9_place_11 : decode cX9_place 11 = .ok (.aload_n 0, 1) := z_dd_42 (by decide +kernel)
theorem dX9_place_12 : decode cX9_place 12 = .ok (.getfield 76, 3) := z_dd_180 (by decide +kernel)
theorem dX9_place_15 : decode cX9_place 15 = .ok (.if_icmp .ge 27, 3) := z_dd_162 (by decide +kernel)
theorem dX9_place_18 : decode cX9_place 18 = .ok (.aload_n 0, 1) := z_dd_42 (by decide +kernel)
theorem dX9_place_19 : decode cX9_place 19 = .ok (.getfield 56, 3) := z_dd_180 (by decide +kernel)
theorem dX9_place_22 : decode cX9_place 22 = .ok (.aload_n 0, 1) := z_dd_42 (by decide +kernel)
theorem dX9_place_23 : decode cX9_place 23 = .ok (.getfield 21, 3) := z_dd_180 (by decide +kernel)
theorem dX9_place_26 : decode cX9_place 26 = .ok (.arraylength, 1) := z_dd_190 (by decide +kernel)
theorem dX9_place_27 : decode cX9_place 27 = .ok (.if_icmp .ge 15, 3) := z_dd_162 (by decide +kernel)
theorem dX9_place_30 : decode cX9_place 30 = .ok (.aload_n 0, 1) := z_dd_42 (by decide +kernel)
theorem dX9_place_31 : decode cX9_place 31 = .ok (.getfield 21, 3) := z_dd_180 (by decide +kernel)
theorem dX9_place_34 : decode cX9_place 34 = .ok (.aload_n 0, 1) := z_dd_42 (by decide +kernel)
theorem dX9_place_35 : decode cX9_place 35 = .ok (.getfield 56, 3) := z_dd_180 (by decide +kernel)
theorem dX9_place_38 : decode cX9_place 38 = .ok (.iaload, 1) := z_dd_46 (by decide +kernel)
theorem dX9_place_39 : decode cX9_place 39 = .ok (.goto 4, 3) := z_dd_167 (by decide +kernel)
theorem dX9_atom_0 : decode cX9_atom 0 = .ok (.aload_n 0, 1) := z_dd_42 (by decide +kernel)
theorem dX9_atom_1 : decode cX9_atom 1 = .ok (.getfield 62, 3) := z_dd_180 (by decide +kernel)
theorem dX9_atom_4 : decode cX9_atom 4 = .ok (.sipush 400, 3) := z_dd_17 (by decide +kernel)
theorem dX9_atom_7 : decode cX9_atom 7 = .ok (.if_icmp .eq 23, 3) := z_dd_159 (by decide +kernel)
theorem dX9_atom_30 : decode cX9_atom 30 = .ok (.aload_n 0, 1) := z_dd_42 (by decide +kernel)
theorem dX9_atom_31 : decode cX9_atom 31 = .ok (.aload_n 0, 1) := z_dd_42 (by decide +kernel)
theorem dX9_atom_32 : decode cX9_atom 32 = .ok (.getfield 62, 3) := z_dd_180 (by decide +kernel)
theorem dX9_atom_35 : decode cX9_atom 35 = .ok (.sipush 400, 3) := z_dd_17 (by decide +kernel)
theorem dX9_atom_38 : decode cX9_atom 38 = .ok (.if_icmp .ne 10, 3) := z_dd_160 (by decide +kernel)
theorem dX9_atom_41 : decode cX9_atom 41 = .ok (.aload_n 0, 1) := z_dd_42 (by decide +kernel)
set_option maxRecDepth 20000 in
theorem ggX9_atom_X9_numberHere : GoodIn wsX9_atom wsX9_numberHere := goodIn_sub (fa_c (me_s (me_l (me_l (List.mem_of_getElem? (i := 5) rfl)))) (fa_a (fa_c (me_s (me_l (me_l (List.mem_of_getElem? (i := 6) rfl)))) (fa_c (me_s (me_l (me_l (List.mem_of_getElem? (i := 7) rfl)))) fa_n)) (fun w h => (me_s (me_r h))))) (by decide +kernel)
set_option maxRecDepth 20000 in
theorem gX9_atom_X9_numberHere : GoodIn wsX9_atom (wsV RX9 94 RX9 yX9_numberHere wsX9_numberHere) := goodIn_app (goodIn_sub (fa_c (me_s (me_l (me_l (List.mem_of_getElem? (i := 1) rfl)))) (fa_c (me_s (me_l (me_l (List.mem_of_getElem? (i := 2) rfl)))) (fa_c (me_s (me_l (me_l (List.mem_of_getElem? (i := 3) rfl)))) (fa_c (me_s (me_l (me_l (List.mem_of_getElem? (i := 4) rfl)))) fa_n)))) (by decide +kernel)) ggX9_atom_X9_numberHere
theorem dX9_atom_42 : decode cX9_atom 42 = .ok (.invokevirtual 94, 3) := z_dd_182 (by decide +kernel)
theorem dX9_atom_45 : decode cX9_atom 45 = .ok (.goto 14, 3) := z_dd_167 (by decide +kernel)
set_option maxRecDepth 20000 in
theorem ggX9_atom_X9_emit : GoodIn wsX9_atom wsX9_emit := goodIn_sub (fa_c (me_s (me_l (me_l (List.mem_of_getElem? (i := 11) rfl)))) (fa_a (fa_c (me_s (me_l (me_l (List.mem_of_getElem? (i := 12) rfl)))) (fa_c (me_s (me_l (me_l (List.mem_of_getElem? (i := 13) rfl)))) fa_n)) (fun w h => (me_s (me_r h))))) (by decide +kernel)
set_option maxRecDepth 20000 in
theorem gX9_atom_X9_emit : GoodIn wsX9_atom (wsV RX9 82 RX9 yX9_emit wsX9_emit) := goodIn_app (goodIn_sub (fa_c (me_s (me_l (me_l (List.mem_of_getElem? (i := 8) rfl)))) (fa_c (me_s (me_l (me_l (List.mem_of_getElem? (i := 9) rfl)))) (fa_c (me_s (me_l (me_l (List.mem_of_getElem? (i := 10) rfl)))) (fa_c (me_s (me_l (me_l (List.mem_of_getElem? (i := 4) rfl)))) fa_n)))) (by decide +kernel)) ggX9_atom_X9_emit
theorem dX9_atom_59 : decode cX9_atom 59 = .ok (.invokevirtual 82, 3) := z_dd_182 (by decide +kernel)
theorem dX9_atom_62 : decode cX9_atom 62 = .ok (.aload_n 0, 1) := z_dd_42 (by decide +kernel)
set_option maxRecDepth 20000 in
theorem ggX9_atom_X9_step : GoodIn wsX9_atom wsX9_step := goodIn_sub (fa_c (me_s (me_l (me_l (List.mem_of_getElem? (i := 17) rfl)))) (fa_a (fa_c (me_s (me_l (me_l (List.mem_of_getElem? (i := 6) rfl)))) (fa_c (me_s (me_l (me_l (List.mem_of_getElem? (i := 18) rfl)))) (fa_c (me_s (me_l (me_l (List.mem_of_getElem? (i := 19) rfl)))) (fa_c (me_s (me_l (me_l (List.mem_of_getElem? (i := 0) rfl)))) fa_n)))) (fun w h => (me_s (me_r h))))) (by decide +kernel)
set_option maxRecDepth 20000 in
theorem gX9_atom_X9_step : GoodIn wsX9_atom (wsV RX9 59 RX9 yX9_step wsX9_step) := goodIn_app (goodIn_sub (fa_c (me_s (me_l (me_l (List.mem_of_getElem? (i := 14) rfl)))) (fa_c (me_s (me_l (me_l (List.mem_of_getElem? (i := 15) rfl)))) (fa_c (me_s (me_l (me_l (List.mem_of_getElem? (i := 16) rfl)))) (fa_c (me_s (me_l (me_l (List.mem_of_getElem? (i := 4) rfl)))) fa_n)))) (by decide +kernel)) ggX9_atom_X9_step
theorem dX9_atom_63 : decode cX9_atom 63 = .ok (.invokevirtual 59, 3) := z_dd_182 (by decide +kernel)
theorem dX9_atom_66 : decode cX9_atom 66 = .ok (.iconst 1, 1) := z_dd_4 (by decide +kernel)
theorem dX9_atom_67 : decode cX9_atom 67 = .ok (.ireturn, 1) := z_dd_172 (by decide +kernel)
theorem dX9_atom_10 : decode cX9_atom 10 = .ok (.aload_n 0, 1) := z_dd_42 (by decide +kernel)
theorem dX9_atom_11 : decode cX9_atom 11 = .ok (.getfield 62, 3) := z_dd_180 (by decide +kernel)
theorem dX9_atom_14 : decode cX9_atom 14 = .ok (.sipush 314, 3) := z_dd_17 (by decide +kernel)
theorem dX9_atom_17 : decode cX9_atom 17 = .ok (.if_icmp .lt 51, 3) := z_dd_161 (by decide +kernel)
theorem dX9_atom_68 : decode cX9_atom 68 = .ok (.aload_n 0, 1) := z_dd_42 (by decide +kernel)
theorem dX9_atom_69 : decode cX9_atom 69 = .ok (.getfield 62, 3) := z_dd_180 (by decide +kernel)
theorem dX9_atom_72 : decode cX9_atom 72 = .ok (.istore_n 2, 1) := z_dd_61 (by decide +kernel)
theorem dX9_atom_73 : decode cX9_atom 73 = .ok (.iload_n 2, 1) := z_dd_28 (by decide +kernel)
theorem dX9_atom_74 : decode cX9_atom 74 = .ok (.bipush 40, 2) := z_dd_16 (by decide +kernel)
theorem dX9_atom_76 : decode cX9_atom 76 = .ok (.if_icmp .eq 17, 3) := z_dd_159 (by decide +kernel)
theorem dX9_atom_93 : decode cX9_atom 93 = .ok (.iload_n 1, 1) := z_dd_27 (by decide +kernel)
theorem dX9_atom_94 : decode cX9_atom 94 = .ok (.bipush 9, 2) := z_dd_16 (by decide +kernel)
theorem dX9_atom_96 : decode cX9_atom 96 = .ok (.if_icmp .lt 5, 3) := z_dd_161 (by decide +kernel)
theorem dX9_atom_99 : decode cX9_atom 99 = .ok (.iconst 0, 1) := z_dd_3 (by decide +kernel)
theorem dX9_atom_100 : decode cX9_atom 100 = .ok (.ireturn, 1) := z_dd_172 (by decide +kernel)
theorem dX9_atom_79 : decode cX9_atom 79 = .ok (.iload_n 2, 1) := z_dd_28 (by decide +kernel)
theorem dX9_atom_80 : decode cX9_atom 80 = .ok (.sipush 312, 3) := z_dd_17 (by decide +kernel)
theorem dX9_atom_83 : decode cX9_atom 83 = .ok (.if_icmp .eq 10, 3) := z_dd_159 (by decide +kernel)
theorem dX9_atom_86 : decode cX9_atom 86 = .ok (.iload_n 2, 1) := z_dd_28 (by decide +kernel)
theorem dX9_atom_87 : decode cX9_atom 87 = .ok (.sipush 313, 3) := z_dd_17 (by decide +kernel)
theorem dX9_atom_90 : decode cX9_atom 90 = .ok (.if_icmp .ne 9, 3) := z_dd_160 (by decide +kernel)
theorem dX9_atom_20 : decode cX9_atom 20 = .ok (.aload_n 0, 1) := z_dd_42 (by decide +kernel)
theorem dX9_atom_21 : decode cX9_atom 21 = .ok (.getfield 62, 3) := z_dd_180 (by decide +kernel)
theorem dX9_atom_24 : decode cX9_atom 24 = .ok (.sipush 320, 3) := z_dd_17 (by decide +kernel)
theorem dX9_atom_27 : decode cX9_atom 27 = .ok (.if_icmp .gt 41, 3) := z_dd_163 (by decide +kernel)
theorem dX9_atom_48 : decode cX9_atom 48 = .ok (.bipush (-20), 2) := z_dd_16 (by decide +kernel)
theorem dX9_atom_50 : decode cX9_atom 50 = .ok (.aload_n 0, 1) := z_dd_42 (by decide +kernel)
theorem dX9_atom_51 : decode cX9_atom 51 = .ok (.getfield 62, 3) := z_dd_180 (by decide +kernel)
theorem dX9_atom_54 : decode cX9_atom 54 = .ok (.sipush 314, 3) := z_dd_17 (by decide +kernel)
theorem dX9_atom_57 : decode cX9_atom 57 = .ok (.isub, 1) := z_dd_100 (by decide +kernel)
theorem dX9_atom_58 : decode cX9_atom 58 = .ok (.isub, 1) := z_dd_100 (by decide +kernel)
theorem dX9_product_0 : decode cX9_product 0 = .ok (.aload_n 0, 1) := z_dd_42 (by decide +kernel)
theorem dX9_product_1 : decode cX9_product 1 = .ok (.iload_n 1, 1) := z_dd_27 (by decide +kernel)
set_option maxRecDepth 20000 in
theorem ggX9_product_X9_atom : GoodIn wsX9_product wsX9_atom := goodIn_sub (fa_c (me_s (me_l (me_l (List.mem_of_getElem? (i := 18) rfl)))) (fa_a (fa_a (fa_c (me_s (me_l (me_l (List.mem_of_getElem? (i := 0) rfl)))) (fa_c (me_s (me_l (me_l (List.mem_of_getElem? (i := 19) rfl)))) (fa_c (me_s (me_l (me_l (List.mem_of_getElem? (i := 20) rfl)))) (fa_c (me_s (me_l (me_l (List.mem_of_getElem? (i := 21) rfl)))) (fa_c (me_s (me_l (me_l (List.mem_of_getElem? (i := 4) rfl)))) (fa_c (me_s (me_l (me_l (List.mem_of_getElem? (i := 22) rfl)))) (fa_c (me_s (me_l (me_l (List.mem_of_getElem? (i := 9) rfl)))) (fa_c (me_s (me_l (me_l (List.mem_of_getElem? (i := 23) rfl)))) (fa_c (me_s (me_l (me_l (List.mem_of_getElem? (i := 12) rfl)))) (fa_c (me_s (me_l (me_l (List.mem_of_getElem? (i := 13) rfl)))) (fa_c (me_s (me_l (me_l (List.mem_of_getElem? (i := 14) rfl)))) (fa_c (me_s (me_l (me_l (List.mem_of_getElem? (i := 15) rfl)))) (fa_c (me_s (me_l (me_l (List.mem_of_getElem? (i := 16) rfl)))) (fa_c (me_s (me_l (me_l (List.mem_of_getElem? (i := 17) rfl)))) (fa_c (me_s (me_l (me_l (List.mem_of_getElem? (i := 5) rfl)))) (fa_c (me_s (me_l (me_l (List.mem_of_getElem? (i := 6) rfl)))) (fa_c (me_s (me_l (me_l (List.mem_of_getElem? (i := 7) rfl)))) (fa_c (me_s (me_l (me_l (List.mem_of_getElem? (i := 8) rfl)))) (fa_c (me_s (me_l (me_l (List.mem_of_getElem? (i := 10) rfl)))) (fa_c (me_s (me_l (me_l (List.mem_of_getElem? (i := 11) rfl)))) (fa_c (me_s (me_l (me_r (List.mem_of_getElem? (i := 0) rfl)))) (fa_c (me_s (me_l (me_r (List.mem_of_getElem? (i := 1) rfl)))) (fa_c (me_s (me_l (me_r (List.mem_of_getElem? (i := 2) rfl)))) (fa_c (me_s (me_l (me_r (List.mem_of_getElem? (i := 3) rfl)))) fa_n)))))))))))))))))))))))) (fa_c (me_s (me_l (me_r (List.mem_of_getElem? (i := 4) rfl)))) (fa_c (me_s (me_l (me_r (List.mem_of_getElem? (i := 5) rfl)))) (fa_c (me_s (me_l (me_r (List.mem_of_getElem? (i := 6) rfl)))) (fa_c me_0 (fa_c (me_s (me_l (me_l (List.mem_of_getElem? (i := 1) rfl)))) (fa_c (me_s (me_l (me_l (List.mem_of_getElem? (i := 2) rfl)))) (fa_c (me_s (me_l (me_l (List.mem_of_getElem? (i := 3) rfl)))) (fa_c (me_s (me_l (me_r (List.mem_of_getElem? (i := 7) rfl)))) (fa_c (me_s (me_l (me_r (List.mem_of_getElem? (i := 8) rfl)))) (fa_c (me_s (me_l (me_r (List.mem_of_getElem? (i := 9) rfl)))) (fa_c (me_s (me_l (me_r (List.mem_of_getElem? (i := 10) rfl)))) fa_n)))))))))))) (fun w h => (me_s (me_r h))))) (by decide +kernel)
set_option maxRecDepth 20000 in
theorem gX9_product_X9_atom : GoodIn wsX9_product (wsV RX9 109 RX9 yX9_atom wsX9_atom) := goodIn_app (goodIn_sub (fa_c (me_s (me_l (me_l (List.mem_of_getElem? (i := 1) rfl)))) (fa_c (me_s (me_l (me_l (List.mem_of_getElem? (i := 2) rfl)))) (fa_c (me_s (me_l (me_l (List.mem_of_getElem? (i := 3) rfl)))) (fa_c (me_s (me_l (me_l (List.mem_of_getElem? (i := 4) rfl)))) fa_n)))) (by decide +kernel)) ggX9_product_X9_atom
theorem dX9_product_2 : decode cX9_product 2 = .ok (.invokevirtual 109, 3) := z_dd_182 (by decide +kernel)
theorem dX9_product_5 : decode cX9_product 5 = .ok (.ifCond .ne 5, 3) := z_dd_154 (by decide +kernel)
theorem dX9_product_10 : decode cX9_product 10 = .ok (.iconst 0, 1) := z_dd_3 (by decide +kernel)
theorem dX9_product_11 : decode cX9_product 11 = .ok (.istore_n 2, 1) := z_dd_61 (by decide +kernel)
theorem dX9_product_12 : decode cX9_product 12 = .ok (.iload_n 2, 1) := z_dd_28 (by decide +kernel)
theorem dX9_product_13 : decode cX9_product 13 = .ok (.sipush 500, 3) := z_dd_17 (by decide +kernel)
theorem dX9_product_16 : decode cX9_product 16 = .ok (.if_icmp .ge 63, 3) := z_dd_162 (by decide +kernel)
theorem dX9_product_79 : decode cX9_product 79 = .ok (.iconst 1, 1) := z_dd_4 (by decide +kernel)
theorem dX9_product_80 : decode cX9_product 80 = .ok (.ireturn, 1) := z_dd_172 (by decide +kernel)
theorem dX9_product_19 : decode cX9_product 19 = .ok (.aload_n 0, 1) := z_dd_42 (by decide +kernel)
theorem dX9_product_20 : decode cX9_product 20 = .ok (.getfield 62, 3) := z_dd_180 (by decide +kernel)
theorem dX9_product_23 : decode cX9_product 23 = .ok (.bipush 42, 2) := z_dd_16 (by decide +kernel)
theorem dX9_product_25 : decode cX9_product 25 = .ok (.if_icmp .eq 12, 3) := z_dd_159 (by decide +kernel)
theorem dX9_product_37 : decode cX9_product 37 = .ok (.aload_n 0, 1) := z_dd_42 (by decide +kernel)
theorem dX9_product_38 : decode cX9_product 38 = .ok (.getfield 62, 3) := z_dd_180 (by decide +kernel)
theorem dX9_product_41 : decode cX9_product 41 = .ok (.istore_n 3, 1) := z_dd_62 (by decide +kernel)
theorem dX9_product_42 : decode cX9_product 42 = .ok (.aload_n 0, 1) := z_dd_42 (by decide +kernel)
set_option maxRecDepth 20000 in
theorem ggX9_product_X9_step : GoodIn wsX9_product wsX9_step := goodIn_sub (fa_c (me_s (me_l (me_l (List.mem_of_getElem? (i := 8) rfl)))) (fa_a (fa_c (me_s (me_l (me_l (List.mem_of_getElem? (i := 9) rfl)))) (fa_c (me_s (me_l (me_l (List.mem_of_getElem? (i := 10) rfl)))) (fa_c (me_s (me_l (me_l (List.mem_of_getElem? (i := 11) rfl)))) (fa_c (me_s (me_l (me_l (List.mem_of_getElem? (i := 0) rfl)))) fa_n)))) (fun w h => (me_s (me_r h))))) (by decide +kernel)
set_option maxRecDepth 20000 in
theorem gX9_product_X9_step : GoodIn wsX9_product (wsV RX9 59 RX9 yX9_step wsX9_step) := goodIn_app (goodIn_sub (fa_c (me_s (me_l (me_l (List.mem_of_getElem? (i := 5) rfl)))) (fa_c (me_s (me_l (me_l (List.mem_of_getElem? (i := 6) rfl)))) (fa_c (me_s (me_l (me_l (List.mem_of_getElem? (i := 7) rfl)))) (fa_c (me_s (me_l (me_l (List.mem_of_getElem? (i := 4) rfl)))) fa_n)))) (by decide +kernel)) ggX9_product_X9_step
theorem dX9_product_43 : decode cX9_product 43 = .ok (.invokevirtual 59, 3) := z_dd_182 (by decide +kernel)
theorem dX9_product_46 : decode cX9_product 46 = .ok (.aload_n 0, 1) := z_dd_42 (by decide +kernel)
theorem dX9_product_47 : decode cX9_product 47 = .ok (.iload_n 1, 1) := z_dd_27 (by decide +kernel)
theorem dX9_product_48 : decode cX9_product 48 = .ok (.invokevirtual 109, 3) := z_dd_182 (by decide +kernel)
theorem dX9_product_51 : decode cX9_product 51 = .ok (.ifCond .ne 5, 3) := z_dd_154 (by decide +kernel)
theorem dX9_product_56 : decode cX9_product 56 = .ok (.aload_n 0, 1) := z_dd_42 (by decide +kernel)
theorem dX9_product_57 : decode cX9_product 57 = .ok (.iload_n 3, 1) := z_dd_29 (by decide +kernel)
theorem dX9_product_58 : decode cX9_product 58 = .ok (.bipush 42, 2) := z_dd_16 (by decide +kernel)
theorem dX9_product_60 : decode cX9_product 60 = .ok (.if_icmp .ne 8, 3) := z_dd_160 (by decide +kernel)
theorem dX9_product_63 : decode cX9_product 63 = .ok (.bipush (-3), 2) := z_dd_16 (by decide +kernel)
theorem dX9_product_65 : decode cX9_product 65 = .ok (.goto 5, 3) := z_dd_167 (by decide +kernel)
set_option maxRecDepth 20000 in
theorem ggX9_product_X9_emit : GoodIn wsX9_product wsX9_emit := goodIn_sub (fa_c (me_s (me_l (me_l (List.mem_of_getElem? (i := 15) rfl)))) (fa_a (fa_c (me_s (me_l (me_l (List.mem_of_getElem? (i := 16) rfl)))) (fa_c (me_s (me_l (me_l (List.mem_of_getElem? (i := 17) rfl)))) fa_n)) (fun w h => (me_s (me_r h))))) (by decide +kernel)
set_option maxRecDepth 20000 in
theorem gX9_product_X9_emit : GoodIn wsX9_product (wsV RX9 82 RX9 yX9_emit wsX9_emit) := goodIn_app (goodIn_sub (fa_c (me_s (me_l (me_l (List.mem_of_getElem? (i := 12) rfl)))) (fa_c (me_s (me_l (me_l (List.mem_of_getElem? (i := 13) rfl)))) (fa_c (me_s (me_l (me_l (List.mem_of_getElem? (i := 14) rfl)))) (fa_c (me_s (me_l (me_l (List.mem_of_getElem? (i := 4) rfl)))) fa_n)))) (by decide +kernel)) ggX9_product_X9_emit
theorem dX9_product_70 : decode cX9_product 70 = .ok (.invokevirtual 82, 3) := z_dd_182 (by decide +kernel)
theorem dX9_product_73 : decode cX9_product 73 = .ok (.iinc 2 1, 3) := z_dd_132 (by decide +kernel)
theorem dX9_product_76 : decode cX9_product 76 = .ok (.goto (-64), 3) := z_dd_167 (by decide +kernel)
theorem dX9_product_54 : decode cX9_product 54 = .ok (.iconst 0, 1) := z_dd_3 (by decide +kernel)
theorem dX9_product_55 : decode cX9_product 55 = .ok (.ireturn, 1) := z_dd_172 (by decide +kernel)
theorem dX9_product_28 : decode cX9_product 28 = .ok (.aload_n 0, 1) := z_dd_42 (by decide +kernel)
theorem dX9_product_29 : decode cX9_product 29 = .ok (.getfield 62, 3) := z_dd_180 (by decide +kernel)
theorem dX9_product_32 : decode cX9_product 32 = .ok (.bipush 47, 2) := z_dd_16 (by decide +kernel)
theorem dX9_product_34 : decode cX9_product 34 = .ok (.if_icmp .ne 45, 3) := z_dd_160 (by decide +kernel)
theorem dX9_product_68 : decode cX9_product 68 = .ok (.bipush (-4), 2) := z_dd_16 (by decide +kernel)
theorem dX9_product_8 : decode cX9_product 8 = .ok (.iconst 0, 1) := z_dd_3 (by decide +kernel)
theorem dX9_product_9 : decode cX9_product 9 = .ok (.ireturn, 1) := z_dd_172 (by decide +kernel)
theorem dX9_sum_0 : decode cX9_sum 0 = .ok (.aload_n 0, 1) := z_dd_42 (by decide +kernel)
theorem dX9_sum_1 : decode cX9_sum 1 = .ok (.iload_n 1, 1) := z_dd_27 (by decide +kernel)
set_option maxRecDepth 20000 in
theorem ggX9_sum_X9_product : GoodIn wsX9_sum wsX9_product := goodIn_sub (fa_c (me_s (me_l (me_r (List.mem_of_getElem? (i := 7) rfl)))) (fa_a (fa_a (fa_c (me_s (me_l (me_l (List.mem_of_getElem? (i := 0) rfl)))) (fa_c (me_s (me_l (me_r (List.mem_of_getElem? (i := 8) rfl)))) (fa_c (me_s (me_l (me_r (List.mem_of_getElem? (i := 9) rfl)))) (fa_c (me_s (me_l (me_r (List.mem_of_getElem? (i := 10) rfl)))) (fa_c (me_s (me_l (me_l (List.mem_of_getElem? (i := 4) rfl)))) (fa_c (me_s (me_l (me_l (List.mem_of_getElem? (i := 5) rfl)))) (fa_c (me_s (me_l (me_l (List.mem_of_getElem? (i := 6) rfl)))) (fa_c (me_s (me_l (me_l (List.mem_of_getElem? (i := 7) rfl)))) (fa_c (me_s (me_l (me_l (List.mem_of_getElem? (i := 8) rfl)))) (fa_c (me_s (me_l (me_l (List.mem_of_getElem? (i := 9) rfl)))) (fa_c (me_s (me_l (me_l (List.mem_of_getElem? (i := 10) rfl)))) (fa_c (me_s (me_l (me_l (List.mem_of_getElem? (i := 11) rfl)))) (fa_c (me_s (me_l (me_l (List.mem_of_getElem? (i := 12) rfl)))) (fa_c (me_s (me_l (me_l (List.mem_of_getElem? (i := 13) rfl)))) (fa_c (me_s (me_l (me_l (List.mem_of_getElem? (i := 14) rfl)))) (fa_c (me_s (me_l (me_l (List.mem_of_getElem? (i := 15) rfl)))) (fa_c (me_s (me_l (me_l (List.mem_of_getElem? (i := 16) rfl)))) (fa_c (me_s (me_l (me_l (List.mem_of_getElem? (i := 17) rfl)))) (fa_c (me_s (me_l (me_l (List.mem_of_getElem? (i := 18) rfl)))) (fa_c (me_s (me_l (me_l (List.mem_of_getElem? (i := 19) rfl)))) (fa_c (me_s (me_l (me_l (List.mem_of_getElem? (i := 20) rfl)))) (fa_c (me_s (me_l (me_l (List.mem_of_getElem? (i := 21) rfl)))) (fa_c (me_s (me_l (me_l (List.mem_of_getElem? (i := 22) rfl)))) (fa_c (me_s (me_l (me_l (List.mem_of_getElem? (i := 23) rfl)))) fa_n)))))))))))))))))))))))) (fa_c (me_s (me_l (me_r (List.mem_of_getElem? (i := 0) rfl)))) (fa_c (me_s (me_l (me_r (List.mem_of_getElem? (i := 1) rfl)))) (fa_c (me_s (me_l (me_r (List.mem_of_getElem? (i := 2) rfl)))) (fa_c (me_s (me_l (me_r (List.mem_of_getElem? (i := 3) rfl)))) (fa_c (me_s (me_l (me_r (List.mem_of_getElem? (i := 4) rfl)))) (fa_c (me_s (me_l (me_r (List.mem_of_getElem? (i := 5) rfl)))) (fa_c (me_s (me_l (me_r (List.mem_of_getElem? (i := 6) rfl)))) (fa_c me_0 (fa_c (me_s (me_l (me_l (List.mem_of_getElem? (i := 1) rfl)))) (fa_c (me_s (me_l (me_l (List.mem_of_getElem? (i := 2) rfl)))) (fa_c (me_s (me_l (me_l (List.mem_of_getElem? (i := 3) rfl)))) fa_n)))))))))))) (fun w h => (me_s (me_r h))))) (by decide +kernel)
set_option maxRecDepth 20000 in
theorem gX9_sum_X9_product : GoodIn wsX9_sum (wsV RX9 106 RX9 yX9_product wsX9_product) := goodIn_app (goodIn_sub (fa_c (me_s (me_l (me_l (List.mem_of_getElem? (i := 1) rfl)))) (fa_c (me_s (me_l (me_l (List.mem_of_getElem? (i := 2) rfl)))) (fa_c (me_s (me_l (me_l (List.mem_of_getElem? (i := 3) rfl)))) (fa_c (me_s (me_l (me_l (List.mem_of_getElem? (i := 4) rfl)))) fa_n)))) (by decide +kernel)) ggX9_sum_X9_product
theorem dX9_sum_2 : decode cX9_sum 2 = .ok (.invokevirtual 106, 3) := z_dd_182 (by decide +kernel)
theorem dX9_sum_5 : decode cX9_sum 5 = .ok (.ifCond .ne 5, 3) := z_dd_154 (by decide +kernel)
theorem dX9_sum_10 : decode cX9_sum 10 = .ok (.iconst 0, 1) := z_dd_3 (by decide +kernel)
theorem dX9_sum_11 : decode cX9_sum 11 = .ok (.istore_n 2, 1) := z_dd_61 (by decide +kernel)
theorem dX9_sum_12 : decode cX9_sum 12 = .ok (.iload_n 2, 1) := z_dd_28 (by decide +kernel)
theorem dX9_sum_13 : decode cX9_sum 13 = .ok (.sipush 500, 3) := z_dd_17 (by decide +kernel)
theorem dX9_sum_16 : decode cX9_sum 16 = .ok (.if_icmp .ge 62, 3) := z_dd_162 (by decide +kernel)
theorem dX9_sum_78 : decode cX9_sum 78 = .ok (.iconst 1, 1) := z_dd_4 (by decide +kernel)
theorem dX9_sum_79 : decode cX9_sum 79 = .ok (.ireturn, 1) := z_dd_172 (by decide +kernel)
theorem dX9_sum_19 : decode cX9_sum 19 = .ok (.aload_n 0, 1) := z_dd_42 (by decide +kernel)
theorem dX9_sum_20 : decode cX9_sum 20 = .ok (.getfield 62, 3) := z_dd_180 (by decide +kernel)
theorem dX9_sum_23 : decode cX9_sum 23 = .ok (.bipush 43, 2) := z_dd_16 (by decide +kernel)
theorem dX9_sum_25 : decode cX9_sum 25 = .ok (.if_icmp .eq 12, 3) := z_dd_159 (by decide +kernel)
theorem dX9_sum_37 : decode cX9_sum 37 = .ok (.aload_n 0, 1) := z_dd_42 (by decide +kernel)
theorem dX9_sum_38 : decode cX9_sum 38 = .ok (.getfield 62, 3) := z_dd_180 (by decide +kernel)
theorem dX9_sum_41 : decode cX9_sum 41 = .ok (.istore_n 3, 1) := z_dd_62 (by decide +kernel)
theorem dX9_sum_42 : decode cX9_sum 42 = .ok (.aload_n 0, 1) := z_dd_42 (by decide +kernel)
set_option maxRecDepth 20000 in
theorem ggX9_sum_X9_step : GoodIn wsX9_sum wsX9_step := goodIn_sub (fa_c (me_s (me_l (me_l (List.mem_of_getElem? (i := 8) rfl)))) (fa_a (fa_c (me_s (me_l (me_l (List.mem_of_getElem? (i := 9) rfl)))) (fa_c (me_s (me_l (me_l (List.mem_of_getElem? (i := 10) rfl)))) (fa_c (me_s (me_l (me_l (List.mem_of_getElem? (i := 11) rfl)))) (fa_c (me_s (me_l (me_l (List.mem_of_getElem? (i := 0) rfl)))) fa_n)))) (fun w h => (me_s (me_r h))))) (by decide +kernel)
set_option maxRecDepth 20000 in
theorem gX9_sum_X9_step : GoodIn wsX9_sum (wsV RX9 59 RX9 yX9_step wsX9_step) := goodIn_app (goodIn_sub (fa_c (me_s (me_l (me_l (List.mem_of_getElem? (i := 5) rfl)))) (fa_c (me_s (me_l (me_l (List.mem_of_getElem? (i := 6) rfl)))) (fa_c (me_s (me_l (me_l (List.mem_of_getElem? (i := 7) rfl)))) (fa_c (me_s (me_l (me_l (List.mem_of_getElem? (i := 4) rfl)))) fa_n)))) (by decide +kernel)) ggX9_sum_X9_step
theorem dX9_sum_43 : decode cX9_sum 43 = .ok (.invokevirtual 59, 3) := z_dd_182 (by decide +kernel)
theorem dX9_sum_46 : decode cX9_sum 46 = .ok (.aload_n 0, 1) := z_dd_42 (by decide +kernel)
theorem dX9_sum_47 : decode cX9_sum 47 = .ok (.iload_n 1, 1) := z_dd_27 (by decide +kernel)
theorem dX9_sum_48 : decode cX9_sum 48 = .ok (.invokevirtual 106, 3) := z_dd_182 (by decide +kernel)
theorem dX9_sum_51 : decode cX9_sum 51 = .ok (.ifCond .ne 5, 3) := z_dd_154 (by decide +kernel)
theorem dX9_sum_56 : decode cX9_sum 56 = .ok (.aload_n 0, 1) := z_dd_42 (by decide +kernel)
theorem dX9_sum_57 : decode cX9_sum 57 = .ok (.iload_n 3, 1) := z_dd_29 (by decide +kernel)
theorem dX9_sum_58 : decode cX9_sum 58 = .ok (.bipush 43, 2) := z_dd_16 (by decide +kernel)
theorem dX9_sum_60 : decode cX9_sum 60 = .ok (.if_icmp .ne 7, 3) := z_dd_160 (by decide +kernel)
theorem dX9_sum_63 : decode cX9_sum 63 = .ok (.iconst (-1), 1) := z_dd_2 (by decide +kernel)
theorem dX9_sum_64 : decode cX9_sum 64 = .ok (.goto 5, 3) := z_dd_167 (by decide +kernel)
set_option maxRecDepth 20000 in
theorem ggX9_sum_X9_emit : GoodIn wsX9_sum wsX9_emit := goodIn_sub (fa_c (me_s (me_l (me_l (List.mem_of_getElem? (i := 15) rfl)))) (fa_a (fa_c (me_s (me_l (me_l (List.mem_of_getElem? (i := 16) rfl)))) (fa_c (me_s (me_l (me_l (List.mem_of_getElem? (i := 17) rfl)))) fa_n)) (fun w h => (me_s (me_r h))))) (by decide +kernel)
set_option maxRecDepth 20000 in
theorem gX9_sum_X9_emit : GoodIn wsX9_sum (wsV RX9 82 RX9 yX9_emit wsX9_emit) := goodIn_app (goodIn_sub (fa_c (me_s (me_l (me_l (List.mem_of_getElem? (i := 12) rfl)))) (fa_c (me_s (me_l (me_l (List.mem_of_getElem? (i := 13) rfl)))) (fa_c (me_s (me_l (me_l (List.mem_of_getElem? (i := 14) rfl)))) (fa_c (me_s (me_l (me_l (List.mem_of_getElem? (i := 4) rfl)))) fa_n)))) (by decide +kernel)) ggX9_sum_X9_emit
theorem dX9_sum_69 : decode cX9_sum 69 = .ok (.invokevirtual 82, 3) := z_dd_182 (by decide +kernel)
theorem dX9_sum_72 : decode cX9_sum 72 = .ok (.iinc 2 1, 3) := z_dd_132 (by decide +kernel)
theorem dX9_sum_75 : decode cX9_sum 75 = .ok (.goto (-63), 3) := z_dd_167 (by decide +kernel)
theorem dX9_sum_54 : decode cX9_sum 54 = .ok (.iconst 0, 1) := z_dd_3 (by decide +kernel)
theorem dX9_sum_55 : decode cX9_sum 55 = .ok (.ireturn, 1) := z_dd_172 (by decide +kernel)
theorem dX9_sum_28 : decode cX9_sum 28 = .ok (.aload_n 0, 1) := z_dd_42 (by decide +kernel)
theorem dX9_sum_29 : decode cX9_sum 29 = .ok (.getfield 62, 3) := z_dd_180 (by decide +kernel)
theorem dX9_sum_32 : decode cX9_sum 32 = .ok (.bipush 45, 2) := z_dd_16 (by decide +kernel)
theorem dX9_sum_34 : decode cX9_sum 34 = .ok (.if_icmp .ne 44, 3) := z_dd_160 (by decide +kernel)
theorem dX9_sum_67 : decode cX9_sum 67 = .ok (.bipush (-2), 2) := z_dd_16 (by decide +kernel)
theorem dX9_sum_8 : decode cX9_sum 8 = .ok (.iconst 0, 1) := z_dd_3 (by decide +kernel)
theorem dX9_sum_9 : decode cX9_sum 9 = .ok (.ireturn, 1) := z_dd_172 (by decide +kernel)
theorem dX9_opened_0 : decode cX9_opened 0 = .ok (.iload_n 1, 1) := z_dd_27 (by decide +kernel)
theorem dX9_opened_1 : decode cX9_opened 1 = .ok (.bipush 9, 2) := z_dd_16 (by decide +kernel)
theorem dX9_opened_3 : decode cX9_opened 3 = .ok (.if_icmp .lt 5, 3) := z_dd_161 (by decide +kernel)
theorem dX9_opened_6 : decode cX9_opened 6 = .ok (.iconst 0, 1) := z_dd_3 (by decide +kernel)
theorem dX9_opened_7 : decode cX9_opened 7 = .ok (.ireturn, 1) := z_dd_172 (by decide +kernel)
theorem dX9_one_0 : decode cX9_one 0 = .ok (.aload_n 0, 1) := z_dd_42 (by decide +kernel)
theorem dX9_one_1 : decode cX9_one 1 = .ok (.getfield 62, 3) := z_dd_180 (by decide +kernel)
theorem dX9_one_4 : decode cX9_one 4 = .ok (.sipush 311, 3) := z_dd_17 (by decide +kernel)
theorem dX9_one_7 : decode cX9_one 7 = .ok (.if_icmp .eq 12, 3) := z_dd_159 (by decide +kernel)
theorem dX9_one_19 : decode cX9_one 19 = .ok (.aload_n 0, 1) := z_dd_42 (by decide +kernel)
theorem dX9_one_20 : decode cX9_one 20 = .ok (.iload_n 1, 1) := z_dd_27 (by decide +kernel)
set_option maxRecDepth 20000 in
theorem ggX9_one_X9_opened : GoodIn wsX9_one wsX9_opened := goodIn_sub (fa_c (me_s (me_l (me_r (me_l (List.mem_of_getElem? (i := 23) rfl))))) (fa_a (fa_a (fa_c (me_s (me_l (me_l (List.mem_of_getElem? (i := 0) rfl)))) (fa_c (me_s (me_l (me_l (List.mem_of_getElem? (i := 12) rfl)))) (fa_c (me_s (me_l (me_l (List.mem_of_getElem? (i := 13) rfl)))) (fa_c (me_s (me_l (me_l (List.mem_of_getElem? (i := 14) rfl)))) (fa_c (me_s (me_l (me_l (List.mem_of_getElem? (i := 4) rfl)))) (fa_c (me_s (me_l (me_l (List.mem_of_getElem? (i := 15) rfl)))) (fa_c (me_s (me_l (me_l (List.mem_of_getElem? (i := 16) rfl)))) (fa_c (me_s (me_l (me_l (List.mem_of_getElem? (i := 17) rfl)))) (fa_c (me_s (me_l (me_l (List.mem_of_getElem? (i := 18) rfl)))) (fa_c (me_s (me_l (me_r (me_r (List.mem_of_getElem? (i := 0) rfl))))) (fa_c (me_s (me_l (me_r (me_r (List.mem_of_getElem? (i := 1) rfl))))) (fa_c (me_s (me_l (me_r (me_r (List.mem_of_getElem? (i := 2) rfl))))) (fa_c (me_s (me_l (me_r (me_l (List.mem_of_getElem? (i := 7) rfl))))) (fa_c (me_s (me_l (me_r (me_l (List.mem_of_getElem? (i := 8) rfl))))) (fa_c (me_s (me_l (me_r (me_l (List.mem_of_getElem? (i := 9) rfl))))) (fa_c (me_s (me_l (me_r (me_l (List.mem_of_getElem? (i := 10) rfl))))) (fa_c (me_s (me_l (me_r (me_l (List.mem_of_getElem? (i := 16) rfl))))) (fa_c (me_s (me_l (me_r (me_l (List.mem_of_getElem? (i := 17) rfl))))) (fa_c (me_s (me_l (me_r (me_l (List.mem_of_getElem? (i := 18) rfl))))) (fa_c (me_s (me_l (me_l (List.mem_of_getElem? (i := 19) rfl)))) (fa_c (me_s (me_l (me_l (List.mem_of_getElem? (i := 20) rfl)))) (fa_c (me_s (me_l (me_l (List.mem_of_getElem? (i := 21) rfl)))) (fa_c (me_s (me_l (me_l (List.mem_of_getElem? (i := 22) rfl)))) (fa_c (me_s (me_l (me_l (List.mem_of_getElem? (i := 23) rfl)))) fa_n)))))))))))))))))))))))) (fa_a (fa_c (me_s (me_l (me_r (me_l (List.mem_of_getElem? (i := 0) rfl))))) (fa_c (me_s (me_l (me_r (me_l (List.mem_of_getElem? (i := 15) rfl))))) (fa_c (me_s (me_l (me_r (me_l (List.mem_of_getElem? (i := 19) rfl))))) (fa_c (me_s (me_l (me_r (me_l (List.mem_of_getElem? (i := 20) rfl))))) (fa_c (me_s (me_l (me_r (me_l (List.mem_of_getElem? (i := 21) rfl))))) (fa_c (me_s (me_l (me_r (me_l (List.mem_of_getElem? (i := 22) rfl))))) (fa_c me_0 (fa_c (me_s (me_l (me_l (List.mem_of_getElem? (i := 1) rfl)))) (fa_c (me_s (me_l (me_l (List.mem_of_getElem? (i := 2) rfl)))) (fa_c (me_s (me_l (me_l (List.mem_of_getElem? (i := 3) rfl)))) (fa_c (me_s (me_l (me_l (List.mem_of_getElem? (i := 5) rfl)))) (fa_c (me_s (me_l (me_l (List.mem_of_getElem? (i := 6) rfl)))) (fa_c (me_s (me_l (me_l (List.mem_of_getElem? (i := 7) rfl)))) (fa_c (me_s (me_l (me_l (List.mem_of_getElem? (i := 8) rfl)))) (fa_c (me_s (me_l (me_l (List.mem_of_getElem? (i := 9) rfl)))) (fa_c (me_s (me_l (me_l (List.mem_of_getElem? (i := 10) rfl)))) (fa_c (me_s (me_l (me_l (List.mem_of_getElem? (i := 11) rfl)))) (fa_c (me_s (me_l (me_r (me_l (List.mem_of_getElem? (i := 1) rfl))))) (fa_c (me_s (me_l (me_r (me_l (List.mem_of_getElem? (i := 2) rfl))))) (fa_c (me_s (me_l (me_r (me_l (List.mem_of_getElem? (i := 3) rfl))))) (fa_c (me_s (me_l (me_r (me_l (List.mem_of_getElem? (i := 4) rfl))))) (fa_c (me_s (me_l (me_r (me_l (List.mem_of_getElem? (i := 5) rfl))))) (fa_c (me_s (me_l (me_r (me_l (List.mem_of_getElem? (i := 6) rfl))))) (fa_c (me_s (me_l (me_r (me_l (List.mem_of_getElem? (i := 11) rfl))))) fa_n)))))))))))))))))))))))) (fa_c (me_s (me_l (me_r (me_l (List.mem_of_getElem? (i := 12) rfl))))) (fa_c (me_s (me_l (me_r (me_l (List.mem_of_getElem? (i := 13) rfl))))) (fa_c (me_s (me_l (me_r (me_l (List.mem_of_getElem? (i := 14) rfl))))) fa_n))))) (fun w h => (me_s (me_r h))))) (by decide +kernel)
set_option maxRecDepth 20000 in
theorem gX9_one_X9_opened : GoodIn wsX9_one (wsV RX9 103 RX9 yX9_opened wsX9_opened) := goodIn_app (goodIn_sub (fa_c (me_s (me_l (me_l (List.mem_of_getElem? (i := 1) rfl)))) (fa_c (me_s (me_l (me_l (List.mem_of_getElem? (i := 2) rfl)))) (fa_c (me_s (me_l (me_l (List.mem_of_getElem? (i := 3) rfl)))) (fa_c (me_s (me_l (me_l (List.mem_of_getElem? (i := 4) rfl)))) fa_n)))) (by decide +kernel)) ggX9_one_X9_opened
theorem dX9_one_21 : decode cX9_one 21 = .ok (.invokevirtual 103, 3) := z_dd_182 (by decide +kernel)
theorem dX9_one_24 : decode cX9_one 24 = .ok (.ireturn, 1) := z_dd_172 (by decide +kernel)
theorem dX9_one_10 : decode cX9_one 10 = .ok (.aload_n 0, 1) := z_dd_42 (by decide +kernel)
theorem dX9_one_11 : decode cX9_one 11 = .ok (.getfield 62, 3) := z_dd_180 (by decide +kernel)
theorem dX9_one_14 : decode cX9_one 14 = .ok (.bipush 123, 2) := z_dd_16 (by decide +kernel)
theorem dX9_one_16 : decode cX9_one 16 = .ok (.if_icmp .ne 9, 3) := z_dd_160 (by decide +kernel)
theorem dX9_one_25 : decode cX9_one 25 = .ok (.aload_n 0, 1) := z_dd_42 (by decide +kernel)
theorem dX9_one_26 : decode cX9_one 26 = .ok (.iload_n 1, 1) := z_dd_27 (by decide +kernel)
set_option maxRecDepth 20000 in
theorem ggX9_one_X9_sum : GoodIn wsX9_one wsX9_sum := goodIn_sub (fa_c (me_s (me_l (me_l (List.mem_of_getElem? (i := 8) rfl)))) (fa_a (fa_a (fa_c (me_s (me_l (me_l (List.mem_of_getElem? (i := 0) rfl)))) (fa_c (me_s (me_l (me_l (List.mem_of_getElem? (i := 9) rfl)))) (fa_c (me_s (me_l (me_l (List.mem_of_getElem? (i := 10) rfl)))) (fa_c (me_s (me_l (me_l (List.mem_of_getElem? (i := 11) rfl)))) (fa_c (me_s (me_l (me_l (List.mem_of_getElem? (i := 4) rfl)))) (fa_c (me_s (me_l (me_l (List.mem_of_getElem? (i := 12) rfl)))) (fa_c (me_s (me_l (me_l (List.mem_of_getElem? (i := 13) rfl)))) (fa_c (me_s (me_l (me_l (List.mem_of_getElem? (i := 14) rfl)))) (fa_c (me_s (me_l (me_l (List.mem_of_getElem? (i := 15) rfl)))) (fa_c (me_s (me_l (me_l (List.mem_of_getElem? (i := 16) rfl)))) (fa_c (me_s (me_l (me_l (List.mem_of_getElem? (i := 17) rfl)))) (fa_c (me_s (me_l (me_l (List.mem_of_getElem? (i := 18) rfl)))) (fa_c (me_s (me_l (me_l (List.mem_of_getElem? (i := 19) rfl)))) (fa_c (me_s (me_l (me_l (List.mem_of_getElem? (i := 20) rfl)))) (fa_c (me_s (me_l (me_l (List.mem_of_getElem? (i := 21) rfl)))) (fa_c (me_s (me_l (me_l (List.mem_of_getElem? (i := 22) rfl)))) (fa_c (me_s (me_l (me_l (List.mem_of_getElem? (i := 23) rfl)))) (fa_c (me_s (me_l (me_r (me_l (List.mem_of_getElem? (i := 0) rfl))))) (fa_c (me_s (me_l (me_r (me_l (List.mem_of_getElem? (i := 1) rfl))))) (fa_c (me_s (me_l (me_r (me_l (List.mem_of_getElem? (i := 2) rfl))))) (fa_c (me_s (me_l (me_r (me_l (List.mem_of_getElem? (i := 3) rfl))))) (fa_c (me_s (me_l (me_r (me_l (List.mem_of_getElem? (i := 4) rfl))))) (fa_c (me_s (me_l (me_r (me_l (List.mem_of_getElem? (i := 5) rfl))))) (fa_c (me_s (me_l (me_r (me_l (List.mem_of_getElem? (i := 6) rfl))))) fa_n)))))))))))))))))))))))) (fa_c (me_s (me_l (me_l (List.mem_of_getElem? (i := 5) rfl)))) (fa_c (me_s (me_l (me_l (List.mem_of_getElem? (i := 6) rfl)))) (fa_c (me_s (me_l (me_l (List.mem_of_getElem? (i := 7) rfl)))) (fa_c (me_s (me_l (me_r (me_l (List.mem_of_getElem? (i := 7) rfl))))) (fa_c (me_s (me_l (me_r (me_l (List.mem_of_getElem? (i := 8) rfl))))) (fa_c (me_s (me_l (me_r (me_l (List.mem_of_getElem? (i := 9) rfl))))) (fa_c (me_s (me_l (me_r (me_l (List.mem_of_getElem? (i := 10) rfl))))) (fa_c (me_s (me_l (me_r (me_l (List.mem_of_getElem? (i := 11) rfl))))) (fa_c (me_s (me_l (me_r (me_l (List.mem_of_getElem? (i := 12) rfl))))) (fa_c (me_s (me_l (me_r (me_l (List.mem_of_getElem? (i := 13) rfl))))) (fa_c (me_s (me_l (me_r (me_l (List.mem_of_getElem? (i := 14) rfl))))) fa_n)))))))))))) (fun w h => (me_s (me_r h))))) (by decide +kernel)
set_option maxRecDepth 20000 in
theorem gX9_one_X9_sum : GoodIn wsX9_one (wsV RX9 79 RX9 yX9_sum wsX9_sum) := goodIn_app (goodIn_sub (fa_c (me_s (me_l (me_l (List.mem_of_getElem? (i := 5) rfl)))) (fa_c (me_s (me_l (me_l (List.mem_of_getElem? (i := 6) rfl)))) (fa_c (me_s (me_l (me_l (List.mem_of_getElem? (i := 7) rfl)))) (fa_c (me_s (me_l (me_l (List.mem_of_getElem? (i := 4) rfl)))) fa_n)))) (by decide +kernel)) ggX9_one_X9_sum
theorem dX9_one_27 : decode cX9_one 27 = .ok (.invokevirtual 79, 3) := z_dd_182 (by decide +kernel)
theorem dX9_one_30 : decode cX9_one 30 = .ok (.ifCond .ne 5, 3) := z_dd_154 (by decide +kernel)
theorem dX9_one_35 : decode cX9_one 35 = .ok (.aload_n 0, 1) := z_dd_42 (by decide +kernel)
theorem dX9_one_36 : decode cX9_one 36 = .ok (.getfield 62, 3) := z_dd_180 (by decide +kernel)
theorem dX9_one_39 : decode cX9_one 39 = .ok (.istore_n 2, 1) := z_dd_61 (by decide +kernel)
theorem dX9_one_40 : decode cX9_one 40 = .ok (.iload_n 2, 1) := z_dd_28 (by decide +kernel)
theorem dX9_one_41 : decode cX9_one 41 = .ok (.bipush 60, 2) := z_dd_16 (by decide +kernel)
theorem dX9_one_43 : decode cX9_one 43 = .ok (.if_icmp .eq 17, 3) := z_dd_159 (by decide +kernel)
theorem dX9_one_60 : decode cX9_one 60 = .ok (.aload_n 0, 1) := z_dd_42 (by decide +kernel)
set_option maxRecDepth 20000 in
theorem ggX9_one_X9_step : GoodIn wsX9_one wsX9_step := goodIn_sub (fa_c (me_s (me_l (me_l (List.mem_of_getElem? (i := 15) rfl)))) (fa_a (fa_c (me_s (me_l (me_l (List.mem_of_getElem? (i := 16) rfl)))) (fa_c (me_s (me_l (me_l (List.mem_of_getElem? (i := 17) rfl)))) (fa_c (me_s (me_l (me_l (List.mem_of_getElem? (i := 18) rfl)))) (fa_c (me_s (me_l (me_l (List.mem_of_getElem? (i := 0) rfl)))) fa_n)))) (fun w h => (me_s (me_r h))))) (by decide +kernel)
set_option maxRecDepth 20000 in
theorem gX9_one_X9_step : GoodIn wsX9_one (wsV RX9 59 RX9 yX9_step wsX9_step) := goodIn_app (goodIn_sub (fa_c (me_s (me_l (me_l (List.mem_of_getElem? (i := 12) rfl)))) (fa_c (me_s (me_l (me_l (List.mem_of_getElem? (i := 13) rfl)))) (fa_c (me_s (me_l (me_l (List.mem_of_getElem? (i := 14) rfl)))) (fa_c (me_s (me_l (me_l (List.mem_of_getElem? (i := 4) rfl)))) fa_n)))) (by decide +kernel)) ggX9_one_X9_step
theorem dX9_one_61 : decode cX9_one 61 = .ok (.invokevirtual 59, 3) := z_dd_182 (by decide +kernel)
theorem dX9_one_64 : decode cX9_one 64 = .ok (.aload_n 0, 1) := z_dd_42 (by decide +kernel)
theorem dX9_one_65 : decode cX9_one 65 = .ok (.iload_n 1, 1) := z_dd_27 (by decide +kernel)
theorem dX9_one_66 : decode cX9_one 66 = .ok (.invokevirtual 79, 3) := z_dd_182 (by decide +kernel)
theorem dX9_one_69 : decode cX9_one 69 = .ok (.ifCond .ne 5, 3) := z_dd_154 (by decide +kernel)
theorem dX9_one_74 : decode cX9_one 74 = .ok (.aload_n 0, 1) := z_dd_42 (by decide +kernel)
theorem dX9_one_75 : decode cX9_one 75 = .ok (.iload_n 2, 1) := z_dd_28 (by decide +kernel)
theorem dX9_one_76 : decode cX9_one 76 = .ok (.bipush 60, 2) := z_dd_16 (by decide +kernel)
theorem dX9_one_78 : decode cX9_one 78 = .ok (.if_icmp .ne 8, 3) := z_dd_160 (by decide +kernel)
theorem dX9_one_81 : decode cX9_one 81 = .ok (.bipush (-7), 2) := z_dd_16 (by decide +kernel)
theorem dX9_one_83 : decode cX9_one 83 = .ok (.goto 16, 3) := z_dd_167 (by decide +kernel)
set_option maxRecDepth 20000 in
theorem ggX9_one_X9_emit : GoodIn wsX9_one wsX9_emit := goodIn_sub (fa_c (me_s (me_l (me_l (List.mem_of_getElem? (i := 22) rfl)))) (fa_a (fa_c (me_s (me_l (me_l (List.mem_of_getElem? (i := 23) rfl)))) (fa_c (me_s (me_l (me_r (me_l (List.mem_of_getElem? (i := 0) rfl))))) fa_n)) (fun w h => (me_s (me_r h))))) (by decide +kernel)
set_option maxRecDepth 20000 in
theorem gX9_one_X9_emit : GoodIn wsX9_one (wsV RX9 82 RX9 yX9_emit wsX9_emit) := goodIn_app (goodIn_sub (fa_c (me_s (me_l (me_l (List.mem_of_getElem? (i := 19) rfl)))) (fa_c (me_s (me_l (me_l (List.mem_of_getElem? (i := 20) rfl)))) (fa_c (me_s (me_l (me_l (List.mem_of_getElem? (i := 21) rfl)))) (fa_c (me_s (me_l (me_l (List.mem_of_getElem? (i := 4) rfl)))) fa_n)))) (by decide +kernel)) ggX9_one_X9_emit
theorem dX9_one_99 : decode cX9_one 99 = .ok (.invokevirtual 82, 3) := z_dd_182 (by decide +kernel)
theorem dX9_one_102 : decode cX9_one 102 = .ok (.iconst 1, 1) := z_dd_4 (by decide +kernel)
theorem dX9_one_103 : decode cX9_one 103 = .ok (.ireturn, 1) := z_dd_172 (by decide +kernel)
theorem dX9_one_72 : decode cX9_one 72 = .ok (.iconst 0, 1) := z_dd_3 (by decide +kernel)
theorem dX9_one_73 : decode cX9_one 73 = .ok (.ireturn, 1) := z_dd_172 (by decide +kernel)
theorem dX9_one_46 : decode cX9_one 46 = .ok (.iload_n 2, 1) := z_dd_28 (by decide +kernel)
theorem dX9_one_47 : decode cX9_one 47 = .ok (.bipush 62, 2) := z_dd_16 (by decide +kernel)
theorem dX9_one_49 : decode cX9_one 49 = .ok (.if_icmp .eq 11, 3) := z_dd_159 (by decide +kernel)
theorem dX9_one_86 : decode cX9_one 86 = .ok (.iload_n 2, 1) := z_dd_28 (by decide +kernel)
theorem dX9_one_87 : decode cX9_one 87 = .ok (.bipush 62, 2) := z_dd_16 (by decide +kernel)
theorem dX9_one_89 : decode cX9_one 89 = .ok (.if_icmp .ne 8, 3) := z_dd_160 (by decide +kernel)
theorem dX9_one_92 : decode cX9_one 92 = .ok (.bipush (-8), 2) := z_dd_16 (by decide +kernel)
theorem dX9_one_94 : decode cX9_one 94 = .ok (.goto 5, 3) := z_dd_167 (by decide +kernel)
theorem dX9_one_52 : decode cX9_one 52 = .ok (.iload_n 2, 1) := z_dd_28 (by decide +kernel)
theorem dX9_one_53 : decode cX9_one 53 = .ok (.bipush 61, 2) := z_dd_16 (by decide +kernel)
theorem dX9_one_55 : decode cX9_one 55 = .ok (.if_icmp .eq 5, 3) := z_dd_159 (by decide +kernel)
theorem dX9_one_97 : decode cX9_one 97 = .ok (.bipush (-9), 2) := z_dd_16 (by decide +kernel)
theorem dX9_one_58 : decode cX9_one 58 = .ok (.iconst 0, 1) := z_dd_3 (by decide +kernel)
theorem dX9_one_59 : decode cX9_one 59 = .ok (.ireturn, 1) := z_dd_172 (by decide +kernel)
theorem dX9_one_33 : decode cX9_one 33 = .ok (.iconst 0, 1) := z_dd_3 (by decide +kernel)
theorem dX9_one_34 : decode cX9_one 34 = .ok (.ireturn, 1) := z_dd_172 (by decide +kernel)
theorem dX9_all_0 : decode cX9_all 0 = .ok (.aload_n 0, 1) := z_dd_42 (by decide +kernel)
theorem dX9_all_1 : decode cX9_all 1 = .ok (.iload_n 1, 1) := z_dd_27 (by decide +kernel)
set_option maxRecDepth 20000 in
theorem ggX9_all_X9_one : GoodIn wsX9_all wsX9_one := goodIn_sub (fa_c (me_s (me_l (me_l (List.mem_of_getElem? (i := 22) rfl)))) (fa_a (fa_a (fa_c (me_s (me_l (me_l (List.mem_of_getElem? (i := 0) rfl)))) (fa_c (me_s (me_l (me_l (List.mem_of_getElem? (i := 23) rfl)))) (fa_c (me_s (me_l (me_r (me_l (List.mem_of_getElem? (i := 0) rfl))))) (fa_c (me_s (me_l (me_r (me_l (List.mem_of_getElem? (i := 1) rfl))))) (fa_c (me_s (me_l (me_l (List.mem_of_getElem? (i := 4) rfl)))) (fa_c (me_s (me_l (me_r (me_l (List.mem_of_getElem? (i := 2) rfl))))) (fa_c (me_s (me_l (me_r (me_l (List.mem_of_getElem? (i := 3) rfl))))) (fa_c (me_s (me_l (me_r (me_l (List.mem_of_getElem? (i := 4) rfl))))) (fa_c (me_s (me_l (me_r (me_l (List.mem_of_getElem? (i := 5) rfl))))) (fa_c (me_s (me_l (me_r (me_l (List.mem_of_getElem? (i := 6) rfl))))) (fa_c (me_s (me_l (me_r (me_l (List.mem_of_getElem? (i := 7) rfl))))) (fa_c (me_s (me_l (me_r (me_l (List.mem_of_getElem? (i := 8) rfl))))) (fa_c (me_s (me_l (me_l (List.mem_of_getElem? (i := 5) rfl)))) (fa_c (me_s (me_l (me_l (List.mem_of_getElem? (i := 6) rfl)))) (fa_c (me_s (me_l (me_l (List.mem_of_getElem? (i := 7) rfl)))) (fa_c (me_s (me_l (me_l (List.mem_of_getElem? (i := 8) rfl)))) (fa_c (me_s (me_l (me_l (List.mem_of_getElem? (i := 9) rfl)))) (fa_c (me_s (me_l (me_l (List.mem_of_getElem? (i := 10) rfl)))) (fa_c (me_s (me_l (me_l (List.mem_of_getElem? (i := 11) rfl)))) (fa_c (me_s (me_l (me_l (List.mem_of_getElem? (i := 12) rfl)))) (fa_c (me_s (me_l (me_l (List.mem_of_getElem? (i := 13) rfl)))) (fa_c (me_s (me_l (me_l (List.mem_of_getElem? (i := 14) rfl)))) (fa_c (me_s (me_l (me_l (List.mem_of_getElem? (i := 15) rfl)))) (fa_c (me_s (me_l (me_l (List.mem_of_getElem? (i := 16) rfl)))) fa_n)))))))))))))))))))))))) (fa_a (fa_c (me_s (me_l (me_l (List.mem_of_getElem? (i := 17) rfl)))) (fa_c (me_s (me_l (me_r (me_l (List.mem_of_getElem? (i := 9) rfl))))) (fa_c (me_s (me_l (me_r (me_l (List.mem_of_getElem? (i := 10) rfl))))) (fa_c (me_s (me_l (me_r (me_l (List.mem_of_getElem? (i := 11) rfl))))) (fa_c (me_s (me_l (me_r (me_l (List.mem_of_getElem? (i := 12) rfl))))) (fa_c (me_s (me_l (me_r (me_l (List.mem_of_getElem? (i := 13) rfl))))) (fa_c (me_s (me_l (me_r (me_l (List.mem_of_getElem? (i := 14) rfl))))) (fa_c (me_s (me_l (me_r (me_l (List.mem_of_getElem? (i := 15) rfl))))) (fa_c (me_s (me_l (me_r (me_l (List.mem_of_getElem? (i := 16) rfl))))) (fa_c (me_s (me_l (me_r (me_l (List.mem_of_getElem? (i := 17) rfl))))) (fa_c (me_s (me_l (me_r (me_l (List.mem_of_getElem? (i := 18) rfl))))) (fa_c (me_s (me_l (me_r (me_l (List.mem_of_getElem? (i := 19) rfl))))) (fa_c (me_s (me_l (me_r (me_l (List.mem_of_getElem? (i := 20) rfl))))) (fa_c (me_s (me_l (me_r (me_l (List.mem_of_getElem? (i := 21) rfl))))) (fa_c (me_s (me_l (me_r (me_l (List.mem_of_getElem? (i := 22) rfl))))) (fa_c me_0 (fa_c (me_s (me_l (me_l (List.mem_of_getElem? (i := 1) rfl)))) (fa_c (me_s (me_l (me_l (List.mem_of_getElem? (i := 2) rfl)))) (fa_c (me_s (me_l (me_l (List.mem_of_getElem? (i := 3) rfl)))) (fa_c (me_s (me_l (me_l (List.mem_of_getElem? (i := 18) rfl)))) (fa_c (me_s (me_l (me_l (List.mem_of_getElem? (i := 19) rfl)))) (fa_c (me_s (me_l (me_l (List.mem_of_getElem? (i := 20) rfl)))) (fa_c (me_s (me_l (me_l (List.mem_of_getElem? (i := 21) rfl)))) (fa_c (me_s (me_l (me_r (me_l (List.mem_of_getElem? (i := 23) rfl))))) fa_n)))))))))))))))))))))))) (fa_c (me_s (me_l (me_r (me_r (List.mem_of_getElem? (i := 0) rfl))))) (fa_c (me_s (me_l (me_r (me_r (List.mem_of_getElem? (i := 1) rfl))))) (fa_c (me_s (me_l (me_r (me_r (List.mem_of_getElem? (i := 2) rfl))))) fa_n))))) (fun w h => (me_s (me_r h))))) (by decide +kernel)
set_option maxRecDepth 20000 in
theorem gX9_all_X9_one : GoodIn wsX9_all (wsV RX9 100 RX9 yX9_one wsX9_one) := goodIn_app (goodIn_sub (fa_c (me_s (me_l (me_l (List.mem_of_getElem? (i := 1) rfl)))) (fa_c (me_s (me_l (me_l (List.mem_of_getElem? (i := 2) rfl)))) (fa_c (me_s (me_l (me_l (List.mem_of_getElem? (i := 3) rfl)))) (fa_c (me_s (me_l (me_l (List.mem_of_getElem? (i := 4) rfl)))) fa_n)))) (by decide +kernel)) ggX9_all_X9_one
theorem dX9_all_2 : decode cX9_all 2 = .ok (.invokevirtual 100, 3) := z_dd_182 (by decide +kernel)
theorem dX9_all_5 : decode cX9_all 5 = .ok (.ifCond .ne 5, 3) := z_dd_154 (by decide +kernel)
theorem dX9_all_10 : decode cX9_all 10 = .ok (.iconst 0, 1) := z_dd_3 (by decide +kernel)
theorem dX9_all_11 : decode cX9_all 11 = .ok (.istore_n 2, 1) := z_dd_61 (by decide +kernel)
theorem dX9_all_12 : decode cX9_all 12 = .ok (.iload_n 2, 1) := z_dd_28 (by decide +kernel)
theorem dX9_all_13 : decode cX9_all 13 = .ok (.sipush 500, 3) := z_dd_17 (by decide +kernel)
theorem dX9_all_16 : decode cX9_all 16 = .ok (.if_icmp .ge 39, 3) := z_dd_162 (by decide +kernel)
theorem dX9_all_55 : decode cX9_all 55 = .ok (.iconst 1, 1) := z_dd_4 (by decide +kernel)
theorem dX9_all_56 : decode cX9_all 56 = .ok (.ireturn, 1) := z_dd_172 (by decide +kernel)
theorem dX9_all_19 : decode cX9_all 19 = .ok (.aload_n 0, 1) := z_dd_42 (by decide +kernel)
theorem dX9_all_20 : decode cX9_all 20 = .ok (.getfield 62, 3) := z_dd_180 (by decide +kernel)
theorem dX9_all_23 : decode cX9_all 23 = .ok (.sipush 310, 3) := z_dd_17 (by decide +kernel)
theorem dX9_all_26 : decode cX9_all 26 = .ok (.if_icmp .ne 29, 3) := z_dd_160 (by decide +kernel)
theorem dX9_all_29 : decode cX9_all 29 = .ok (.aload_n 0, 1) := z_dd_42 (by decide +kernel)
set_option maxRecDepth 20000 in
theorem ggX9_all_X9_step : GoodIn wsX9_all wsX9_step := goodIn_sub (fa_c (me_s (me_l (me_l (List.mem_of_getElem? (i := 8) rfl)))) (fa_a (fa_c (me_s (me_l (me_l (List.mem_of_getElem? (i := 9) rfl)))) (fa_c (me_s (me_l (me_l (List.mem_of_getElem? (i := 10) rfl)))) (fa_c (me_s (me_l (me_l (List.mem_of_getElem? (i := 11) rfl)))) (fa_c (me_s (me_l (me_l (List.mem_of_getElem? (i := 0) rfl)))) fa_n)))) (fun w h => (me_s (me_r h))))) (by decide +kernel)
set_option maxRecDepth 20000 in
theorem gX9_all_X9_step : GoodIn wsX9_all (wsV RX9 59 RX9 yX9_step wsX9_step) := goodIn_app (goodIn_sub (fa_c (me_s (me_l (me_l (List.mem_of_getElem? (i := 5) rfl)))) (fa_c (me_s (me_l (me_l (List.mem_of_getElem? (i := 6) rfl)))) (fa_c (me_s (me_l (me_l (List.mem_of_getElem? (i := 7) rfl)))) (fa_c (me_s (me_l (me_l (List.mem_of_getElem? (i := 4) rfl)))) fa_n)))) (by decide +kernel)) ggX9_all_X9_step
theorem dX9_all_30 : decode cX9_all 30 = .ok (.invokevirtual 59, 3) := z_dd_182 (by decide +kernel)
theorem dX9_all_33 : decode cX9_all 33 = .ok (.aload_n 0, 1) := z_dd_42 (by decide +kernel)
theorem dX9_all_34 : decode cX9_all 34 = .ok (.iload_n 1, 1) := z_dd_27 (by decide +kernel)
theorem dX9_all_35 : decode cX9_all 35 = .ok (.invokevirtual 100, 3) := z_dd_182 (by decide +kernel)
theorem dX9_all_38 : decode cX9_all 38 = .ok (.ifCond .ne 5, 3) := z_dd_154 (by decide +kernel)
theorem dX9_all_43 : decode cX9_all 43 = .ok (.aload_n 0, 1) := z_dd_42 (by decide +kernel)
theorem dX9_all_44 : decode cX9_all 44 = .ok (.bipush (-10), 2) := z_dd_16 (by decide +kernel)
set_option maxRecDepth 20000 in
theorem ggX9_all_X9_emit : GoodIn wsX9_all wsX9_emit := goodIn_sub (fa_c (me_s (me_l (me_l (List.mem_of_getElem? (i := 15) rfl)))) (fa_a (fa_c (me_s (me_l (me_l (List.mem_of_getElem? (i := 16) rfl)))) (fa_c (me_s (me_l (me_l (List.mem_of_getElem? (i := 17) rfl)))) fa_n)) (fun w h => (me_s (me_r h))))) (by decide +kernel)
set_option maxRecDepth 20000 in
theorem gX9_all_X9_emit : GoodIn wsX9_all (wsV RX9 82 RX9 yX9_emit wsX9_emit) := goodIn_app (goodIn_sub (fa_c (me_s (me_l (me_l (List.mem_of_getElem? (i := 12) rfl)))) (fa_c (me_s (me_l (me_l (List.mem_of_getElem? (i := 13) rfl)))) (fa_c (me_s (me_l (me_l (List.mem_of_getElem? (i := 14) rfl)))) (fa_c (me_s (me_l (me_l (List.mem_of_getElem? (i := 4) rfl)))) fa_n)))) (by decide +kernel)) ggX9_all_X9_emit
theorem dX9_all_46 : decode cX9_all 46 = .ok (.invokevirtual 82, 3) := z_dd_182 (by decide +kernel)
theorem dX9_all_49 : decode cX9_all 49 = .ok (.iinc 2 1, 3) := z_dd_132 (by decide +kernel)
theorem dX9_all_52 : decode cX9_all 52 = .ok (.goto (-40), 3) := z_dd_167 (by decide +kernel)
theorem dX9_all_41 : decode cX9_all 41 = .ok (.iconst 0, 1) := z_dd_3 (by decide +kernel)
theorem dX9_all_42 : decode cX9_all 42 = .ok (.ireturn, 1) := z_dd_172 (by decide +kernel)
theorem dX9_all_8 : decode cX9_all 8 = .ok (.iconst 0, 1) := z_dd_3 (by decide +kernel)
theorem dX9_all_9 : decode cX9_all 9 = .ok (.ireturn, 1) := z_dd_172 (by decide +kernel)
theorem dX9_either_0 : decode cX9_either 0 = .ok (.aload_n 0, 1) := z_dd_42 (by decide +kernel)
theorem dX9_either_1 : decode cX9_either 1 = .ok (.iload_n 1, 1) := z_dd_27 (by decide +kernel)
set_option maxRecDepth 20000 in
theorem ggX9_either_X9_all : GoodIn wsX9_either wsX9_all := goodIn_sub (fa_c (me_s (me_l (me_l (List.mem_of_getElem? (i := 18) rfl)))) (fa_a (fa_a (fa_c (me_s (me_l (me_l (List.mem_of_getElem? (i := 0) rfl)))) (fa_c (me_s (me_l (me_l (List.mem_of_getElem? (i := 19) rfl)))) (fa_c (me_s (me_l (me_l (List.mem_of_getElem? (i := 20) rfl)))) (fa_c (me_s (me_l (me_l (List.mem_of_getElem? (i := 21) rfl)))) (fa_c (me_s (me_l (me_l (List.mem_of_getElem? (i := 4) rfl)))) (fa_c (me_s (me_l (me_l (List.mem_of_getElem? (i := 5) rfl)))) (fa_c (me_s (me_l (me_l (List.mem_of_getElem? (i := 6) rfl)))) (fa_c (me_s (me_l (me_l (List.mem_of_getElem? (i := 7) rfl)))) (fa_c (me_s (me_l (me_l (List.mem_of_getElem? (i := 8) rfl)))) (fa_c (me_s (me_l (me_l (List.mem_of_getElem? (i := 9) rfl)))) (fa_c (me_s (me_l (me_l (List.mem_of_getElem? (i := 10) rfl)))) (fa_c (me_s (me_l (me_l (List.mem_of_getElem? (i := 11) rfl)))) (fa_c (me_s (me_l (me_l (List.mem_of_getElem? (i := 12) rfl)))) (fa_c (me_s (me_l (me_l (List.mem_of_getElem? (i := 13) rfl)))) (fa_c (me_s (me_l (me_l (List.mem_of_getElem? (i := 14) rfl)))) (fa_c (me_s (me_l (me_l (List.mem_of_getElem? (i := 15) rfl)))) (fa_c (me_s (me_l (me_l (List.mem_of_getElem? (i := 16) rfl)))) (fa_c (me_s (me_l (me_l (List.mem_of_getElem? (i := 17) rfl)))) (fa_c me_0 (fa_c (me_s (me_l (me_l (List.mem_of_getElem? (i := 1) rfl)))) (fa_c (me_s (me_l (me_l (List.mem_of_getElem? (i := 2) rfl)))) (fa_c (me_s (me_l (me_l (List.mem_of_getElem? (i := 3) rfl)))) (fa_c (me_s (me_l (me_l (List.mem_of_getElem? (i := 22) rfl)))) (fa_c (me_s (me_l (me_l (List.mem_of_getElem? (i := 23) rfl)))) fa_n)))))))))))))))))))))))) (fa_a (fa_c (me_s (me_l (me_r (me_l (List.mem_of_getElem? (i := 0) rfl))))) (fa_c (me_s (me_l (me_r (me_l (List.mem_of_getElem? (i := 1) rfl))))) (fa_c (me_s (me_l (me_r (me_l (List.mem_of_getElem? (i := 2) rfl))))) (fa_c (me_s (me_l (me_r (me_l (List.mem_of_getElem? (i := 3) rfl))))) (fa_c (me_s (me_l (me_r (me_l (List.mem_of_getElem? (i := 4) rfl))))) (fa_c (me_s (me_l (me_r (me_l (List.mem_of_getElem? (i := 5) rfl))))) (fa_c (me_s (me_l (me_r (me_l (List.mem_of_getElem? (i := 6) rfl))))) (fa_c (me_s (me_l (me_r (me_l (List.mem_of_getElem? (i := 7) rfl))))) (fa_c (me_s (me_l (me_r (me_l (List.mem_of_getElem? (i := 8) rfl))))) (fa_c (me_s (me_l (me_r (me_l (List.mem_of_getElem? (i := 9) rfl))))) (fa_c (me_s (me_l (me_r (me_l (List.mem_of_getElem? (i := 10) rfl))))) (fa_c (me_s (me_l (me_r (me_l (List.mem_of_getElem? (i := 11) rfl))))) (fa_c (me_s (me_l (me_r (me_l (List.mem_of_getElem? (i := 12) rfl))))) (fa_c (me_s (me_l (me_r (me_l (List.mem_of_getElem? (i := 13) rfl))))) (fa_c (me_s (me_l (me_r (me_l (List.mem_of_getElem? (i := 14) rfl))))) (fa_c (me_s (me_l (me_r (me_l (List.mem_of_getElem? (i := 15) rfl))))) (fa_c (me_s (me_l (me_r (me_l (List.mem_of_getElem? (i := 16) rfl))))) (fa_c (me_s (me_l (me_r (me_l (List.mem_of_getElem? (i := 17) rfl))))) (fa_c (me_s (me_l (me_r (me_l (List.mem_of_getElem? (i := 18) rfl))))) (fa_c (me_s (me_l (me_r (me_l (List.mem_of_getElem? (i := 19) rfl))))) (fa_c (me_s (me_l (me_r (me_l (List.mem_of_getElem? (i := 20) rfl))))) (fa_c (me_s (me_l (me_r (me_l (List.mem_of_getElem? (i := 21) rfl))))) (fa_c (me_s (me_l (me_r (me_l (List.mem_of_getElem? (i := 22) rfl))))) (fa_c (me_s (me_l (me_r (me_l (List.mem_of_getElem? (i := 23) rfl))))) fa_n)))))))))))))))))))))))) (fa_c (me_s (me_l (me_r (me_r (List.mem_of_getElem? (i := 0) rfl))))) (fa_c (me_s (me_l (me_r (me_r (List.mem_of_getElem? (i := 1) rfl))))) (fa_c (me_s (me_l (me_r (me_r (List.mem_of_getElem? (i := 2) rfl))))) fa_n))))) (fun w h => (me_s (me_r h))))) (by decide +kernel)
set_option maxRecDepth 20000 in
theorem gX9_either_X9_all : GoodIn wsX9_either (wsV RX9 97 RX9 yX9_all wsX9_all) := goodIn_app (goodIn_sub (fa_c (me_s (me_l (me_l (List.mem_of_getElem? (i := 1) rfl)))) (fa_c (me_s (me_l (me_l (List.mem_of_getElem? (i := 2) rfl)))) (fa_c (me_s (me_l (me_l (List.mem_of_getElem? (i := 3) rfl)))) (fa_c (me_s (me_l (me_l (List.mem_of_getElem? (i := 4) rfl)))) fa_n)))) (by decide +kernel)) ggX9_either_X9_all
theorem dX9_either_2 : decode cX9_either 2 = .ok (.invokevirtual 97, 3) := z_dd_182 (by decide +kernel)
theorem dX9_either_5 : decode cX9_either 5 = .ok (.ifCond .ne 5, 3) := z_dd_154 (by decide +kernel)
theorem dX9_either_10 : decode cX9_either 10 = .ok (.iconst 0, 1) := z_dd_3 (by decide +kernel)
theorem dX9_either_11 : decode cX9_either 11 = .ok (.istore_n 2, 1) := z_dd_61 (by decide +kernel)
theorem dX9_either_12 : decode cX9_either 12 = .ok (.iload_n 2, 1) := z_dd_28 (by decide +kernel)
theorem dX9_either_13 : decode cX9_either 13 = .ok (.sipush 500, 3) := z_dd_17 (by decide +kernel)
theorem dX9_either_16 : decode cX9_either 16 = .ok (.if_icmp .ge 39, 3) := z_dd_162 (by decide +kernel)
theorem dX9_either_55 : decode cX9_either 55 = .ok (.iconst 1, 1) := z_dd_4 (by decide +kernel)
theorem dX9_either_56 : decode cX9_either 56 = .ok (.ireturn, 1) := z_dd_172 (by decide +kernel)
theorem dX9_either_19 : decode cX9_either 19 = .ok (.aload_n 0, 1) := z_dd_42 (by decide +kernel)
theorem dX9_either_20 : decode cX9_either 20 = .ok (.getfield 62, 3) := z_dd_180 (by decide +kernel)
theorem dX9_either_23 : decode cX9_either 23 = .ok (.sipush 309, 3) := z_dd_17 (by decide +kernel)
theorem dX9_either_26 : decode cX9_either 26 = .ok (.if_icmp .ne 29, 3) := z_dd_160 (by decide +kernel)
theorem dX9_either_29 : decode cX9_either 29 = .ok (.aload_n 0, 1) := z_dd_42 (by decide +kernel)
set_option maxRecDepth 20000 in
theorem ggX9_either_X9_step : GoodIn wsX9_either wsX9_step := goodIn_sub (fa_c (me_s (me_l (me_l (List.mem_of_getElem? (i := 8) rfl)))) (fa_a (fa_c (me_s (me_l (me_l (List.mem_of_getElem? (i := 9) rfl)))) (fa_c (me_s (me_l (me_l (List.mem_of_getElem? (i := 10) rfl)))) (fa_c (me_s (me_l (me_l (List.mem_of_getElem? (i := 11) rfl)))) (fa_c (me_s (me_l (me_l (List.mem_of_getElem? (i := 0) rfl)))) fa_n)))) (fun w h => (me_s (me_r h))))) (by decide +kernel)
set_option maxRecDepth 20000 in
theorem gX9_either_X9_step : GoodIn wsX9_either (wsV RX9 59 RX9 yX9_step wsX9_step) := goodIn_app (goodIn_sub (fa_c (me_s (me_l (me_l (List.mem_of_getElem? (i := 5) rfl)))) (fa_c (me_s (me_l (me_l (List.mem_of_getElem? (i := 6) rfl)))) (fa_c (me_s (me_l (me_l (List.mem_of_getElem? (i := 7) rfl)))) (fa_c (me_s (me_l (me_l (List.mem_of_getElem? (i := 4) rfl)))) fa_n)))) (by decide +kernel)) ggX9_either_X9_step
theorem dX9_either_30 : decode cX9_either 30 = .ok (.invokevirtual 59, 3) := z_dd_182 (by decide +kernel)
theorem dX9_either_33 : decode cX9_either 33 = .ok (.aload_n 0, 1) := z_dd_42 (by decide +kernel)
theorem dX9_either_34 : decode cX9_either 34 = .ok (.iload_n 1, 1) := z_dd_27 (by decide +kernel)
theorem dX9_either_35 : decode cX9_either 35 = .ok (.invokevirtual 97, 3) := z_dd_182 (by decide +kernel)
theorem dX9_either_38 : decode cX9_either 38 = .ok (.ifCond .ne 5, 3) := z_dd_154 (by decide +kernel)
theorem dX9_either_43 : decode cX9_either 43 = .ok (.aload_n 0, 1) := z_dd_42 (by decide +kernel)
theorem dX9_either_44 : decode cX9_either 44 = .ok (.bipush (-11), 2) := z_dd_16 (by decide +kernel)
set_option maxRecDepth 20000 in
theorem ggX9_either_X9_emit : GoodIn wsX9_either wsX9_emit := goodIn_sub (fa_c (me_s (me_l (me_l (List.mem_of_getElem? (i := 15) rfl)))) (fa_a (fa_c (me_s (me_l (me_l (List.mem_of_getElem? (i := 16) rfl)))) (fa_c (me_s (me_l (me_l (List.mem_of_getElem? (i := 17) rfl)))) fa_n)) (fun w h => (me_s (me_r h))))) (by decide +kernel)
set_option maxRecDepth 20000 in
theorem gX9_either_X9_emit : GoodIn wsX9_either (wsV RX9 82 RX9 yX9_emit wsX9_emit) := goodIn_app (goodIn_sub (fa_c (me_s (me_l (me_l (List.mem_of_getElem? (i := 12) rfl)))) (fa_c (me_s (me_l (me_l (List.mem_of_getElem? (i := 13) rfl)))) (fa_c (me_s (me_l (me_l (List.mem_of_getElem? (i := 14) rfl)))) (fa_c (me_s (me_l (me_l (List.mem_of_getElem? (i := 4) rfl)))) fa_n)))) (by decide +kernel)) ggX9_either_X9_emit
theorem dX9_either_46 : decode cX9_either 46 = .ok (.invokevirtual 82, 3) := z_dd_182 (by decide +kernel)
theorem dX9_either_49 : decode cX9_either 49 = .ok (.iinc 2 1, 3) := z_dd_132 (by decide +kernel)
theorem dX9_either_52 : decode cX9_either 52 = .ok (.goto (-40), 3) := z_dd_167 (by decide +kernel)
theorem dX9_either_41 : decode cX9_either 41 = .ok (.iconst 0, 1) := z_dd_3 (by decide +kernel)
theorem dX9_either_42 : decode cX9_either 42 = .ok (.ireturn, 1) := z_dd_172 (by decide +kernel)
theorem dX9_either_8 : decode cX9_either 8 = .ok (.iconst 0, 1) := z_dd_3 (by decide +kernel)
theorem dX9_either_9 : decode cX9_either 9 = .ok (.ireturn, 1) := z_dd_172 (by decide +kernel)
theorem dX9_atom_101 : decode cX9_atom 101 = .ok (.aload_n 0, 1) := z_dd_42 (by decide +kernel)
theorem dX9_atom_102 : decode cX9_atom 102 = .ok (.invokevirtual 59, 3) := z_dd_182 (by decide +kernel)
theorem dX9_atom_105 : decode cX9_atom 105 = .ok (.iload_n 2, 1) := z_dd_28 (by decide +kernel)
theorem dX9_atom_106 : decode cX9_atom 106 = .ok (.bipush 40, 2) := z_dd_16 (by decide +kernel)
theorem dX9_atom_108 : decode cX9_atom 108 = .ok (.if_icmp .ne 28, 3) := z_dd_160 (by decide +kernel)
theorem dX9_atom_111 : decode cX9_atom 111 = .ok (.aload_n 0, 1) := z_dd_42 (by decide +kernel)
theorem dX9_atom_112 : decode cX9_atom 112 = .ok (.iload_n 1, 1) := z_dd_27 (by decide +kernel)
theorem dX9_atom_113 : decode cX9_atom 113 = .ok (.iconst 1, 1) := z_dd_4 (by decide +kernel)
theorem dX9_atom_114 : decode cX9_atom 114 = .ok (.iadd, 1) := z_dd_96 (by decide +kernel)
set_option maxRecDepth 20000 in
theorem ggX9_atom_X9_sum : GoodIn wsX9_atom wsX9_sum := goodIn_sub (fa_c (me_s (me_l (me_r (List.mem_of_getElem? (i := 7) rfl)))) (fa_a (fa_a (fa_c (me_s (me_l (me_l (List.mem_of_getElem? (i := 0) rfl)))) (fa_c (me_s (me_l (me_r (List.mem_of_getElem? (i := 8) rfl)))) (fa_c (me_s (me_l (me_r (List.mem_of_getElem? (i := 9) rfl)))) (fa_c (me_s (me_l (me_r (List.mem_of_getElem? (i := 10) rfl)))) (fa_c (me_s (me_l (me_l (List.mem_of_getElem? (i := 4) rfl)))) (fa_c (me_s (me_l (me_l (List.mem_of_getElem? (i := 14) rfl)))) (fa_c (me_s (me_l (me_l (List.mem_of_getElem? (i := 15) rfl)))) (fa_c (me_s (me_l (me_l (List.mem_of_getElem? (i := 16) rfl)))) (fa_c (me_s (me_l (me_l (List.mem_of_getElem? (i := 17) rfl)))) (fa_c (me_s (me_l (me_l (List.mem_of_getElem? (i := 6) rfl)))) (fa_c (me_s (me_l (me_l (List.mem_of_getElem? (i := 18) rfl)))) (fa_c (me_s (me_l (me_l (List.mem_of_getElem? (i := 19) rfl)))) (fa_c (me_s (me_l (me_l (List.mem_of_getElem? (i := 8) rfl)))) (fa_c (me_s (me_l (me_l (List.mem_of_getElem? (i := 9) rfl)))) (fa_c (me_s (me_l (me_l (List.mem_of_getElem? (i := 10) rfl)))) (fa_c (me_s (me_l (me_l (List.mem_of_getElem? (i := 11) rfl)))) (fa_c (me_s (me_l (me_l (List.mem_of_getElem? (i := 12) rfl)))) (fa_c (me_s (me_l (me_l (List.mem_of_getElem? (i := 13) rfl)))) (fa_c me_0 (fa_c (me_s (me_l (me_l (List.mem_of_getElem? (i := 1) rfl)))) (fa_c (me_s (me_l (me_l (List.mem_of_getElem? (i := 2) rfl)))) (fa_c (me_s (me_l (me_l (List.mem_of_getElem? (i := 3) rfl)))) (fa_c (me_s (me_l (me_l (List.mem_of_getElem? (i := 5) rfl)))) (fa_c (me_s (me_l (me_l (List.mem_of_getElem? (i := 7) rfl)))) fa_n)))))))))))))))))))))))) (fa_c (me_s (me_l (me_l (List.mem_of_getElem? (i := 20) rfl)))) (fa_c (me_s (me_l (me_l (List.mem_of_getElem? (i := 21) rfl)))) (fa_c (me_s (me_l (me_l (List.mem_of_getElem? (i := 22) rfl)))) (fa_c (me_s (me_l (me_l (List.mem_of_getElem? (i := 23) rfl)))) (fa_c (me_s (me_l (me_r (List.mem_of_getElem? (i := 0) rfl)))) (fa_c (me_s (me_l (me_r (List.mem_of_getElem? (i := 1) rfl)))) (fa_c (me_s (me_l (me_r (List.mem_of_getElem? (i := 2) rfl)))) (fa_c (me_s (me_l (me_r (List.mem_of_getElem? (i := 3) rfl)))) (fa_c (me_s (me_l (me_r (List.mem_of_getElem? (i := 4) rfl)))) (fa_c (me_s (me_l (me_r (List.mem_of_getElem? (i := 5) rfl)))) (fa_c (me_s (me_l (me_r (List.mem_of_getElem? (i := 6) rfl)))) fa_n)))))))))))) (fun w h => (me_s (me_r h))))) (by decide +kernel)
set_option maxRecDepth 20000 in
theorem gX9_atom_X9_sum : GoodIn wsX9_atom (wsV RX9 79 RX9 yX9_sum wsX9_sum) := goodIn_app (goodIn_sub (fa_c (me_s (me_l (me_l (List.mem_of_getElem? (i := 20) rfl)))) (fa_c (me_s (me_l (me_l (List.mem_of_getElem? (i := 21) rfl)))) (fa_c (me_s (me_l (me_l (List.mem_of_getElem? (i := 22) rfl)))) (fa_c (me_s (me_l (me_l (List.mem_of_getElem? (i := 4) rfl)))) fa_n)))) (by decide +kernel)) ggX9_atom_X9_sum
theorem dX9_atom_115 : decode cX9_atom 115 = .ok (.invokevirtual 79, 3) := z_dd_182 (by decide +kernel)
theorem dX9_atom_118 : decode cX9_atom 118 = .ok (.ifCond .eq 16, 3) := z_dd_153 (by decide +kernel)
theorem dX9_atom_121 : decode cX9_atom 121 = .ok (.aload_n 0, 1) := z_dd_42 (by decide +kernel)
theorem dX9_atom_122 : decode cX9_atom 122 = .ok (.bipush 41, 2) := z_dd_16 (by decide +kernel)
set_option maxRecDepth 20000 in
theorem ggX9_atom_X9_taken : GoodIn wsX9_atom wsX9_taken := goodIn_sub (fa_c (me_s (me_l (me_r (List.mem_of_getElem? (i := 2) rfl)))) (fa_a (fa_c (me_s (me_l (me_l (List.mem_of_getElem? (i := 0) rfl)))) (fa_c (me_s (me_l (me_l (List.mem_of_getElem? (i := 14) rfl)))) (fa_c (me_s (me_l (me_l (List.mem_of_getElem? (i := 15) rfl)))) (fa_c (me_s (me_l (me_l (List.mem_of_getElem? (i := 16) rfl)))) (fa_c (me_s (me_l (me_l (List.mem_of_getElem? (i := 4) rfl)))) (fa_c (me_s (me_l (me_l (List.mem_of_getElem? (i := 17) rfl)))) (fa_c (me_s (me_l (me_l (List.mem_of_getElem? (i := 6) rfl)))) (fa_c (me_s (me_l (me_l (List.mem_of_getElem? (i := 18) rfl)))) (fa_c (me_s (me_l (me_l (List.mem_of_getElem? (i := 19) rfl)))) fa_n))))))))) (fun w h => (me_s (me_r h))))) (by decide +kernel)
set_option maxRecDepth 20000 in
theorem gX9_atom_X9_taken : GoodIn wsX9_atom (wsV RX9 69 RX9 yX9_taken wsX9_taken) := goodIn_app (goodIn_sub (fa_c (me_s (me_l (me_l (List.mem_of_getElem? (i := 23) rfl)))) (fa_c (me_s (me_l (me_r (List.mem_of_getElem? (i := 0) rfl)))) (fa_c (me_s (me_l (me_r (List.mem_of_getElem? (i := 1) rfl)))) (fa_c (me_s (me_l (me_l (List.mem_of_getElem? (i := 4) rfl)))) fa_n)))) (by decide +kernel)) ggX9_atom_X9_taken
theorem dX9_atom_124 : decode cX9_atom 124 = .ok (.invokevirtual 69, 3) := z_dd_182 (by decide +kernel)
theorem dX9_atom_127 : decode cX9_atom 127 = .ok (.ifCond .eq 7, 3) := z_dd_153 (by decide +kernel)
theorem dX9_atom_130 : decode cX9_atom 130 = .ok (.iconst 1, 1) := z_dd_4 (by decide +kernel)
theorem dX9_atom_131 : decode cX9_atom 131 = .ok (.goto 4, 3) := z_dd_167 (by decide +kernel)
theorem dX9_atom_135 : decode cX9_atom 135 = .ok (.ireturn, 1) := z_dd_172 (by decide +kernel)
theorem dX9_atom_134 : decode cX9_atom 134 = .ok (.iconst 0, 1) := z_dd_3 (by decide +kernel)
theorem dX9_atom_136 : decode cX9_atom 136 = .ok (.aload_n 0, 1) := z_dd_42 (by decide +kernel)
theorem dX9_atom_137 : decode cX9_atom 137 = .ok (.bipush 40, 2) := z_dd_16 (by decide +kernel)
theorem dX9_atom_139 : decode cX9_atom 139 = .ok (.invokevirtual 69, 3) := z_dd_182 (by decide +kernel)
theorem dX9_atom_142 : decode cX9_atom 142 = .ok (.ifCond .eq 41, 3) := z_dd_153 (by decide +kernel)
theorem dX9_atom_145 : decode cX9_atom 145 = .ok (.aload_n 0, 1) := z_dd_42 (by decide +kernel)
theorem dX9_atom_146 : decode cX9_atom 146 = .ok (.iload_n 1, 1) := z_dd_27 (by decide +kernel)
theorem dX9_atom_147 : decode cX9_atom 147 = .ok (.iconst 1, 1) := z_dd_4 (by decide +kernel)
theorem dX9_atom_148 : decode cX9_atom 148 = .ok (.iadd, 1) := z_dd_96 (by decide +kernel)
theorem dX9_atom_149 : decode cX9_atom 149 = .ok (.invokevirtual 79, 3) := z_dd_182 (by decide +kernel)
theorem dX9_atom_152 : decode cX9_atom 152 = .ok (.ifCond .eq 31, 3) := z_dd_153 (by decide +kernel)
theorem dX9_atom_155 : decode cX9_atom 155 = .ok (.aload_n 0, 1) := z_dd_42 (by decide +kernel)
theorem dX9_atom_156 : decode cX9_atom 156 = .ok (.bipush 44, 2) := z_dd_16 (by decide +kernel)
theorem dX9_atom_158 : decode cX9_atom 158 = .ok (.invokevirtual 69, 3) := z_dd_182 (by decide +kernel)
theorem dX9_atom_161 : decode cX9_atom 161 = .ok (.ifCond .eq 22, 3) := z_dd_153 (by decide +kernel)
theorem dX9_atom_164 : decode cX9_atom 164 = .ok (.aload_n 0, 1) := z_dd_42 (by decide +kernel)
theorem dX9_atom_165 : decode cX9_atom 165 = .ok (.iload_n 1, 1) := z_dd_27 (by decide +kernel)
theorem dX9_atom_166 : decode cX9_atom 166 = .ok (.iconst 1, 1) := z_dd_4 (by decide +kernel)
theorem dX9_atom_167 : decode cX9_atom 167 = .ok (.iadd, 1) := z_dd_96 (by decide +kernel)
theorem dX9_atom_168 : decode cX9_atom 168 = .ok (.invokevirtual 79, 3) := z_dd_182 (by decide +kernel)
theorem dX9_atom_171 : decode cX9_atom 171 = .ok (.ifCond .eq 12, 3) := z_dd_153 (by decide +kernel)
theorem dX9_atom_174 : decode cX9_atom 174 = .ok (.aload_n 0, 1) := z_dd_42 (by decide +kernel)
theorem dX9_atom_175 : decode cX9_atom 175 = .ok (.bipush 41, 2) := z_dd_16 (by decide +kernel)
theorem dX9_atom_177 : decode cX9_atom 177 = .ok (.invokevirtual 69, 3) := z_dd_182 (by decide +kernel)
theorem dX9_atom_180 : decode cX9_atom 180 = .ok (.ifCond .ne 5, 3) := z_dd_154 (by decide +kernel)
theorem dX9_atom_185 : decode cX9_atom 185 = .ok (.aload_n 0, 1) := z_dd_42 (by decide +kernel)
theorem dX9_atom_186 : decode cX9_atom 186 = .ok (.iload_n 2, 1) := z_dd_28 (by decide +kernel)
theorem dX9_atom_187 : decode cX9_atom 187 = .ok (.sipush 312, 3) := z_dd_17 (by decide +kernel)
theorem dX9_atom_190 : decode cX9_atom 190 = .ok (.if_icmp .ne 8, 3) := z_dd_160 (by decide +kernel)
theorem dX9_atom_193 : decode cX9_atom 193 = .ok (.bipush (-5), 2) := z_dd_16 (by decide +kernel)
theorem dX9_atom_195 : decode cX9_atom 195 = .ok (.goto 5, 3) := z_dd_167 (by decide +kernel)
theorem dX9_atom_200 : decode cX9_atom 200 = .ok (.invokevirtual 82, 3) := z_dd_182 (by decide +kernel)
theorem dX9_atom_203 : decode cX9_atom 203 = .ok (.iconst 1, 1) := z_dd_4 (by decide +kernel)
theorem dX9_atom_204 : decode cX9_atom 204 = .ok (.ireturn, 1) := z_dd_172 (by decide +kernel)
theorem dX9_atom_183 : decode cX9_atom 183 = .ok (.iconst 0, 1) := z_dd_3 (by decide +kernel)
theorem dX9_atom_184 : decode cX9_atom 184 = .ok (.ireturn, 1) := z_dd_172 (by decide +kernel)
theorem dX9_atom_198 : decode cX9_atom 198 = .ok (.bipush (-6), 2) := z_dd_16 (by decide +kernel)
theorem dX9_opened_8 : decode cX9_opened 8 = .ok (.aload_n 0, 1) := z_dd_42 (by decide +kernel)
theorem dX9_opened_9 : decode cX9_opened 9 = .ok (.getfield 62, 3) := z_dd_180 (by decide +kernel)
theorem dX9_opened_12 : decode cX9_opened 12 = .ok (.sipush 311, 3) := z_dd_17 (by decide +kernel)
theorem dX9_opened_15 : decode cX9_opened 15 = .ok (.if_icmp .ne 7, 3) := z_dd_160 (by decide +kernel)
theorem dX9_opened_22 : decode cX9_opened 22 = .ok (.iconst 0, 1) := z_dd_3 (by decide +kernel)
theorem dX9_opened_23 : decode cX9_opened 23 = .ok (.istore_n 2, 1) := z_dd_61 (by decide +kernel)
theorem dX9_opened_24 : decode cX9_opened 24 = .ok (.aload_n 0, 1) := z_dd_42 (by decide +kernel)
set_option maxRecDepth 20000 in
theorem ggX9_opened_X9_step : GoodIn wsX9_opened wsX9_step := goodIn_sub (fa_c (me_s (me_l (me_l (List.mem_of_getElem? (i := 5) rfl)))) (fa_a (fa_c (me_s (me_l (me_l (List.mem_of_getElem? (i := 6) rfl)))) (fa_c (me_s (me_l (me_l (List.mem_of_getElem? (i := 7) rfl)))) (fa_c (me_s (me_l (me_l (List.mem_of_getElem? (i := 8) rfl)))) (fa_c (me_s (me_l (me_l (List.mem_of_getElem? (i := 0) rfl)))) fa_n)))) (fun w h => (me_s (me_r h))))) (by decide +kernel)
set_option maxRecDepth 20000 in
theorem gX9_opened_X9_step : GoodIn wsX9_opened (wsV RX9 59 RX9 yX9_step wsX9_step) := goodIn_app (goodIn_sub (fa_c (me_s (me_l (me_l (List.mem_of_getElem? (i := 1) rfl)))) (fa_c (me_s (me_l (me_l (List.mem_of_getElem? (i := 2) rfl)))) (fa_c (me_s (me_l (me_l (List.mem_of_getElem? (i := 3) rfl)))) (fa_c (me_s (me_l (me_l (List.mem_of_getElem? (i := 4) rfl)))) fa_n)))) (by decide +kernel)) ggX9_opened_X9_step
theorem dX9_opened_25 : decode cX9_opened 25 = .ok (.invokevirtual 59, 3) := z_dd_182 (by decide +kernel)
theorem dX9_opened_28 : decode cX9_opened 28 = .ok (.iload_n 2, 1) := z_dd_28 (by decide +kernel)
theorem dX9_opened_29 : decode cX9_opened 29 = .ok (.ifCond .ne 28, 3) := z_dd_154 (by decide +kernel)
theorem dX9_opened_32 : decode cX9_opened 32 = .ok (.aload_n 0, 1) := z_dd_42 (by decide +kernel)
theorem dX9_opened_33 : decode cX9_opened 33 = .ok (.iload_n 1, 1) := z_dd_27 (by decide +kernel)
theorem dX9_opened_34 : decode cX9_opened 34 = .ok (.iconst 1, 1) := z_dd_4 (by decide +kernel)
theorem dX9_opened_35 : decode cX9_opened 35 = .ok (.iadd, 1) := z_dd_96 (by decide +kernel)
set_option maxRecDepth 20000 in
theorem ggX9_opened_X9_either : GoodIn wsX9_opened wsX9_either := goodIn_sub (fa_c (me_s (me_l (me_r (me_l (List.mem_of_getElem? (i := 2) rfl))))) (fa_a (fa_a (fa_c (me_s (me_l (me_l (List.mem_of_getElem? (i := 0) rfl)))) (fa_c (me_s (me_l (me_r (me_l (List.mem_of_getElem? (i := 3) rfl))))) (fa_c (me_s (me_l (me_r (me_l (List.mem_of_getElem? (i := 4) rfl))))) (fa_c (me_s (me_l (me_r (me_l (List.mem_of_getElem? (i := 5) rfl))))) (fa_c (me_s (me_l (me_l (List.mem_of_getElem? (i := 4) rfl)))) (fa_c (me_s (me_l (me_l (List.mem_of_getElem? (i := 1) rfl)))) (fa_c (me_s (me_l (me_l (List.mem_of_getElem? (i := 2) rfl)))) (fa_c (me_s (me_l (me_l (List.mem_of_getElem? (i := 3) rfl)))) (fa_c (me_s (me_l (me_l (List.mem_of_getElem? (i := 5) rfl)))) (fa_c (me_s (me_l (me_l (List.mem_of_getElem? (i := 6) rfl)))) (fa_c (me_s (me_l (me_l (List.mem_of_getElem? (i := 7) rfl)))) (fa_c (me_s (me_l (me_l (List.mem_of_getElem? (i := 8) rfl)))) (fa_c (me_s (me_l (me_l (List.mem_of_getElem? (i := 19) rfl)))) (fa_c (me_s (me_l (me_l (List.mem_of_getElem? (i := 20) rfl)))) (fa_c (me_s (me_l (me_l (List.mem_of_getElem? (i := 21) rfl)))) (fa_c (me_s (me_l (me_l (List.mem_of_getElem? (i := 22) rfl)))) (fa_c (me_s (me_l (me_l (List.mem_of_getElem? (i := 23) rfl)))) (fa_c (me_s (me_l (me_r (me_l (List.mem_of_getElem? (i := 0) rfl))))) (fa_c (me_s (me_l (me_r (me_l (List.mem_of_getElem? (i := 1) rfl))))) (fa_c (me_s (me_l (me_l (List.mem_of_getElem? (i := 16) rfl)))) (fa_c (me_s (me_l (me_l (List.mem_of_getElem? (i := 17) rfl)))) (fa_c (me_s (me_l (me_l (List.mem_of_getElem? (i := 18) rfl)))) (fa_c (me_s (me_l (me_r (me_l (List.mem_of_getElem? (i := 6) rfl))))) (fa_c (me_s (me_l (me_r (me_l (List.mem_of_getElem? (i := 7) rfl))))) fa_n)))))))))))))))))))))))) (fa_a (fa_c (me_s (me_l (me_r (me_l (List.mem_of_getElem? (i := 8) rfl))))) (fa_c (me_s (me_l (me_r (me_l (List.mem_of_getElem? (i := 9) rfl))))) (fa_c (me_s (me_l (me_r (me_l (List.mem_of_getElem? (i := 10) rfl))))) (fa_c (me_s (me_l (me_r (me_l (List.mem_of_getElem? (i := 11) rfl))))) (fa_c (me_s (me_l (me_r (me_l (List.mem_of_getElem? (i := 12) rfl))))) (fa_c (me_s (me_l (me_r (me_l (List.mem_of_getElem? (i := 13) rfl))))) (fa_c (me_s (me_l (me_r (me_l (List.mem_of_getElem? (i := 14) rfl))))) (fa_c (me_s (me_l (me_r (me_l (List.mem_of_getElem? (i := 15) rfl))))) (fa_c (me_s (me_l (me_r (me_l (List.mem_of_getElem? (i := 16) rfl))))) (fa_c (me_s (me_l (me_r (me_l (List.mem_of_getElem? (i := 17) rfl))))) (fa_c (me_s (me_l (me_r (me_l (List.mem_of_getElem? (i := 18) rfl))))) (fa_c (me_s (me_l (me_r (me_l (List.mem_of_getElem? (i := 19) rfl))))) (fa_c (me_s (me_l (me_r (me_l (List.mem_of_getElem? (i := 20) rfl))))) (fa_c (me_s (me_l (me_r (me_l (List.mem_of_getElem? (i := 21) rfl))))) (fa_c (me_s (me_l (me_r (me_l (List.mem_of_getElem? (i := 22) rfl))))) (fa_c (me_s (me_l (me_l (List.mem_of_getElem? (i := 12) rfl)))) (fa_c (me_s (me_l (me_l (List.mem_of_getElem? (i := 13) rfl)))) (fa_c (me_s (me_l (me_l (List.mem_of_getElem? (i := 14) rfl)))) (fa_c (me_s (me_l (me_l (List.mem_of_getElem? (i := 15) rfl)))) (fa_c (me_s (me_l (me_r (me_l (List.mem_of_getElem? (i := 23) rfl))))) (fa_c (me_s (me_l (me_r (me_r (List.mem_of_getElem? (i := 0) rfl))))) (fa_c (me_s (me_l (me_r (me_r (List.mem_of_getElem? (i := 1) rfl))))) (fa_c (me_s (me_l (me_r (me_r (List.mem_of_getElem? (i := 2) rfl))))) (fa_c me_0 fa_n)))))))))))))))))))))))) (fa_c (me_s (me_l (me_l (List.mem_of_getElem? (i := 9) rfl)))) (fa_c (me_s (me_l (me_l (List.mem_of_getElem? (i := 10) rfl)))) (fa_c (me_s (me_l (me_l (List.mem_of_getElem? (i := 11) rfl)))) fa_n))))) (fun w h => (me_s (me_r h))))) (by decide +kernel)
set_option maxRecDepth 20000 in
theorem gX9_opened_X9_either : GoodIn wsX9_opened (wsV RX9 91 RX9 yX9_either wsX9_either) := goodIn_app (goodIn_sub (fa_c (me_s (me_l (me_l (List.mem_of_getElem? (i := 9) rfl)))) (fa_c (me_s (me_l (me_l (List.mem_of_getElem? (i := 10) rfl)))) (fa_c (me_s (me_l (me_l (List.mem_of_getElem? (i := 11) rfl)))) (fa_c (me_s (me_l (me_l (List.mem_of_getElem? (i := 4) rfl)))) fa_n)))) (by decide +kernel)) ggX9_opened_X9_either
theorem dX9_opened_36 : decode cX9_opened 36 = .ok (.invokevirtual 91, 3) := z_dd_182 (by decide +kernel)
theorem dX9_opened_39 : decode cX9_opened 39 = .ok (.ifCond .eq 16, 3) := z_dd_153 (by decide +kernel)
theorem dX9_opened_42 : decode cX9_opened 42 = .ok (.aload_n 0, 1) := z_dd_42 (by decide +kernel)
theorem dX9_opened_43 : decode cX9_opened 43 = .ok (.bipush 125, 2) := z_dd_16 (by decide +kernel)
set_option maxRecDepth 20000 in
theorem ggX9_opened_X9_taken : GoodIn wsX9_opened wsX9_taken := goodIn_sub (fa_c (me_s (me_l (me_l (List.mem_of_getElem? (i := 15) rfl)))) (fa_a (fa_c (me_s (me_l (me_l (List.mem_of_getElem? (i := 0) rfl)))) (fa_c (me_s (me_l (me_l (List.mem_of_getElem? (i := 1) rfl)))) (fa_c (me_s (me_l (me_l (List.mem_of_getElem? (i := 2) rfl)))) (fa_c (me_s (me_l (me_l (List.mem_of_getElem? (i := 3) rfl)))) (fa_c (me_s (me_l (me_l (List.mem_of_getElem? (i := 4) rfl)))) (fa_c (me_s (me_l (me_l (List.mem_of_getElem? (i := 5) rfl)))) (fa_c (me_s (me_l (me_l (List.mem_of_getElem? (i := 6) rfl)))) (fa_c (me_s (me_l (me_l (List.mem_of_getElem? (i := 7) rfl)))) (fa_c (me_s (me_l (me_l (List.mem_of_getElem? (i := 8) rfl)))) fa_n))))))))) (fun w h => (me_s (me_r h))))) (by decide +kernel)
set_option maxRecDepth 20000 in
theorem gX9_opened_X9_taken : GoodIn wsX9_opened (wsV RX9 69 RX9 yX9_taken wsX9_taken) := goodIn_app (goodIn_sub (fa_c (me_s (me_l (me_l (List.mem_of_getElem? (i := 12) rfl)))) (fa_c (me_s (me_l (me_l (List.mem_of_getElem? (i := 13) rfl)))) (fa_c (me_s (me_l (me_l (List.mem_of_getElem? (i := 14) rfl)))) (fa_c (me_s (me_l (me_l (List.mem_of_getElem? (i := 4) rfl)))) fa_n)))) (by decide +kernel)) ggX9_opened_X9_taken
theorem dX9_opened_45 : decode cX9_opened 45 = .ok (.invokevirtual 69, 3) := z_dd_182 (by decide +kernel)
theorem dX9_opened_48 : decode cX9_opened 48 = .ok (.ifCond .eq 7, 3) := z_dd_153 (by decide +kernel)
theorem dX9_opened_51 : decode cX9_opened 51 = .ok (.iconst 1, 1) := z_dd_4 (by decide +kernel)
theorem dX9_opened_52 : decode cX9_opened 52 = .ok (.goto 4, 3) := z_dd_167 (by decide +kernel)
theorem dX9_opened_56 : decode cX9_opened 56 = .ok (.ireturn, 1) := z_dd_172 (by decide +kernel)
theorem dX9_opened_55 : decode cX9_opened 55 = .ok (.iconst 0, 1) := z_dd_3 (by decide +kernel)
theorem dX9_opened_18 : decode cX9_opened 18 = .ok (.iconst 1, 1) := z_dd_4 (by decide +kernel)
theorem dX9_opened_19 : decode cX9_opened 19 = .ok (.goto 4, 3) := z_dd_167 (by decide +kernel)
theorem dX9_opened_57 : decode cX9_opened 57 = .ok (.aload_n 0, 1) := z_dd_42 (by decide +kernel)
theorem dX9_opened_58 : decode cX9_opened 58 = .ok (.iload_n 1, 1) := z_dd_27 (by decide +kernel)
theorem dX9_opened_59 : decode cX9_opened 59 = .ok (.iconst 1, 1) := z_dd_4 (by decide +kernel)
theorem dX9_opened_60 : decode cX9_opened 60 = .ok (.iadd, 1) := z_dd_96 (by decide +kernel)
set_option maxRecDepth 20000 in
theorem ggX9_opened_X9_one : GoodIn wsX9_opened wsX9_one := goodIn_sub (fa_c (me_s (me_l (me_r (me_l (List.mem_of_getElem? (i := 6) rfl))))) (fa_a (fa_a (fa_c (me_s (me_l (me_l (List.mem_of_getElem? (i := 0) rfl)))) (fa_c (me_s (me_l (me_r (me_l (List.mem_of_getElem? (i := 7) rfl))))) (fa_c (me_s (me_l (me_r (me_l (List.mem_of_getElem? (i := 8) rfl))))) (fa_c (me_s (me_l (me_r (me_l (List.mem_of_getElem? (i := 9) rfl))))) (fa_c (me_s (me_l (me_l (List.mem_of_getElem? (i := 4) rfl)))) (fa_c (me_s (me_l (me_r (me_l (List.mem_of_getElem? (i := 10) rfl))))) (fa_c (me_s (me_l (me_r (me_l (List.mem_of_getElem? (i := 11) rfl))))) (fa_c (me_s (me_l (me_r (me_l (List.mem_of_getElem? (i := 12) rfl))))) (fa_c (me_s (me_l (me_r (me_l (List.mem_of_getElem? (i := 13) rfl))))) (fa_c (me_s (me_l (me_r (me_l (List.mem_of_getElem? (i := 14) rfl))))) (fa_c (me_s (me_l (me_r (me_l (List.mem_of_getElem? (i := 15) rfl))))) (fa_c (me_s (me_l (me_r (me_l (List.mem_of_getElem? (i := 16) rfl))))) (fa_c (me_s (me_l (me_l (List.mem_of_getElem? (i := 1) rfl)))) (fa_c (me_s (me_l (me_l (List.mem_of_getElem? (i := 2) rfl)))) (fa_c (me_s (me_l (me_l (List.mem_of_getElem? (i := 3) rfl)))) (fa_c (me_s (me_l (me_l (List.mem_of_getElem? (i := 5) rfl)))) (fa_c (me_s (me_l (me_l (List.mem_of_getElem? (i := 6) rfl)))) (fa_c (me_s (me_l (me_l (List.mem_of_getElem? (i := 7) rfl)))) (fa_c (me_s (me_l (me_l (List.mem_of_getElem? (i := 8) rfl)))) (fa_c (me_s (me_l (me_l (List.mem_of_getElem? (i := 19) rfl)))) (fa_c (me_s (me_l (me_l (List.mem_of_getElem? (i := 20) rfl)))) (fa_c (me_s (me_l (me_l (List.mem_of_getElem? (i := 21) rfl)))) (fa_c (me_s (me_l (me_l (List.mem_of_getElem? (i := 22) rfl)))) (fa_c (me_s (me_l (me_l (List.mem_of_getElem? (i := 23) rfl)))) fa_n)))))))))))))))))))))))) (fa_a (fa_c (me_s (me_l (me_r (me_l (List.mem_of_getElem? (i := 0) rfl))))) (fa_c (me_s (me_l (me_r (me_l (List.mem_of_getElem? (i := 17) rfl))))) (fa_c (me_s (me_l (me_r (me_l (List.mem_of_getElem? (i := 18) rfl))))) (fa_c (me_s (me_l (me_r (me_l (List.mem_of_getElem? (i := 19) rfl))))) (fa_c (me_s (me_l (me_r (me_l (List.mem_of_getElem? (i := 20) rfl))))) (fa_c (me_s (me_l (me_r (me_l (List.mem_of_getElem? (i := 21) rfl))))) (fa_c (me_s (me_l (me_r (me_l (List.mem_of_getElem? (i := 22) rfl))))) (fa_c (me_s (me_l (me_l (List.mem_of_getElem? (i := 12) rfl)))) (fa_c (me_s (me_l (me_l (List.mem_of_getElem? (i := 13) rfl)))) (fa_c (me_s (me_l (me_l (List.mem_of_getElem? (i := 14) rfl)))) (fa_c (me_s (me_l (me_l (List.mem_of_getElem? (i := 15) rfl)))) (fa_c (me_s (me_l (me_r (me_l (List.mem_of_getElem? (i := 23) rfl))))) (fa_c (me_s (me_l (me_r (me_r (List.mem_of_getElem? (i := 0) rfl))))) (fa_c (me_s (me_l (me_r (me_r (List.mem_of_getElem? (i := 1) rfl))))) (fa_c (me_s (me_l (me_r (me_r (List.mem_of_getElem? (i := 2) rfl))))) (fa_c (me_s (me_l (me_r (me_l (List.mem_of_getElem? (i := 1) rfl))))) (fa_c (me_s (me_l (me_l (List.mem_of_getElem? (i := 16) rfl)))) (fa_c (me_s (me_l (me_l (List.mem_of_getElem? (i := 17) rfl)))) (fa_c (me_s (me_l (me_l (List.mem_of_getElem? (i := 18) rfl)))) (fa_c (me_s (me_l (me_r (me_l (List.mem_of_getElem? (i := 2) rfl))))) (fa_c (me_s (me_l (me_r (me_l (List.mem_of_getElem? (i := 3) rfl))))) (fa_c (me_s (me_l (me_r (me_l (List.mem_of_getElem? (i := 4) rfl))))) (fa_c (me_s (me_l (me_r (me_l (List.mem_of_getElem? (i := 5) rfl))))) (fa_c me_0 fa_n)))))))))))))))))))))))) (fa_c (me_s (me_l (me_l (List.mem_of_getElem? (i := 9) rfl)))) (fa_c (me_s (me_l (me_l (List.mem_of_getElem? (i := 10) rfl)))) (fa_c (me_s (me_l (me_l (List.mem_of_getElem? (i := 11) rfl)))) fa_n))))) (fun w h => (me_s (me_r h))))) (by decide +kernel)
set_option maxRecDepth 20000 in
theorem gX9_opened_X9_one : GoodIn wsX9_opened (wsV RX9 100 RX9 yX9_one wsX9_one) := goodIn_app (goodIn_sub (fa_c (me_s (me_l (me_l (List.mem_of_getElem? (i := 16) rfl)))) (fa_c (me_s (me_l (me_l (List.mem_of_getElem? (i := 17) rfl)))) (fa_c (me_s (me_l (me_l (List.mem_of_getElem? (i := 18) rfl)))) (fa_c (me_s (me_l (me_l (List.mem_of_getElem? (i := 4) rfl)))) fa_n)))) (by decide +kernel)) ggX9_opened_X9_one
theorem dX9_opened_61 : decode cX9_opened 61 = .ok (.invokevirtual 100, 3) := z_dd_182 (by decide +kernel)
theorem dX9_opened_64 : decode cX9_opened 64 = .ok (.ifCond .ne 5, 3) := z_dd_154 (by decide +kernel)
theorem dX9_opened_69 : decode cX9_opened 69 = .ok (.aload_n 0, 1) := z_dd_42 (by decide +kernel)
theorem dX9_opened_70 : decode cX9_opened 70 = .ok (.bipush (-12), 2) := z_dd_16 (by decide +kernel)
set_option maxRecDepth 20000 in
theorem ggX9_opened_X9_emit : GoodIn wsX9_opened wsX9_emit := goodIn_sub (fa_c (me_s (me_l (me_l (List.mem_of_getElem? (i := 22) rfl)))) (fa_a (fa_c (me_s (me_l (me_l (List.mem_of_getElem? (i := 23) rfl)))) (fa_c (me_s (me_l (me_r (me_l (List.mem_of_getElem? (i := 0) rfl))))) fa_n)) (fun w h => (me_s (me_r h))))) (by decide +kernel)
set_option maxRecDepth 20000 in
theorem gX9_opened_X9_emit : GoodIn wsX9_opened (wsV RX9 82 RX9 yX9_emit wsX9_emit) := goodIn_app (goodIn_sub (fa_c (me_s (me_l (me_l (List.mem_of_getElem? (i := 19) rfl)))) (fa_c (me_s (me_l (me_l (List.mem_of_getElem? (i := 20) rfl)))) (fa_c (me_s (me_l (me_l (List.mem_of_getElem? (i := 21) rfl)))) (fa_c (me_s (me_l (me_l (List.mem_of_getElem? (i := 4) rfl)))) fa_n)))) (by decide +kernel)) ggX9_opened_X9_emit
theorem dX9_opened_72 : decode cX9_opened 72 = .ok (.invokevirtual 82, 3) := z_dd_182 (by decide +kernel)
theorem dX9_opened_75 : decode cX9_opened 75 = .ok (.iconst 1, 1) := z_dd_4 (by decide +kernel)
theorem dX9_opened_76 : decode cX9_opened 76 = .ok (.ireturn, 1) := z_dd_172 (by decide +kernel)
theorem dX9_opened_67 : decode cX9_opened 67 = .ok (.iconst 0, 1) := z_dd_3 (by decide +kernel)
theorem dX9_opened_68 : decode cX9_opened 68 = .ok (.ireturn, 1) := z_dd_172 (by decide +kernel)
theorem z_l309 : (309 : Int32).toInt = 309 := by decide
theorem z_l310 : (310 : Int32).toInt = 310 := by decide
theorem z_l311 : (311 : Int32).toInt = 311 := by decide
theorem z_l312 : (312 : Int32).toInt = 312 := by decide
theorem z_l313 : (313 : Int32).toInt = 313 := by decide
theorem z_l314 : (314 : Int32).toInt = 314 := by decide
theorem z_l320 : (320 : Int32).toInt = 320 := by decide
theorem z_l400 : (400 : Int32).toInt = 400 := by decide
theorem z_l401 : (401 : Int32).toInt = 401 := by decide
theorem z_l501 : (501 : Int32).toInt = 501 := by decide
noncomputable def z_iT (I : z_I) : Prop := (I 12 6).toInt ≤ 501 ∧ ((I 12 7).toInt = 401 ∨ (I 12 6).toInt ≤ 500)
theorem z_lkS (v : Int) : Op.lookupswitch.offset [(40, 115), (41, 115), (42, 115), (43, 115), (44, 115), (45, 115), (47, 115), (59, 115), (60, 115), (61, 115), (62, 115), (123, 115), (125, 115)] 117 v = 115 ∨ Op.lookupswitch.offset [(40, 115), (41, 115), (42, 115), (43, 115), (44, 115), (45, 115), (47, 115), (59, 115), (60, 115), (61, 115), (62, 115), (123, 115), (125, 115)] 117 v = 117 := by
  simp only [Op.lookupswitch.offset_cons, Op.lookupswitch.offset_nil]
  repeat' split
  all_goals first | exact Or.inl rfl | exact Or.inr rfl
noncomputable def L_X9_put : z_L := [(13, 999), (12, 1)]
theorem zj_X9_put_X9 : ∀ w ∈ wsX90, w ∈ wsX9_put := fun w h => (List.mem_cons_of_mem _ (List.mem_append_right _ h))
set_option maxHeartbeats 8000000 in
set_option maxRecDepth 100000 in
theorem sx_X9_put (l : Launch) (G : z_G) (ad : Nat → Nat) (c : z_C) (I : z_I) (hR : z_iR I) (a1 : Int32) : z_Mv l yX9_put wsX9_put { frames := 1, cells := 0, slots := 0, locals := 12 } [.ref (ad 12), .int a1] G (shC c, ad, I, JX, PC c ad) (fun u1 => ∃ I1 : z_I, u1 = (shC c, ad, I1, JX, PC c ad) ∧ z_iR I1 ∧ z_fr L_X9_put I1 I) 0 0 := by
  intro sz
  refine z_headQ (cc := cX9_put) (maxL := 3) (ret := none) (by decide) rfl (Nat.le_of_ble_eq_true rfl) ?_
  intro p e s m below meth c0 ls hIn hK hsz hW hl
  obtain ⟨hx, hb, hr, hml, hown, hts, hlocks, hname⟩ := hIn
  subst hsz
  have hown : s.vm.findClass RX9 = some m.cls := hown
  have hA : ∀ q : Nat, s.heap.size ≤ q → z_A (shC c, ad, I, JX, PC c ad) s.heap.size q := fun q h => Or.inr h
  generalize hAe : z_A (shC c, ad, I, JX, PC c ad) s.heap.size = A at *
  have hS : va_S A s.heap s.heap [] := va_S.rf
  have hl : lv_has ls 3 [(0, .ref (ad 12)), (1, .int a1)] := hl
  refine lv_bipush (v := 24) hx hb dX9_put_0 (by decide) ?_
  refine lv_istore_n (lv' := [(2, .int 24), (0, .ref (ad 12)), (1, .int a1)]) hx hb dX9_put_2 rfl hl (by decide) rfl (fun ls hl => ?_)
  have lp1 : ∀ (f : Nat) (y2 : Int32) (I3 : z_I) (H : Heap) (locs : List Loc) (ls : Array Slot), (y2.toInt + 2147483648 < (f : Int)) → (y2.toInt ≤ 24) → (z_iR I3) → (z_fr L_X9_put I3 I) → z_W G A (shC c, ad, I3, JX, PC c ad) H → va_S A s.heap H locs → lv_has ls 3 [(2, .int y2), (0, .ref (ad 12)), (1, .int a1)] → W p l e (headSpec wsX9_put { frames := 1, cells := 0, slots := 0, locals := 12 }).room s m ([.ref (ad 12), .int a1] : List Value).toArray below meth c0 H locs 0 0 (MQ below (va_Qv (fun (u1 : z_U) => ∃ I1 : z_I, u1 = (shC c, ad, I1, JX, PC c ad) ∧ z_iR I1 ∧ z_fr L_X9_put I1 I) (z_B G A) A) ([.ref (ad 12), .int a1] : List Value).toArray s 0 0 A) (F0 m 3 ls []) := by
    intro f
    induction f with
    | zero => intro y2 I3  H locs ls lp1m lp1u2 lp1R lp1fr hW hS hl; exact absurd lp1m (by have := Int32.toInt_lt y2; have := Int32.le_toInt y2; omega)
    | succ f lp1ih =>
      intro y2 I3  H locs ls lp1m lp1u2 lp1R lp1fr hW hS hl
      refine lv_iload_n hx hb dX9_put_3 rfl (lv_at hl 0 rfl) ?_
      refine lv_if_lt (tgt := 51) hx hb dX9_put_4 (by decide) (fun c4 => ?_) (fun c4 => ?_)
      · have g5 := z_f_lt rfl z_l0 c4
        exact z_vret hx hb hr hK hS (Nat.le_of_ble_eq_true rfl) (Nat.le_of_ble_eq_true rfl) hlocks dX9_put_51 (shC c, ad, I3, JX, PC c ad) hW ⟨I3, rfl, ⟨(by show 0 ≤ (I3 12 1).toInt ∧ (I3 12 1).toInt ≤ 500; exact lp1R.1), (by show 0 ≤ (I3 12 5).toInt ∧ (I3 12 5).toInt ≤ 501; exact lp1R.2.1), (by show (-1) ≤ (I3 12 6).toInt ∧ (I3 12 6).toInt ≤ 1000000; exact lp1R.2.2.1), (by show 0 ≤ (I3 12 9).toInt ∧ (I3 12 9).toInt ≤ 500; exact lp1R.2.2.2.1), (by show 0 ≤ (I3 12 13).toInt ∧ (I3 12 13).toInt ≤ 24; exact lp1R.2.2.2.2)⟩, lp1fr⟩
      · have g6 := z_f_nlt rfl z_l0 c4
        refine lv_aload_n hx hb dX9_put_7 rfl (lv_at hl 1 rfl) ?_
        have r7 : 0 ≤ (I3 12 1).toInt ∧ (I3 12 1).toInt ≤ 500 := lp1R.1
        refine z_get (T := TX9) (N := 14) (ci := 9) (i := 12) (v := .int (I3 12 1)) hx hb hts zj_X9_put_X9 hown hK hW rfl rfl 1 (by decide) (hts (.fieldLink RX9 36 "PetrolBoard$Reader" "taped" "I") (me_s (me_l (List.mem_of_getElem? (i := 0) rfl)))) (fun _ h => h) rfl dX9_put_8 ?_
        refine lv_aload_n hx hb dX9_put_11 rfl (lv_at hl 1 rfl) ?_
        refine z_get (T := TX9) (N := 14) (ci := 9) (i := 12) (v := .ref (ad 13)) hx hb hts zj_X9_put_X9 hown hK hW rfl rfl 0 (by decide) (hts (.fieldLink RX9 9 "PetrolBoard$Reader" "text" "[I") (me_s (me_l (List.mem_of_getElem? (i := 1) rfl)))) (fun _ h => h) rfl dX9_put_12 ?_
        refine z_alen (i := 13) (v := 500) hx hb hK hW rfl (by simp [z_tys]) (by rfl) dX9_put_15 ?_
        refine lv_icmp_ge (tgt := 51) hx hb dX9_put_16 (by decide) (fun c8 => ?_) (fun c8 => ?_)
        · have g9 := z_f_ge rfl z_l500 c8
          exact z_vret hx hb hr hK hS (Nat.le_of_ble_eq_true rfl) (Nat.le_of_ble_eq_true rfl) hlocks dX9_put_51 (shC c, ad, I3, JX, PC c ad) hW ⟨I3, rfl, ⟨(by show 0 ≤ (I3 12 1).toInt ∧ (I3 12 1).toInt ≤ 500; exact lp1R.1), (by show 0 ≤ (I3 12 5).toInt ∧ (I3 12 5).toInt ≤ 501; exact lp1R.2.1), (by show (-1) ≤ (I3 12 6).toInt ∧ (I3 12 6).toInt ≤ 1000000; exact lp1R.2.2.1), (by show 0 ≤ (I3 12 9).toInt ∧ (I3 12 9).toInt ≤ 500; exact lp1R.2.2.2.1), (by show 0 ≤ (I3 12 13).toInt ∧ (I3 12 13).toInt ≤ 24; exact lp1R.2.2.2.2)⟩, lp1fr⟩
        · have g10 := z_f_nge rfl z_l500 c8
          refine lv_aload_n hx hb dX9_put_19 rfl (lv_at hl 1 rfl) ?_
          refine z_get (T := TX9) (N := 14) (ci := 9) (i := 12) (v := .ref (ad 13)) hx hb hts zj_X9_put_X9 hown hK hW rfl rfl 0 (by decide) (hts (.fieldLink RX9 9 "PetrolBoard$Reader" "text" "[I") (me_s (me_l (List.mem_of_getElem? (i := 1) rfl)))) (fun _ h => h) rfl dX9_put_20 ?_
          refine lv_aload_n hx hb dX9_put_23 rfl (lv_at hl 1 rfl) ?_
          refine z_get (T := TX9) (N := 14) (ci := 9) (i := 12) (v := .int (I3 12 1)) hx hb hts zj_X9_put_X9 hown hK hW rfl rfl 1 (by decide) (hts (.fieldLink RX9 36 "PetrolBoard$Reader" "taped" "I") (me_s (me_l (List.mem_of_getElem? (i := 0) rfl)))) (fun _ h => h) rfl dX9_put_24 ?_
          refine lv_iload_n hx hb dX9_put_27 rfl (lv_at hl 2 rfl) ?_
          refine lv_iload_n hx hb dX9_put_28 rfl (lv_at hl 0 rfl) ?_
          refine lv_iushr hx hb dX9_put_29 rfl ?_
          refine lv_topi (fun x11 ex11 => ?_)
          refine lv_sipush (v := 255) hx hb dX9_put_30 (by decide) ?_
          refine lv_iand hx hb dX9_put_33 ?_
          refine lv_topi (fun x12 ex12 => ?_)
          refine z_iast (i := 13) hx hb hK hW hS rfl (z_ix rfl (by omega) (by omega)) dX9_put_34 (fun H locs hz1 hW hS => ?_)
          obtain ⟨I13, eI13⟩ : ∃ K : z_I, K = z_up I3 13 (I3 12 1).toNatClampNeg x12 := ⟨_, rfl⟩
          rw [← eI13] at hW
          have f14 := z_fr_a lp1fr (show z_wa L_X9_put 13 = true by decide) eI13
          refine lv_aload_n hx hb dX9_put_35 rfl (lv_at hl 1 rfl) ?_
          refine lv_dup hx hb dX9_put_36 rfl ?_
          refine z_get (T := TX9) (N := 14) (ci := 9) (i := 12) (v := .int (I3 12 1)) hx hb hts zj_X9_put_X9 hown hK hW rfl rfl 1 (by decide) (hts (.fieldLink RX9 36 "PetrolBoard$Reader" "taped" "I") (me_s (me_l (List.mem_of_getElem? (i := 0) rfl)))) (fun _ h => h) (congrArg Value.int (by rw [eI13, z_up_n (by decide)])) dX9_put_37 ?_
          refine lv_iconst (v := 1) hx hb dX9_put_40 (by decide) ?_
          refine lv_iadd hx hb dX9_put_41 ?_
          refine lv_topi (fun x15 ex15 => ?_)
          have tx15 : x15.toInt = (I3 12 1).toInt + 1 := z_tadd ex15 rfl z_l1 (by omega) (by omega)
          refine z_put (T := TX9) (N := 14) (ci := 9) (i := 12) (v := .int x15) (I1 := z_up I13 12 1 x15) (J1 := JX) (P1 := PC c ad) hx hb hts zj_X9_put_X9 tyX9 tyX9_ok nmX9 hown hK hW hS rfl rfl 1 (by decide) (hts (.fieldLink RX9 36 "PetrolBoard$Reader" "taped" "I") (me_s (me_l (List.mem_of_getElem? (i := 0) rfl)))) (fun _ h => h) rfl rfl rfl (by first | rfl | exact congrArg _ z_up_s) (fun a b h ty => z_vI h ty) dX9_put_42 (fun H locs hz1 hW hS => ?_)
          obtain ⟨I16, eI16⟩ : ∃ K : z_I, K = z_up I13 12 1 x15 := ⟨_, rfl⟩
          rw [← eI16] at hW
          have f17 := z_fr_k f14 (show z_wr L_X9_put 12 1 = true by decide) eI16
          obtain ⟨x18, ex18⟩ : ∃ y : Int32, y = y2 + (-8) := ⟨_, rfl⟩
          have tx18 : x18.toInt = y2.toInt + (-8) := z_tadd ex18 rfl z_lm8 (by omega) (by omega)
          refine lv_iinc (v := x18) (lv' := [(2, .int x18), (0, .ref (ad 12)), (1, .int a1)]) hx hb dX9_put_45 hl (k := 0) rfl (by rw [ex18]; rfl) (by decide) rfl (fun ls hl => ?_)
          refine lv_goto (tgt := 3) hx hb dX9_put_48 (by decide) ?_
          exact lp1ih x18 I16  _ _ _ (by omega) (by omega) ⟨(by show 0 ≤ (I16 12 1).toInt ∧ (I16 12 1).toInt ≤ 500; rw [eI16, z_up_s]; omega), (by show 0 ≤ (I16 12 5).toInt ∧ (I16 12 5).toInt ≤ 501; rw [eI16, z_up_k (by decide), eI13, z_up_n (by decide)]; exact lp1R.2.1), (by show (-1) ≤ (I16 12 6).toInt ∧ (I16 12 6).toInt ≤ 1000000; rw [eI16, z_up_k (by decide), eI13, z_up_n (by decide)]; exact lp1R.2.2.1), (by show 0 ≤ (I16 12 9).toInt ∧ (I16 12 9).toInt ≤ 500; rw [eI16, z_up_k (by decide), eI13, z_up_n (by decide)]; exact lp1R.2.2.2.1), (by show 0 ≤ (I16 12 13).toInt ∧ (I16 12 13).toInt ≤ 24; rw [eI16, z_up_k (by decide), eI13, z_up_n (by decide)]; exact lp1R.2.2.2.2)⟩ f17 hW hS (lv_sub hl [0, 1, 2] rfl)
  exact lp1 4294967296 (24) I  _ _ _ (z_m0d _) (by rw [z_l24]; omega) ⟨(by show 0 ≤ (I 12 1).toInt ∧ (I 12 1).toInt ≤ 500; exact hR.1), (by show 0 ≤ (I 12 5).toInt ∧ (I 12 5).toInt ≤ 501; exact hR.2.1), (by show (-1) ≤ (I 12 6).toInt ∧ (I 12 6).toInt ≤ 1000000; exact hR.2.2.1), (by show 0 ≤ (I 12 9).toInt ∧ (I 12 9).toInt ≤ 500; exact hR.2.2.2.1), (by show 0 ≤ (I 12 13).toInt ∧ (I 12 13).toInt ≤ 24; exact hR.2.2.2.2)⟩ z_fr_0 hW hS (lv_sub hl [0, 1, 2] rfl)
noncomputable def L_X9_step : z_L := [(12, 6), (12, 7)]
theorem zj_X9_step_X9 : ∀ w ∈ wsX90, w ∈ wsX9_step := fun w h => (List.mem_cons_of_mem _ (List.mem_append_right _ h))
set_option maxHeartbeats 8000000 in
set_option maxRecDepth 100000 in
theorem sx_X9_step (l : Launch) (G : z_G) (ad : Nat → Nat) (c : z_C) (I : z_I) (hR : z_iR I) (q1 : (I 12 6).toInt ≤ 500) : z_Mv l yX9_step wsX9_step { frames := 1, cells := 0, slots := 0, locals := 12 } [.ref (ad 12)] G (shC c, ad, I, JX, PC c ad) (fun u1 => ∃ I1 : z_I, u1 = (shC c, ad, I1, JX, PC c ad) ∧ z_iR I1 ∧ z_iT I1 ∧ z_fr L_X9_step I1 I) 0 0 := by
  intro sz
  refine z_headQ (cc := cX9_step) (maxL := 1) (ret := none) (by decide) rfl (Nat.le_of_ble_eq_true rfl) ?_
  intro p e s m below meth c0 ls hIn hK hsz hW hl
  obtain ⟨hx, hb, hr, hml, hown, hts, hlocks, hname⟩ := hIn
  subst hsz
  have hown : s.vm.findClass RX9 = some m.cls := hown
  have hA : ∀ q : Nat, s.heap.size ≤ q → z_A (shC c, ad, I, JX, PC c ad) s.heap.size q := fun q h => Or.inr h
  generalize hAe : z_A (shC c, ad, I, JX, PC c ad) s.heap.size = A at *
  have hS : va_S A s.heap s.heap [] := va_S.rf
  have hl : lv_has ls 1 [(0, .ref (ad 12))] := hl
  refine lv_aload_n hx hb dX9_step_0 rfl (lv_at hl 0 rfl) ?_
  refine lv_dup hx hb dX9_step_1 rfl ?_
  have r1 : (-1) ≤ (I 12 6).toInt ∧ (I 12 6).toInt ≤ 1000000 := hR.2.2.1
  refine z_get (T := TX9) (N := 14) (ci := 9) (i := 12) (v := .int (I 12 6)) hx hb hts zj_X9_step_X9 hown hK hW rfl rfl 6 (by decide) (hts (.fieldLink RX9 56 "PetrolBoard$Reader" "at" "I") (me_s (me_l (List.mem_of_getElem? (i := 0) rfl)))) (fun _ h => h) rfl dX9_step_2 ?_
  refine lv_iconst (v := 1) hx hb dX9_step_5 (by decide) ?_
  refine lv_iadd hx hb dX9_step_6 ?_
  refine lv_topi (fun x2 ex2 => ?_)
  have tx2 : x2.toInt = (I 12 6).toInt + 1 := z_tadd ex2 rfl z_l1 (by omega) (by omega)
  refine z_put (T := TX9) (N := 14) (ci := 9) (i := 12) (v := .int x2) (I1 := z_up I 12 6 x2) (J1 := JX) (P1 := PC c ad) hx hb hts zj_X9_step_X9 tyX9 tyX9_ok nmX9 hown hK hW hS rfl rfl 6 (by decide) (hts (.fieldLink RX9 56 "PetrolBoard$Reader" "at" "I") (me_s (me_l (List.mem_of_getElem? (i := 0) rfl)))) (fun _ h => h) rfl rfl rfl (by first | rfl | exact congrArg _ z_up_s) (fun a b h ty => z_vI h ty) dX9_step_7 (fun H locs hz1 hW hS => ?_)
  obtain ⟨I3, eI3⟩ : ∃ K : z_I, K = z_up I 12 6 x2 := ⟨_, rfl⟩
  rw [← eI3] at hW
  have f4 := z_fr_k z_fr_0 (show z_wr L_X9_step 12 6 = true by decide) eI3
  refine lv_aload_n hx hb dX9_step_10 rfl (lv_at hl 0 rfl) ?_
  refine lv_aload_n hx hb dX9_step_11 rfl (lv_at hl 0 rfl) ?_
  refine z_get (T := TX9) (N := 14) (ci := 9) (i := 12) (v := .int x2) hx hb hts zj_X9_step_X9 hown hK hW rfl rfl 6 (by decide) (hts (.fieldLink RX9 56 "PetrolBoard$Reader" "at" "I") (me_s (me_l (List.mem_of_getElem? (i := 0) rfl)))) (fun _ h => h) (congrArg Value.int (by rw [eI3, z_up_s])) dX9_step_12 ?_
  refine lv_aload_n hx hb dX9_step_15 rfl (lv_at hl 0 rfl) ?_
  have r5 : 0 ≤ (I 12 5).toInt ∧ (I 12 5).toInt ≤ 501 := hR.2.1
  refine z_get (T := TX9) (N := 14) (ci := 9) (i := 12) (v := .int (I 12 5)) hx hb hts zj_X9_step_X9 hown hK hW rfl rfl 5 (by decide) (hts (.fieldLink RX9 76 "PetrolBoard$Reader" "scanned" "I") (me_s (me_l (List.mem_of_getElem? (i := 1) rfl)))) (fun _ h => h) (congrArg Value.int (by rw [eI3, z_up_k (by decide)])) dX9_step_16 ?_
  refine lv_icmp_ge (tgt := 46) hx hb dX9_step_19 (by decide) (fun c6 => ?_) (fun c6 => ?_)
  · have g7 := z_f_ge rfl rfl c6
    refine lv_sipush (v := 401) hx hb dX9_step_46 (by decide) ?_
    refine z_put (T := TX9) (N := 14) (ci := 9) (i := 12) (v := .int 401) (I1 := z_up I3 12 7 401) (J1 := JX) (P1 := PC c ad) hx hb hts zj_X9_step_X9 tyX9 tyX9_ok nmX9 hown hK hW hS rfl rfl 7 (by decide) (hts (.fieldLink RX9 62 "PetrolBoard$Reader" "token" "I") (me_s (me_l (List.mem_of_getElem? (i := 3) rfl)))) (fun _ h => h) rfl rfl rfl (by first | rfl | exact congrArg _ z_up_s) (fun a b h ty => z_vI h ty) dX9_step_49 (fun H locs hz1 hW hS => ?_)
    obtain ⟨I8, eI8⟩ : ∃ K : z_I, K = z_up I3 12 7 401 := ⟨_, rfl⟩
    rw [← eI8] at hW
    have f9 := z_fr_k f4 (show z_wr L_X9_step 12 7 = true by decide) eI8
    exact z_vret hx hb hr hK hS (Nat.le_of_ble_eq_true rfl) (Nat.le_of_ble_eq_true rfl) hlocks dX9_step_52 (shC c, ad, I8, JX, PC c ad) hW ⟨I8, rfl, ⟨(by show 0 ≤ (I8 12 1).toInt ∧ (I8 12 1).toInt ≤ 500; rw [eI8, z_up_k (by decide), eI3, z_up_k (by decide)]; exact hR.1), (by show 0 ≤ (I8 12 5).toInt ∧ (I8 12 5).toInt ≤ 501; rw [eI8, z_up_k (by decide), eI3, z_up_k (by decide)]; exact hR.2.1), (by show (-1) ≤ (I8 12 6).toInt ∧ (I8 12 6).toInt ≤ 1000000; rw [eI8, z_up_k (by decide), eI3, z_up_s]; omega), (by show 0 ≤ (I8 12 9).toInt ∧ (I8 12 9).toInt ≤ 500; rw [eI8, z_up_k (by decide), eI3, z_up_k (by decide)]; exact hR.2.2.2.1), (by show 0 ≤ (I8 12 13).toInt ∧ (I8 12 13).toInt ≤ 24; rw [eI8, z_up_k (by decide), eI3, z_up_k (by decide)]; exact hR.2.2.2.2)⟩, (by have q0 : (I8 12 6) = x2 := (by rw [eI8, z_up_k (by decide), eI3, z_up_s]); have q1 : (I8 12 7) = 401 := (by rw [eI8, z_up_s]); have z1 := z_l401; show (I8 12 6).toInt ≤ 501 ∧ ((I8 12 7).toInt = 401 ∨ (I8 12 6).toInt ≤ 500); rw [q0, q1]; first | omega | decide), f9⟩
  · have g10 := z_f_nge rfl rfl c6
    refine lv_aload_n hx hb dX9_step_22 rfl (lv_at hl 0 rfl) ?_
    refine z_get (T := TX9) (N := 14) (ci := 9) (i := 12) (v := .int x2) hx hb hts zj_X9_step_X9 hown hK hW rfl rfl 6 (by decide) (hts (.fieldLink RX9 56 "PetrolBoard$Reader" "at" "I") (me_s (me_l (List.mem_of_getElem? (i := 0) rfl)))) (fun _ h => h) (congrArg Value.int (by rw [eI3, z_up_s])) dX9_step_23 ?_
    refine lv_aload_n hx hb dX9_step_26 rfl (lv_at hl 0 rfl) ?_
    refine z_get (T := TX9) (N := 14) (ci := 9) (i := 12) (v := .ref (ad 14)) hx hb hts zj_X9_step_X9 hown hK hW rfl rfl 2 (by decide) (hts (.fieldLink RX9 15 "PetrolBoard$Reader" "tokens" "[I") (me_s (me_l (List.mem_of_getElem? (i := 2) rfl)))) (fun _ h => h) rfl dX9_step_27 ?_
    refine z_alen (i := 14) (v := 501) hx hb hK hW rfl (by simp [z_tys]) (by rfl) dX9_step_30 ?_
    refine lv_icmp_ge (tgt := 46) hx hb dX9_step_31 (by decide) (fun c11 => (by have g := z_f_ge rfl z_l501 c11; omega)) (fun c11 => ?_)
    have g12 := z_f_nge rfl z_l501 c11
    refine lv_aload_n hx hb dX9_step_34 rfl (lv_at hl 0 rfl) ?_
    refine z_get (T := TX9) (N := 14) (ci := 9) (i := 12) (v := .ref (ad 14)) hx hb hts zj_X9_step_X9 hown hK hW rfl rfl 2 (by decide) (hts (.fieldLink RX9 15 "PetrolBoard$Reader" "tokens" "[I") (me_s (me_l (List.mem_of_getElem? (i := 2) rfl)))) (fun _ h => h) rfl dX9_step_35 ?_
    refine lv_aload_n hx hb dX9_step_38 rfl (lv_at hl 0 rfl) ?_
    refine z_get (T := TX9) (N := 14) (ci := 9) (i := 12) (v := .int x2) hx hb hts zj_X9_step_X9 hown hK hW rfl rfl 6 (by decide) (hts (.fieldLink RX9 56 "PetrolBoard$Reader" "at" "I") (me_s (me_l (List.mem_of_getElem? (i := 0) rfl)))) (fun _ h => h) (congrArg Value.int (by rw [eI3, z_up_s])) dX9_step_39 ?_
    refine z_iald (i := 14) hx hb hK hW rfl (z_ix rfl (by omega) (by omega)) dX9_step_42 ?_
    refine lv_topi (fun x13 ex13 => ?_)
    refine lv_goto (tgt := 49) hx hb dX9_step_43 (by decide) ?_
    refine z_put (T := TX9) (N := 14) (ci := 9) (i := 12) (v := .int x13) (I1 := z_up I3 12 7 x13) (J1 := JX) (P1 := PC c ad) hx hb hts zj_X9_step_X9 tyX9 tyX9_ok nmX9 hown hK hW hS rfl rfl 7 (by decide) (hts (.fieldLink RX9 62 "PetrolBoard$Reader" "token" "I") (me_s (me_l (List.mem_of_getElem? (i := 3) rfl)))) (fun _ h => h) rfl rfl rfl (by first | rfl | exact congrArg _ z_up_s) (fun a b h ty => z_vI h ty) dX9_step_49 (fun H locs hz1 hW hS => ?_)
    obtain ⟨I14, eI14⟩ : ∃ K : z_I, K = z_up I3 12 7 x13 := ⟨_, rfl⟩
    rw [← eI14] at hW
    have f15 := z_fr_k f4 (show z_wr L_X9_step 12 7 = true by decide) eI14
    exact z_vret hx hb hr hK hS (Nat.le_of_ble_eq_true rfl) (Nat.le_of_ble_eq_true rfl) hlocks dX9_step_52 (shC c, ad, I14, JX, PC c ad) hW ⟨I14, rfl, ⟨(by show 0 ≤ (I14 12 1).toInt ∧ (I14 12 1).toInt ≤ 500; rw [eI14, z_up_k (by decide), eI3, z_up_k (by decide)]; exact hR.1), (by show 0 ≤ (I14 12 5).toInt ∧ (I14 12 5).toInt ≤ 501; rw [eI14, z_up_k (by decide), eI3, z_up_k (by decide)]; exact hR.2.1), (by show (-1) ≤ (I14 12 6).toInt ∧ (I14 12 6).toInt ≤ 1000000; rw [eI14, z_up_k (by decide), eI3, z_up_s]; omega), (by show 0 ≤ (I14 12 9).toInt ∧ (I14 12 9).toInt ≤ 500; rw [eI14, z_up_k (by decide), eI3, z_up_k (by decide)]; exact hR.2.2.2.1), (by show 0 ≤ (I14 12 13).toInt ∧ (I14 12 13).toInt ≤ 24; rw [eI14, z_up_k (by decide), eI3, z_up_k (by decide)]; exact hR.2.2.2.2)⟩, (by have q0 : (I14 12 6) = x2 := (by rw [eI14, z_up_k (by decide), eI3, z_up_s]); have q1 : (I14 12 7) = x13 := (by rw [eI14, z_up_s]); show (I14 12 6).toInt ≤ 501 ∧ ((I14 12 7).toInt = 401 ∨ (I14 12 6).toInt ≤ 500); rw [q0, q1]; first | omega | decide), f15⟩
noncomputable def L_X9_taken : z_L := [(12, 6), (12, 7)]
theorem zj_X9_taken_X9 : ∀ w ∈ wsX90, w ∈ wsX9_taken := fun w h => (List.mem_cons_of_mem _ (List.mem_append_right _ h))
set_option maxHeartbeats 8000000 in
set_option maxRecDepth 100000 in
theorem sx_X9_taken (l : Launch) (G : z_G) (ad : Nat → Nat) (c : z_C) (I : z_I) (hR : z_iR I) (hT : z_iT I) (a1 : Int32) (q1 : a1.toInt ≤ 300) : z_M l yX9_taken wsX9_taken { frames := 2, cells := 0, slots := 0, locals := 32 } [.ref (ad 12), .int a1] G (shC c, ad, I, JX, PC c ad) (fun r u1 => ∃ I1 : z_I, u1 = (shC c, ad, I1, JX, PC c ad) ∧ z_iR I1 ∧ z_iT I1 ∧ z_fr L_X9_taken I1 I ∧ (r = 1 ∨ r = 0)) 0 0 := by
  intro sz
  refine z_headQ (cc := cX9_taken) (maxL := 2) (ret := (some .boolean)) (by decide) rfl (Nat.le_of_ble_eq_true rfl) ?_
  intro p e s m below meth c0 ls hIn hK hsz hW hl
  obtain ⟨hx, hb, hr, hml, hown, hts, hlocks, hname⟩ := hIn
  subst hsz
  have hown : s.vm.findClass RX9 = some m.cls := hown
  have hA : ∀ q : Nat, s.heap.size ≤ q → z_A (shC c, ad, I, JX, PC c ad) s.heap.size q := fun q h => Or.inr h
  generalize hAe : z_A (shC c, ad, I, JX, PC c ad) s.heap.size = A at *
  have hS : va_S A s.heap s.heap [] := va_S.rf
  have hl : lv_has ls 2 [(0, .ref (ad 12)), (1, .int a1)] := hl
  have kT : (I 12 6).toInt ≤ 501 ∧ ((I 12 7).toInt = 401 ∨ (I 12 6).toInt ≤ 500) := hT
  refine lv_aload_n hx hb dX9_taken_0 rfl (lv_at hl 0 rfl) ?_
  refine z_get (T := TX9) (N := 14) (ci := 9) (i := 12) (v := .int (I 12 7)) hx hb hts zj_X9_taken_X9 hown hK hW rfl rfl 7 (by decide) (hts (.fieldLink RX9 62 "PetrolBoard$Reader" "token" "I") (me_s (me_l (List.mem_of_getElem? (i := 0) rfl)))) (fun _ h => h) rfl dX9_taken_1 ?_
  refine lv_iload_n hx hb dX9_taken_4 rfl (lv_at hl 1 rfl) ?_
  refine lv_icmp_eq (tgt := 10) hx hb dX9_taken_5 (by decide) (fun c1 => ?_) (fun c1 => ?_)
  · have g2 := z_f_eq rfl rfl c1
    have b3 := Int32.toInt_lt (I 12 7)
    have b4 := Int32.toInt_lt a1
    refine lv_aload_n hx hb dX9_taken_10 rfl (lv_at hl 0 rfl) ?_
    refine z_cv hW hS hA (va_runV (As := []) (rest := []) ⟨hx, hb, hml, hown, hts⟩ (sx_X9_step l G ad c I ⟨(by show 0 ≤ (I 12 1).toInt ∧ (I 12 1).toInt ≤ 500; exact hR.1), (by show 0 ≤ (I 12 5).toInt ∧ (I 12 5).toInt ≤ 501; exact hR.2.1), (by show (-1) ≤ (I 12 6).toInt ∧ (I 12 6).toInt ≤ 1000000; exact hR.2.2.1), (by show 0 ≤ (I 12 9).toInt ∧ (I 12 9).toInt ≤ 500; exact hR.2.2.2.1), (by show 0 ≤ (I 12 13).toInt ∧ (I 12 13).toInt ≤ 24; exact hR.2.2.2.2)⟩   (by show (I 12 6).toInt ≤ 500; first | omega | decide) _) (cwV 0 hts gX9_taken_X9_step rfl rfl rfl hy_X9_step ⟨Nat.le_of_ble_eq_true rfl, Nat.le_of_ble_eq_true rfl⟩) (z_preV (i := 12) hK hW rfl rfl) rfl rfl hl.1 rfl (lv_room (Nat.le_of_ble_eq_true rfl)) dX9_taken_11 ⟨Nat.le_of_ble_eq_true rfl, Nat.le_of_ble_eq_true rfl⟩) (fun u1 H locs hp hW hS => ?_)
    obtain ⟨I5, e9, hI5R, hI5T, fI5⟩ := hp
    rw [e9] at hW
    have f6 := z_fr_sub (L := L_X9_taken) z_fr_0 fI5 (by decide)
    have k7 : (I5 12 6).toInt ≤ 501 ∧ ((I5 12 7).toInt = 401 ∨ (I5 12 6).toInt ≤ 500) := hI5T
    refine lv_iconst (v := 1) hx hb dX9_taken_14 (by decide) ?_
    exact z_zret hx hb hr (by decide) hK hS (Nat.le_of_ble_eq_true rfl) (Nat.le_of_ble_eq_true rfl) hlocks dX9_taken_15 (shC c, ad, I5, JX, PC c ad) hW ⟨I5, rfl, ⟨(by show 0 ≤ (I5 12 1).toInt ∧ (I5 12 1).toInt ≤ 500; exact hI5R.1), (by show 0 ≤ (I5 12 5).toInt ∧ (I5 12 5).toInt ≤ 501; exact hI5R.2.1), (by show (-1) ≤ (I5 12 6).toInt ∧ (I5 12 6).toInt ≤ 1000000; exact hI5R.2.2.1), (by show 0 ≤ (I5 12 9).toInt ∧ (I5 12 9).toInt ≤ 500; exact hI5R.2.2.2.1), (by show 0 ≤ (I5 12 13).toInt ∧ (I5 12 13).toInt ≤ 24; exact hI5R.2.2.2.2)⟩, (by show (I5 12 6).toInt ≤ 501 ∧ ((I5 12 7).toInt = 401 ∨ (I5 12 6).toInt ≤ 500); first | omega | decide), f6, Or.inl rfl⟩
  · have g8 := z_f_ne rfl rfl c1
    have b9 := Int32.toInt_lt (I 12 7)
    have b10 := Int32.toInt_lt a1
    refine lv_iconst (v := 0) hx hb dX9_taken_8 (by decide) ?_
    exact z_zret hx hb hr (by decide) hK hS (Nat.le_of_ble_eq_true rfl) (Nat.le_of_ble_eq_true rfl) hlocks dX9_taken_9 (shC c, ad, I, JX, PC c ad) hW ⟨I, rfl, ⟨(by show 0 ≤ (I 12 1).toInt ∧ (I 12 1).toInt ≤ 500; exact hR.1), (by show 0 ≤ (I 12 5).toInt ∧ (I 12 5).toInt ≤ 501; exact hR.2.1), (by show (-1) ≤ (I 12 6).toInt ∧ (I 12 6).toInt ≤ 1000000; exact hR.2.2.1), (by show 0 ≤ (I 12 9).toInt ∧ (I 12 9).toInt ≤ 500; exact hR.2.2.2.1), (by show 0 ≤ (I 12 13).toInt ∧ (I 12 13).toInt ≤ 24; exact hR.2.2.2.2)⟩, (by show (I 12 6).toInt ≤ 501 ∧ ((I 12 7).toInt = 401 ∨ (I 12 6).toInt ≤ 500); first | omega | decide), z_fr_0, Or.inr rfl⟩
noncomputable def L_X9_emit : z_L := [(17, 999), (12, 9)]
theorem zj_X9_emit_X9 : ∀ w ∈ wsX90, w ∈ wsX9_emit := fun w h => (List.mem_cons_of_mem _ (List.mem_append_right _ h))
set_option maxHeartbeats 8000000 in
set_option maxRecDepth 100000 in
theorem sx_X9_emit (l : Launch) (G : z_G) (ad : Nat → Nat) (c : z_C) (I : z_I) (hR : z_iR I) (a1 : Int32) : z_Mv l yX9_emit wsX9_emit { frames := 1, cells := 0, slots := 0, locals := 12 } [.ref (ad 12), .int a1] G (shC c, ad, I, JX, PC c ad) (fun u1 => ∃ I1 : z_I, u1 = (shC c, ad, I1, JX, PC c ad) ∧ z_iR I1 ∧ z_fr L_X9_emit I1 I) 0 0 := by
  intro sz
  refine z_headQ (cc := cX9_emit) (maxL := 2) (ret := none) (by decide) rfl (Nat.le_of_ble_eq_true rfl) ?_
  intro p e s m below meth c0 ls hIn hK hsz hW hl
  obtain ⟨hx, hb, hr, hml, hown, hts, hlocks, hname⟩ := hIn
  subst hsz
  have hown : s.vm.findClass RX9 = some m.cls := hown
  have hA : ∀ q : Nat, s.heap.size ≤ q → z_A (shC c, ad, I, JX, PC c ad) s.heap.size q := fun q h => Or.inr h
  generalize hAe : z_A (shC c, ad, I, JX, PC c ad) s.heap.size = A at *
  have hS : va_S A s.heap s.heap [] := va_S.rf
  have hl : lv_has ls 2 [(0, .ref (ad 12)), (1, .int a1)] := hl
  refine lv_aload_n hx hb dX9_emit_0 rfl (lv_at hl 0 rfl) ?_
  have r1 : 0 ≤ (I 12 9).toInt ∧ (I 12 9).toInt ≤ 500 := hR.2.2.2.1
  refine z_get (T := TX9) (N := 14) (ci := 9) (i := 12) (v := .int (I 12 9)) hx hb hts zj_X9_emit_X9 hown hK hW rfl rfl 9 (by decide) (hts (.fieldLink RX9 50 "PetrolBoard$Reader" "used" "I") (me_s (me_l (List.mem_of_getElem? (i := 0) rfl)))) (fun _ h => h) rfl dX9_emit_1 ?_
  refine lv_aload_n hx hb dX9_emit_4 rfl (lv_at hl 0 rfl) ?_
  refine z_get (T := TX9) (N := 14) (ci := 9) (i := 12) (v := .ref (ad 17)) hx hb hts zj_X9_emit_X9 hown hK hW rfl rfl 8 (by decide) (hts (.fieldLink RX9 24 "PetrolBoard$Reader" "code" "[I") (me_s (me_l (List.mem_of_getElem? (i := 1) rfl)))) (fun _ h => h) rfl dX9_emit_5 ?_
  refine z_alen (i := 17) (v := 500) hx hb hK hW rfl (by simp [z_tys]) (by rfl) dX9_emit_8 ?_
  refine lv_icmp_ge (tgt := 32) hx hb dX9_emit_9 (by decide) (fun c2 => ?_) (fun c2 => ?_)
  · have g3 := z_f_ge rfl z_l500 c2
    exact z_vret hx hb hr hK hS (Nat.le_of_ble_eq_true rfl) (Nat.le_of_ble_eq_true rfl) hlocks dX9_emit_32 (shC c, ad, I, JX, PC c ad) hW ⟨I, rfl, ⟨(by show 0 ≤ (I 12 1).toInt ∧ (I 12 1).toInt ≤ 500; exact hR.1), (by show 0 ≤ (I 12 5).toInt ∧ (I 12 5).toInt ≤ 501; exact hR.2.1), (by show (-1) ≤ (I 12 6).toInt ∧ (I 12 6).toInt ≤ 1000000; exact hR.2.2.1), (by show 0 ≤ (I 12 9).toInt ∧ (I 12 9).toInt ≤ 500; exact hR.2.2.2.1), (by show 0 ≤ (I 12 13).toInt ∧ (I 12 13).toInt ≤ 24; exact hR.2.2.2.2)⟩, z_fr_0⟩
  · have g4 := z_f_nge rfl z_l500 c2
    refine lv_aload_n hx hb dX9_emit_12 rfl (lv_at hl 0 rfl) ?_
    refine z_get (T := TX9) (N := 14) (ci := 9) (i := 12) (v := .ref (ad 17)) hx hb hts zj_X9_emit_X9 hown hK hW rfl rfl 8 (by decide) (hts (.fieldLink RX9 24 "PetrolBoard$Reader" "code" "[I") (me_s (me_l (List.mem_of_getElem? (i := 1) rfl)))) (fun _ h => h) rfl dX9_emit_13 ?_
    refine lv_aload_n hx hb dX9_emit_16 rfl (lv_at hl 0 rfl) ?_
    refine z_get (T := TX9) (N := 14) (ci := 9) (i := 12) (v := .int (I 12 9)) hx hb hts zj_X9_emit_X9 hown hK hW rfl rfl 9 (by decide) (hts (.fieldLink RX9 50 "PetrolBoard$Reader" "used" "I") (me_s (me_l (List.mem_of_getElem? (i := 0) rfl)))) (fun _ h => h) rfl dX9_emit_17 ?_
    refine lv_iload_n hx hb dX9_emit_20 rfl (lv_at hl 1 rfl) ?_
    refine z_iast (i := 17) hx hb hK hW hS rfl (z_ix rfl (by omega) (by omega)) dX9_emit_21 (fun H locs hz1 hW hS => ?_)
    obtain ⟨I5, eI5⟩ : ∃ K : z_I, K = z_up I 17 (I 12 9).toNatClampNeg a1 := ⟨_, rfl⟩
    rw [← eI5] at hW
    have f6 := z_fr_a z_fr_0 (show z_wa L_X9_emit 17 = true by decide) eI5
    refine lv_aload_n hx hb dX9_emit_22 rfl (lv_at hl 0 rfl) ?_
    refine lv_dup hx hb dX9_emit_23 rfl ?_
    refine z_get (T := TX9) (N := 14) (ci := 9) (i := 12) (v := .int (I 12 9)) hx hb hts zj_X9_emit_X9 hown hK hW rfl rfl 9 (by decide) (hts (.fieldLink RX9 50 "PetrolBoard$Reader" "used" "I") (me_s (me_l (List.mem_of_getElem? (i := 0) rfl)))) (fun _ h => h) (congrArg Value.int (by rw [eI5, z_up_n (by decide)])) dX9_emit_24 ?_
    refine lv_iconst (v := 1) hx hb dX9_emit_27 (by decide) ?_
    refine lv_iadd hx hb dX9_emit_28 ?_
    refine lv_topi (fun x7 ex7 => ?_)
    have tx7 : x7.toInt = (I 12 9).toInt + 1 := z_tadd ex7 rfl z_l1 (by omega) (by omega)
    refine z_put (T := TX9) (N := 14) (ci := 9) (i := 12) (v := .int x7) (I1 := z_up I5 12 9 x7) (J1 := JX) (P1 := PC c ad) hx hb hts zj_X9_emit_X9 tyX9 tyX9_ok nmX9 hown hK hW hS rfl rfl 9 (by decide) (hts (.fieldLink RX9 50 "PetrolBoard$Reader" "used" "I") (me_s (me_l (List.mem_of_getElem? (i := 0) rfl)))) (fun _ h => h) rfl rfl rfl (by first | rfl | exact congrArg _ z_up_s) (fun a b h ty => z_vI h ty) dX9_emit_29 (fun H locs hz1 hW hS => ?_)
    obtain ⟨I8, eI8⟩ : ∃ K : z_I, K = z_up I5 12 9 x7 := ⟨_, rfl⟩
    rw [← eI8] at hW
    have f9 := z_fr_k f6 (show z_wr L_X9_emit 12 9 = true by decide) eI8
    exact z_vret hx hb hr hK hS (Nat.le_of_ble_eq_true rfl) (Nat.le_of_ble_eq_true rfl) hlocks dX9_emit_32 (shC c, ad, I8, JX, PC c ad) hW ⟨I8, rfl, ⟨(by show 0 ≤ (I8 12 1).toInt ∧ (I8 12 1).toInt ≤ 500; rw [eI8, z_up_k (by decide), eI5, z_up_n (by decide)]; exact hR.1), (by show 0 ≤ (I8 12 5).toInt ∧ (I8 12 5).toInt ≤ 501; rw [eI8, z_up_k (by decide), eI5, z_up_n (by decide)]; exact hR.2.1), (by show (-1) ≤ (I8 12 6).toInt ∧ (I8 12 6).toInt ≤ 1000000; rw [eI8, z_up_k (by decide), eI5, z_up_n (by decide)]; exact hR.2.2.1), (by show 0 ≤ (I8 12 9).toInt ∧ (I8 12 9).toInt ≤ 500; rw [eI8, z_up_s]; omega), (by show 0 ≤ (I8 12 13).toInt ∧ (I8 12 13).toInt ≤ 24; rw [eI8, z_up_k (by decide), eI5, z_up_n (by decide)]; exact hR.2.2.2.2)⟩, f9⟩
theorem zj_X9_numberHere_X9 : ∀ w ∈ wsX90, w ∈ wsX9_numberHere := fun w h => (List.mem_cons_of_mem _ (List.mem_append_right _ h))
set_option maxHeartbeats 8000000 in
set_option maxRecDepth 100000 in
theorem sx_X9_numberHere (l : Launch) (G : z_G) (ad : Nat → Nat) (c : z_C) (I : z_I) (hR : z_iR I) : z_M l yX9_numberHere wsX9_numberHere { frames := 1, cells := 0, slots := 0, locals := 12 } [.ref (ad 12)] G (shC c, ad, I, JX, PC c ad) (fun r u1 => u1 = (shC c, ad, I, JX, PC c ad)) 0 0 := by
  intro sz
  refine z_headQ (cc := cX9_numberHere) (maxL := 1) (ret := (some .int)) (by decide) rfl (Nat.le_of_ble_eq_true rfl) ?_
  intro p e s m below meth c0 ls hIn hK hsz hW hl
  obtain ⟨hx, hb, hr, hml, hown, hts, hlocks, hname⟩ := hIn
  subst hsz
  have hown : s.vm.findClass RX9 = some m.cls := hown
  have hA : ∀ q : Nat, s.heap.size ≤ q → z_A (shC c, ad, I, JX, PC c ad) s.heap.size q := fun q h => Or.inr h
  generalize hAe : z_A (shC c, ad, I, JX, PC c ad) s.heap.size = A at *
  have hS : va_S A s.heap s.heap [] := va_S.rf
  have hl : lv_has ls 1 [(0, .ref (ad 12))] := hl
  refine lv_aload_n hx hb dX9_numberHere_0 rfl (lv_at hl 0 rfl) ?_
  have r1 : (-1) ≤ (I 12 6).toInt ∧ (I 12 6).toInt ≤ 1000000 := hR.2.2.1
  refine z_get (T := TX9) (N := 14) (ci := 9) (i := 12) (v := .int (I 12 6)) hx hb hts zj_X9_numberHere_X9 hown hK hW rfl rfl 6 (by decide) (hts (.fieldLink RX9 56 "PetrolBoard$Reader" "at" "I") (me_s (me_l (List.mem_of_getElem? (i := 0) rfl)))) (fun _ h => h) rfl dX9_numberHere_1 ?_
  refine lv_if_lt (tgt := 31) hx hb dX9_numberHere_4 (by decide) (fun c2 => ?_) (fun c2 => ?_)
  · have g3 := z_f_lt rfl z_l0 c2
    refine lv_iconst (v := 0) hx hb dX9_numberHere_31 (by decide) ?_
    exact z_iret hx hb hr hK hS (Nat.le_of_ble_eq_true rfl) (Nat.le_of_ble_eq_true rfl) hlocks dX9_numberHere_32 (shC c, ad, I, JX, PC c ad) hW rfl
  · have g4 := z_f_nlt rfl z_l0 c2
    refine lv_aload_n hx hb dX9_numberHere_7 rfl (lv_at hl 0 rfl) ?_
    refine z_get (T := TX9) (N := 14) (ci := 9) (i := 12) (v := .int (I 12 6)) hx hb hts zj_X9_numberHere_X9 hown hK hW rfl rfl 6 (by decide) (hts (.fieldLink RX9 56 "PetrolBoard$Reader" "at" "I") (me_s (me_l (List.mem_of_getElem? (i := 0) rfl)))) (fun _ h => h) rfl dX9_numberHere_8 ?_
    refine lv_aload_n hx hb dX9_numberHere_11 rfl (lv_at hl 0 rfl) ?_
    refine z_get (T := TX9) (N := 14) (ci := 9) (i := 12) (v := .ref (ad 15)) hx hb hts zj_X9_numberHere_X9 hown hK hW rfl rfl 3 (by decide) (hts (.fieldLink RX9 18 "PetrolBoard$Reader" "values" "[I") (me_s (me_l (List.mem_of_getElem? (i := 1) rfl)))) (fun _ h => h) rfl dX9_numberHere_12 ?_
    refine z_alen (i := 15) (v := 501) hx hb hK hW rfl (by simp [z_tys]) (by rfl) dX9_numberHere_15 ?_
    refine lv_icmp_ge (tgt := 31) hx hb dX9_numberHere_16 (by decide) (fun c5 => ?_) (fun c5 => ?_)
    · have g6 := z_f_ge rfl z_l501 c5
      refine lv_iconst (v := 0) hx hb dX9_numberHere_31 (by decide) ?_
      exact z_iret hx hb hr hK hS (Nat.le_of_ble_eq_true rfl) (Nat.le_of_ble_eq_true rfl) hlocks dX9_numberHere_32 (shC c, ad, I, JX, PC c ad) hW rfl
    · have g7 := z_f_nge rfl z_l501 c5
      refine lv_aload_n hx hb dX9_numberHere_19 rfl (lv_at hl 0 rfl) ?_
      refine z_get (T := TX9) (N := 14) (ci := 9) (i := 12) (v := .ref (ad 15)) hx hb hts zj_X9_numberHere_X9 hown hK hW rfl rfl 3 (by decide) (hts (.fieldLink RX9 18 "PetrolBoard$Reader" "values" "[I") (me_s (me_l (List.mem_of_getElem? (i := 1) rfl)))) (fun _ h => h) rfl dX9_numberHere_20 ?_
      refine lv_aload_n hx hb dX9_numberHere_23 rfl (lv_at hl 0 rfl) ?_
      refine z_get (T := TX9) (N := 14) (ci := 9) (i := 12) (v := .int (I 12 6)) hx hb hts zj_X9_numberHere_X9 hown hK hW rfl rfl 6 (by decide) (hts (.fieldLink RX9 56 "PetrolBoard$Reader" "at" "I") (me_s (me_l (List.mem_of_getElem? (i := 0) rfl)))) (fun _ h => h) rfl dX9_numberHere_24 ?_
      refine z_iald (i := 15) hx hb hK hW rfl (z_ix rfl (by omega) (by omega)) dX9_numberHere_27 ?_
      refine lv_topi (fun x8 ex8 => ?_)
      refine lv_goto (tgt := 32) hx hb dX9_numberHere_28 (by decide) ?_
      exact z_iret hx hb hr hK hS (Nat.le_of_ble_eq_true rfl) (Nat.le_of_ble_eq_true rfl) hlocks dX9_numberHere_32 (shC c, ad, I, JX, PC c ad) hW rfl
theorem zj_X9_place_X9 : ∀ w ∈ wsX90, w ∈ wsX9_place := fun w h => (List.mem_cons_of_mem _ (List.mem_append_right _ h))
set_option maxHeartbeats 8000000 in
set_option maxRecDepth 100000 in
theorem sx_X9_place (l : Launch) (G : z_G) (ad : Nat → Nat) (c : z_C) (I : z_I) (hR : z_iR I) : z_M l yX9_place wsX9_place { frames := 1, cells := 0, slots := 0, locals := 12 } [.ref (ad 12)] G (shC c, ad, I, JX, PC c ad) (fun r u1 => u1 = (shC c, ad, I, JX, PC c ad)) 0 0 := by
  intro sz
  refine z_headQ (cc := cX9_place) (maxL := 1) (ret := (some .int)) (by decide) rfl (Nat.le_of_ble_eq_true rfl) ?_
  intro p e s m below meth c0 ls hIn hK hsz hW hl
  obtain ⟨hx, hb, hr, hml, hown, hts, hlocks, hname⟩ := hIn
  subst hsz
  have hown : s.vm.findClass RX9 = some m.cls := hown
  have hA : ∀ q : Nat, s.heap.size ≤ q → z_A (shC c, ad, I, JX, PC c ad) s.heap.size q := fun q h => Or.inr h
  generalize hAe : z_A (shC c, ad, I, JX, PC c ad) s.heap.size = A at *
  have hS : va_S A s.heap s.heap [] := va_S.rf
  have hl : lv_has ls 1 [(0, .ref (ad 12))] := hl
  refine lv_aload_n hx hb dX9_place_0 rfl (lv_at hl 0 rfl) ?_
  have r1 : (-1) ≤ (I 12 6).toInt ∧ (I 12 6).toInt ≤ 1000000 := hR.2.2.1
  refine z_get (T := TX9) (N := 14) (ci := 9) (i := 12) (v := .int (I 12 6)) hx hb hts zj_X9_place_X9 hown hK hW rfl rfl 6 (by decide) (hts (.fieldLink RX9 56 "PetrolBoard$Reader" "at" "I") (me_s (me_l (List.mem_of_getElem? (i := 0) rfl)))) (fun _ h => h) rfl dX9_place_1 ?_
  refine lv_if_lt (tgt := 42) hx hb dX9_place_4 (by decide) (fun c2 => ?_) (fun c2 => ?_)
  · have g3 := z_f_lt rfl z_l0 c2
    refine lv_iconst (v := 0) hx hb dX9_place_42 (by decide) ?_
    exact z_iret hx hb hr hK hS (Nat.le_of_ble_eq_true rfl) (Nat.le_of_ble_eq_true rfl) hlocks dX9_place_43 (shC c, ad, I, JX, PC c ad) hW rfl
  · have g4 := z_f_nlt rfl z_l0 c2
    refine lv_aload_n hx hb dX9_place_7 rfl (lv_at hl 0 rfl) ?_
    refine z_get (T := TX9) (N := 14) (ci := 9) (i := 12) (v := .int (I 12 6)) hx hb hts zj_X9_place_X9 hown hK hW rfl rfl 6 (by decide) (hts (.fieldLink RX9 56 "PetrolBoard$Reader" "at" "I") (me_s (me_l (List.mem_of_getElem? (i := 0) rfl)))) (fun _ h => h) rfl dX9_place_8 ?_
    refine lv_aload_n hx hb dX9_place_11 rfl (lv_at hl 0 rfl) ?_
    have r5 : 0 ≤ (I 12 5).toInt ∧ (I 12 5).toInt ≤ 501 := hR.2.1
    refine z_get (T := TX9) (N := 14) (ci := 9) (i := 12) (v := .int (I 12 5)) hx hb hts zj_X9_place_X9 hown hK hW rfl rfl 5 (by decide) (hts (.fieldLink RX9 76 "PetrolBoard$Reader" "scanned" "I") (me_s (me_l (List.mem_of_getElem? (i := 1) rfl)))) (fun _ h => h) rfl dX9_place_12 ?_
    refine lv_icmp_ge (tgt := 42) hx hb dX9_place_15 (by decide) (fun c6 => ?_) (fun c6 => ?_)
    · have g7 := z_f_ge rfl rfl c6
      refine lv_iconst (v := 0) hx hb dX9_place_42 (by decide) ?_
      exact z_iret hx hb hr hK hS (Nat.le_of_ble_eq_true rfl) (Nat.le_of_ble_eq_true rfl) hlocks dX9_place_43 (shC c, ad, I, JX, PC c ad) hW rfl
    · have g8 := z_f_nge rfl rfl c6
      refine lv_aload_n hx hb dX9_place_18 rfl (lv_at hl 0 rfl) ?_
      refine z_get (T := TX9) (N := 14) (ci := 9) (i := 12) (v := .int (I 12 6)) hx hb hts zj_X9_place_X9 hown hK hW rfl rfl 6 (by decide) (hts (.fieldLink RX9 56 "PetrolBoard$Reader" "at" "I") (me_s (me_l (List.mem_of_getElem? (i := 0) rfl)))) (fun _ h => h) rfl dX9_place_19 ?_
      refine lv_aload_n hx hb dX9_place_22 rfl (lv_at hl 0 rfl) ?_
      refine z_get (T := TX9) (N := 14) (ci := 9) (i := 12) (v := .ref (ad 16)) hx hb hts zj_X9_place_X9 hown hK hW rfl rfl 4 (by decide) (hts (.fieldLink RX9 21 "PetrolBoard$Reader" "places" "[I") (me_s (me_l (List.mem_of_getElem? (i := 2) rfl)))) (fun _ h => h) rfl dX9_place_23 ?_
      refine z_alen (i := 16) (v := 501) hx hb hK hW rfl (by simp [z_tys]) (by rfl) dX9_place_26 ?_
      refine lv_icmp_ge (tgt := 42) hx hb dX9_place_27 (by decide) (fun c9 => (by have g := z_f_ge rfl z_l501 c9; omega)) (fun c9 => ?_)
      have g10 := z_f_nge rfl z_l501 c9
      refine lv_aload_n hx hb dX9_place_30 rfl (lv_at hl 0 rfl) ?_
      refine z_get (T := TX9) (N := 14) (ci := 9) (i := 12) (v := .ref (ad 16)) hx hb hts zj_X9_place_X9 hown hK hW rfl rfl 4 (by decide) (hts (.fieldLink RX9 21 "PetrolBoard$Reader" "places" "[I") (me_s (me_l (List.mem_of_getElem? (i := 2) rfl)))) (fun _ h => h) rfl dX9_place_31 ?_
      refine lv_aload_n hx hb dX9_place_34 rfl (lv_at hl 0 rfl) ?_
      refine z_get (T := TX9) (N := 14) (ci := 9) (i := 12) (v := .int (I 12 6)) hx hb hts zj_X9_place_X9 hown hK hW rfl rfl 6 (by decide) (hts (.fieldLink RX9 56 "PetrolBoard$Reader" "at" "I") (me_s (me_l (List.mem_of_getElem? (i := 0) rfl)))) (fun _ h => h) rfl dX9_place_35 ?_
      refine z_iald (i := 16) hx hb hK hW rfl (z_ix rfl (by omega) (by omega)) dX9_place_38 ?_
      refine lv_topi (fun x11 ex11 => ?_)
      refine lv_goto (tgt := 43) hx hb dX9_place_39 (by decide) ?_
      exact z_iret hx hb hr hK hS (Nat.le_of_ble_eq_true rfl) (Nat.le_of_ble_eq_true rfl) hlocks dX9_place_43 (shC c, ad, I, JX, PC c ad) hW rfl
noncomputable def L_X9_atom_9 : z_L := [(12, 6), (12, 7), (17, 999), (12, 9)]
theorem zj_X9_atom_X9 : ∀ w ∈ wsX90, w ∈ wsX9_atom := fun w h => (List.mem_cons_of_mem _ (List.mem_append_right _ h))
set_option maxHeartbeats 8000000 in
set_option maxRecDepth 100000 in
theorem sx_X9_atom_9 (l : Launch) (G : z_G) (ad : Nat → Nat) (c : z_C) (I : z_I) (hR : z_iR I) (hT : z_iT I) : z_M l yX9_atom wsX9_atom { frames := 3, cells := 0, slots := 0, locals := 53 } [.ref (ad 12), .int 9] G (shC c, ad, I, JX, PC c ad) (fun r u1 => ∃ I1 : z_I, u1 = (shC c, ad, I1, JX, PC c ad) ∧ z_iR I1 ∧ z_iT I1 ∧ z_fr L_X9_atom_9 I1 I ∧ (r = 1 ∨ r = 0)) 0 0 := by
  intro sz
  refine z_headQ (cc := cX9_atom) (maxL := 3) (ret := (some .boolean)) (by decide) rfl (Nat.le_of_ble_eq_true rfl) ?_
  intro p e s m below meth c0 ls hIn hK hsz hW hl
  obtain ⟨hx, hb, hr, hml, hown, hts, hlocks, hname⟩ := hIn
  subst hsz
  have hown : s.vm.findClass RX9 = some m.cls := hown
  have hA : ∀ q : Nat, s.heap.size ≤ q → z_A (shC c, ad, I, JX, PC c ad) s.heap.size q := fun q h => Or.inr h
  generalize hAe : z_A (shC c, ad, I, JX, PC c ad) s.heap.size = A at *
  have hS : va_S A s.heap s.heap [] := va_S.rf
  have hl : lv_has ls 3 [(0, .ref (ad 12)), (1, .int 9)] := hl
  have kT : (I 12 6).toInt ≤ 501 ∧ ((I 12 7).toInt = 401 ∨ (I 12 6).toInt ≤ 500) := hT
  refine lv_aload_n hx hb dX9_atom_0 rfl (lv_at hl 0 rfl) ?_
  refine z_get (T := TX9) (N := 14) (ci := 9) (i := 12) (v := .int (I 12 7)) hx hb hts zj_X9_atom_X9 hown hK hW rfl rfl 7 (by decide) (hts (.fieldLink RX9 62 "PetrolBoard$Reader" "token" "I") (me_s (me_l (me_l (List.mem_of_getElem? (i := 0) rfl))))) (fun _ h => h) rfl dX9_atom_1 ?_
  refine lv_sipush (v := 400) hx hb dX9_atom_4 (by decide) ?_
  refine lv_icmp_eq (tgt := 30) hx hb dX9_atom_7 (by decide) (fun c1 => ?_) (fun c1 => ?_)
  · have g2 := z_f_eq rfl z_l400 c1
    have b3 := Int32.toInt_lt (I 12 7)
    refine lv_aload_n hx hb dX9_atom_30 rfl (lv_at hl 0 rfl) ?_
    refine lv_aload_n hx hb dX9_atom_31 rfl (lv_at hl 0 rfl) ?_
    refine z_get (T := TX9) (N := 14) (ci := 9) (i := 12) (v := .int (I 12 7)) hx hb hts zj_X9_atom_X9 hown hK hW rfl rfl 7 (by decide) (hts (.fieldLink RX9 62 "PetrolBoard$Reader" "token" "I") (me_s (me_l (me_l (List.mem_of_getElem? (i := 0) rfl))))) (fun _ h => h) rfl dX9_atom_32 ?_
    refine lv_sipush (v := 400) hx hb dX9_atom_35 (by decide) ?_
    refine lv_icmp_ne (tgt := 48) hx hb dX9_atom_38 (by decide) (fun c4 => (by have g := z_f_ne rfl z_l400 c4; omega)) (fun c4 => ?_)
    have g5 := z_f_eq rfl z_l400 c4
    refine lv_aload_n hx hb dX9_atom_41 rfl (lv_at hl 0 rfl) ?_
    refine z_ci hW hS hA (va_runV (As := []) (rest := [.ref (ad 12)]) ⟨hx, hb, hml, hown, hts⟩ (sx_X9_numberHere l G ad c I ⟨(by show 0 ≤ (I 12 1).toInt ∧ (I 12 1).toInt ≤ 500; exact hR.1), (by show 0 ≤ (I 12 5).toInt ∧ (I 12 5).toInt ≤ 501; exact hR.2.1), (by show (-1) ≤ (I 12 6).toInt ∧ (I 12 6).toInt ≤ 1000000; exact hR.2.2.1), (by show 0 ≤ (I 12 9).toInt ∧ (I 12 9).toInt ≤ 500; exact hR.2.2.2.1), (by show 0 ≤ (I 12 13).toInt ∧ (I 12 13).toInt ≤ 24; exact hR.2.2.2.2)⟩  _) (cwV 0 hts gX9_atom_X9_numberHere rfl rfl rfl hy_X9_numberHere ⟨Nat.le_of_ble_eq_true rfl, Nat.le_of_ble_eq_true rfl⟩) (z_preV (i := 12) hK hW rfl rfl) rfl rfl hl.1 rfl (lv_room (Nat.le_of_ble_eq_true rfl)) dX9_atom_42 ⟨Nat.le_of_ble_eq_true rfl, Nat.le_of_ble_eq_true rfl⟩) (fun r u1 H locs hp hW hS => ?_)
    rw [hp] at hW
    refine lv_topi (fun x6 ex6 => ?_)
    refine lv_goto (tgt := 59) hx hb dX9_atom_45 (by decide) ?_
    refine z_cv hW hS hA (va_runV (As := [.int x6]) (rest := []) ⟨hx, hb, hml, hown, hts⟩ (sx_X9_emit l G ad c I ⟨(by show 0 ≤ (I 12 1).toInt ∧ (I 12 1).toInt ≤ 500; exact hR.1), (by show 0 ≤ (I 12 5).toInt ∧ (I 12 5).toInt ≤ 501; exact hR.2.1), (by show (-1) ≤ (I 12 6).toInt ∧ (I 12 6).toInt ≤ 1000000; exact hR.2.2.1), (by show 0 ≤ (I 12 9).toInt ∧ (I 12 9).toInt ≤ 500; exact hR.2.2.2.1), (by show 0 ≤ (I 12 13).toInt ∧ (I 12 13).toInt ≤ 24; exact hR.2.2.2.2)⟩ x6 _) (cwV 1 hts gX9_atom_X9_emit rfl rfl rfl hy_X9_emit ⟨Nat.le_of_ble_eq_true rfl, Nat.le_of_ble_eq_true rfl⟩) (z_preV (i := 12) hK hW rfl rfl) rfl rfl hl.1 rfl (lv_room (Nat.le_of_ble_eq_true rfl)) dX9_atom_59 ⟨Nat.le_of_ble_eq_true rfl, Nat.le_of_ble_eq_true rfl⟩) (fun u1 H locs hp hW hS => ?_)
    obtain ⟨I7, e9, hI7R, fI7⟩ := hp
    rw [e9] at hW
    have f8 := z_fr_sub (L := L_X9_atom_9) z_fr_0 fI7 (by decide)
    have k9 : (I7 12 6).toInt ≤ 501 ∧ ((I7 12 7).toInt = 401 ∨ (I7 12 6).toInt ≤ 500) := (by have q0 : (I7 12 6) = (I 12 6) := (by rw [fI7 12 6 (by decide)]); have q1 : (I7 12 7) = (I 12 7) := (by rw [fI7 12 7 (by decide)]); show (I7 12 6).toInt ≤ 501 ∧ ((I7 12 7).toInt = 401 ∨ (I7 12 6).toInt ≤ 500); rw [q0, q1]; first | omega | decide)
    have k10 : (I7 12 6).toInt = (I 12 6).toInt := by rw [fI7 12 6 (by decide)]
    have k11 : (I7 12 7).toInt = (I 12 7).toInt := by rw [fI7 12 7 (by decide)]
    refine lv_aload_n hx hb dX9_atom_62 rfl (lv_at hl 0 rfl) ?_
    refine z_cv hW hS hA (va_runV (As := []) (rest := []) ⟨hx, hb, hml, hown, hts⟩ (sx_X9_step l G ad c I7 ⟨(by show 0 ≤ (I7 12 1).toInt ∧ (I7 12 1).toInt ≤ 500; exact hI7R.1), (by show 0 ≤ (I7 12 5).toInt ∧ (I7 12 5).toInt ≤ 501; exact hI7R.2.1), (by show (-1) ≤ (I7 12 6).toInt ∧ (I7 12 6).toInt ≤ 1000000; exact hI7R.2.2.1), (by show 0 ≤ (I7 12 9).toInt ∧ (I7 12 9).toInt ≤ 500; exact hI7R.2.2.2.1), (by show 0 ≤ (I7 12 13).toInt ∧ (I7 12 13).toInt ≤ 24; exact hI7R.2.2.2.2)⟩   (by show (I7 12 6).toInt ≤ 500; first | omega | decide) _) (cwV 0 hts gX9_atom_X9_step rfl rfl rfl hy_X9_step ⟨Nat.le_of_ble_eq_true rfl, Nat.le_of_ble_eq_true rfl⟩) (z_preV (i := 12) hK hW rfl rfl) rfl rfl hl.1 rfl (lv_room (Nat.le_of_ble_eq_true rfl)) dX9_atom_63 ⟨Nat.le_of_ble_eq_true rfl, Nat.le_of_ble_eq_true rfl⟩) (fun u1 H locs hp hW hS => ?_)
    obtain ⟨I12, e9, hI12R, hI12T, fI12⟩ := hp
    rw [e9] at hW
    have f13 := z_fr_sub (L := L_X9_atom_9) f8 fI12 (by decide)
    have k14 : (I12 12 6).toInt ≤ 501 ∧ ((I12 12 7).toInt = 401 ∨ (I12 12 6).toInt ≤ 500) := hI12T
    refine lv_iconst (v := 1) hx hb dX9_atom_66 (by decide) ?_
    exact z_zret hx hb hr (by decide) hK hS (Nat.le_of_ble_eq_true rfl) (Nat.le_of_ble_eq_true rfl) hlocks dX9_atom_67 (shC c, ad, I12, JX, PC c ad) hW ⟨I12, rfl, ⟨(by show 0 ≤ (I12 12 1).toInt ∧ (I12 12 1).toInt ≤ 500; exact hI12R.1), (by show 0 ≤ (I12 12 5).toInt ∧ (I12 12 5).toInt ≤ 501; exact hI12R.2.1), (by show (-1) ≤ (I12 12 6).toInt ∧ (I12 12 6).toInt ≤ 1000000; exact hI12R.2.2.1), (by show 0 ≤ (I12 12 9).toInt ∧ (I12 12 9).toInt ≤ 500; exact hI12R.2.2.2.1), (by show 0 ≤ (I12 12 13).toInt ∧ (I12 12 13).toInt ≤ 24; exact hI12R.2.2.2.2)⟩, (by show (I12 12 6).toInt ≤ 501 ∧ ((I12 12 7).toInt = 401 ∨ (I12 12 6).toInt ≤ 500); first | omega | decide), f13, Or.inl rfl⟩
  · have g15 := z_f_ne rfl z_l400 c1
    have b16 := Int32.toInt_lt (I 12 7)
    refine lv_aload_n hx hb dX9_atom_10 rfl (lv_at hl 0 rfl) ?_
    refine z_get (T := TX9) (N := 14) (ci := 9) (i := 12) (v := .int (I 12 7)) hx hb hts zj_X9_atom_X9 hown hK hW rfl rfl 7 (by decide) (hts (.fieldLink RX9 62 "PetrolBoard$Reader" "token" "I") (me_s (me_l (me_l (List.mem_of_getElem? (i := 0) rfl))))) (fun _ h => h) rfl dX9_atom_11 ?_
    refine lv_sipush (v := 314) hx hb dX9_atom_14 (by decide) ?_
    refine lv_icmp_lt (tgt := 68) hx hb dX9_atom_17 (by decide) (fun c17 => ?_) (fun c17 => ?_)
    · have g18 := z_f_lt rfl z_l314 c17
      refine lv_aload_n hx hb dX9_atom_68 rfl (lv_at hl 0 rfl) ?_
      refine z_get (T := TX9) (N := 14) (ci := 9) (i := 12) (v := .int (I 12 7)) hx hb hts zj_X9_atom_X9 hown hK hW rfl rfl 7 (by decide) (hts (.fieldLink RX9 62 "PetrolBoard$Reader" "token" "I") (me_s (me_l (me_l (List.mem_of_getElem? (i := 0) rfl))))) (fun _ h => h) rfl dX9_atom_69 ?_
      refine lv_istore_n (lv' := [(2, .int (I 12 7)), (0, .ref (ad 12)), (1, .int 9)]) hx hb dX9_atom_72 rfl hl (by decide) rfl (fun ls hl => ?_)
      refine lv_iload_n hx hb dX9_atom_73 rfl (lv_at hl 0 rfl) ?_
      refine lv_bipush (v := 40) hx hb dX9_atom_74 (by decide) ?_
      refine lv_icmp_eq (tgt := 93) hx hb dX9_atom_76 (by decide) (fun c19 => ?_) (fun c19 => ?_)
      · have g20 := z_f_eq rfl z_l40 c19
        refine lv_iload_n hx hb dX9_atom_93 rfl (lv_at hl 2 rfl) ?_
        refine lv_bipush (v := 9) hx hb dX9_atom_94 (by decide) ?_
        refine lv_icmp_lt (tgt := 101) hx hb dX9_atom_96 (by decide) (fun c21 => absurd c21 (by decide)) (fun c21 => ?_)
        refine lv_iconst (v := 0) hx hb dX9_atom_99 (by decide) ?_
        exact z_zret hx hb hr (by decide) hK hS (Nat.le_of_ble_eq_true rfl) (Nat.le_of_ble_eq_true rfl) hlocks dX9_atom_100 (shC c, ad, I, JX, PC c ad) hW ⟨I, rfl, ⟨(by show 0 ≤ (I 12 1).toInt ∧ (I 12 1).toInt ≤ 500; exact hR.1), (by show 0 ≤ (I 12 5).toInt ∧ (I 12 5).toInt ≤ 501; exact hR.2.1), (by show (-1) ≤ (I 12 6).toInt ∧ (I 12 6).toInt ≤ 1000000; exact hR.2.2.1), (by show 0 ≤ (I 12 9).toInt ∧ (I 12 9).toInt ≤ 500; exact hR.2.2.2.1), (by show 0 ≤ (I 12 13).toInt ∧ (I 12 13).toInt ≤ 24; exact hR.2.2.2.2)⟩, (by show (I 12 6).toInt ≤ 501 ∧ ((I 12 7).toInt = 401 ∨ (I 12 6).toInt ≤ 500); first | omega | decide), z_fr_0, Or.inr rfl⟩
      · have g22 := z_f_ne rfl z_l40 c19
        refine lv_iload_n hx hb dX9_atom_79 rfl (lv_at hl 0 rfl) ?_
        refine lv_sipush (v := 312) hx hb dX9_atom_80 (by decide) ?_
        refine lv_icmp_eq (tgt := 93) hx hb dX9_atom_83 (by decide) (fun c23 => ?_) (fun c23 => ?_)
        · have g24 := z_f_eq rfl z_l312 c23
          refine lv_iload_n hx hb dX9_atom_93 rfl (lv_at hl 2 rfl) ?_
          refine lv_bipush (v := 9) hx hb dX9_atom_94 (by decide) ?_
          refine lv_icmp_lt (tgt := 101) hx hb dX9_atom_96 (by decide) (fun c25 => absurd c25 (by decide)) (fun c25 => ?_)
          refine lv_iconst (v := 0) hx hb dX9_atom_99 (by decide) ?_
          exact z_zret hx hb hr (by decide) hK hS (Nat.le_of_ble_eq_true rfl) (Nat.le_of_ble_eq_true rfl) hlocks dX9_atom_100 (shC c, ad, I, JX, PC c ad) hW ⟨I, rfl, ⟨(by show 0 ≤ (I 12 1).toInt ∧ (I 12 1).toInt ≤ 500; exact hR.1), (by show 0 ≤ (I 12 5).toInt ∧ (I 12 5).toInt ≤ 501; exact hR.2.1), (by show (-1) ≤ (I 12 6).toInt ∧ (I 12 6).toInt ≤ 1000000; exact hR.2.2.1), (by show 0 ≤ (I 12 9).toInt ∧ (I 12 9).toInt ≤ 500; exact hR.2.2.2.1), (by show 0 ≤ (I 12 13).toInt ∧ (I 12 13).toInt ≤ 24; exact hR.2.2.2.2)⟩, (by show (I 12 6).toInt ≤ 501 ∧ ((I 12 7).toInt = 401 ∨ (I 12 6).toInt ≤ 500); first | omega | decide), z_fr_0, Or.inr rfl⟩
        · have g26 := z_f_ne rfl z_l312 c23
          refine lv_iload_n hx hb dX9_atom_86 rfl (lv_at hl 0 rfl) ?_
          refine lv_sipush (v := 313) hx hb dX9_atom_87 (by decide) ?_
          refine lv_icmp_ne (tgt := 99) hx hb dX9_atom_90 (by decide) (fun c27 => ?_) (fun c27 => ?_)
          · have g28 := z_f_ne rfl z_l313 c27
            refine lv_iconst (v := 0) hx hb dX9_atom_99 (by decide) ?_
            exact z_zret hx hb hr (by decide) hK hS (Nat.le_of_ble_eq_true rfl) (Nat.le_of_ble_eq_true rfl) hlocks dX9_atom_100 (shC c, ad, I, JX, PC c ad) hW ⟨I, rfl, ⟨(by show 0 ≤ (I 12 1).toInt ∧ (I 12 1).toInt ≤ 500; exact hR.1), (by show 0 ≤ (I 12 5).toInt ∧ (I 12 5).toInt ≤ 501; exact hR.2.1), (by show (-1) ≤ (I 12 6).toInt ∧ (I 12 6).toInt ≤ 1000000; exact hR.2.2.1), (by show 0 ≤ (I 12 9).toInt ∧ (I 12 9).toInt ≤ 500; exact hR.2.2.2.1), (by show 0 ≤ (I 12 13).toInt ∧ (I 12 13).toInt ≤ 24; exact hR.2.2.2.2)⟩, (by show (I 12 6).toInt ≤ 501 ∧ ((I 12 7).toInt = 401 ∨ (I 12 6).toInt ≤ 500); first | omega | decide), z_fr_0, Or.inr rfl⟩
          · have g29 := z_f_eq rfl z_l313 c27
            refine lv_iload_n hx hb dX9_atom_93 rfl (lv_at hl 2 rfl) ?_
            refine lv_bipush (v := 9) hx hb dX9_atom_94 (by decide) ?_
            refine lv_icmp_lt (tgt := 101) hx hb dX9_atom_96 (by decide) (fun c30 => absurd c30 (by decide)) (fun c30 => ?_)
            refine lv_iconst (v := 0) hx hb dX9_atom_99 (by decide) ?_
            exact z_zret hx hb hr (by decide) hK hS (Nat.le_of_ble_eq_true rfl) (Nat.le_of_ble_eq_true rfl) hlocks dX9_atom_100 (shC c, ad, I, JX, PC c ad) hW ⟨I, rfl, ⟨(by show 0 ≤ (I 12 1).toInt ∧ (I 12 1).toInt ≤ 500; exact hR.1), (by show 0 ≤ (I 12 5).toInt ∧ (I 12 5).toInt ≤ 501; exact hR.2.1), (by show (-1) ≤ (I 12 6).toInt ∧ (I 12 6).toInt ≤ 1000000; exact hR.2.2.1), (by show 0 ≤ (I 12 9).toInt ∧ (I 12 9).toInt ≤ 500; exact hR.2.2.2.1), (by show 0 ≤ (I 12 13).toInt ∧ (I 12 13).toInt ≤ 24; exact hR.2.2.2.2)⟩, (by show (I 12 6).toInt ≤ 501 ∧ ((I 12 7).toInt = 401 ∨ (I 12 6).toInt ≤ 500); first | omega | decide), z_fr_0, Or.inr rfl⟩
    · have g31 := z_f_nlt rfl z_l314 c17
      refine lv_aload_n hx hb dX9_atom_20 rfl (lv_at hl 0 rfl) ?_
      refine z_get (T := TX9) (N := 14) (ci := 9) (i := 12) (v := .int (I 12 7)) hx hb hts zj_X9_atom_X9 hown hK hW rfl rfl 7 (by decide) (hts (.fieldLink RX9 62 "PetrolBoard$Reader" "token" "I") (me_s (me_l (me_l (List.mem_of_getElem? (i := 0) rfl))))) (fun _ h => h) rfl dX9_atom_21 ?_
      refine lv_sipush (v := 320) hx hb dX9_atom_24 (by decide) ?_
      refine lv_icmp_gt (tgt := 68) hx hb dX9_atom_27 (by decide) (fun c32 => ?_) (fun c32 => ?_)
      · have g33 := z_f_gt rfl z_l320 c32
        refine lv_aload_n hx hb dX9_atom_68 rfl (lv_at hl 0 rfl) ?_
        refine z_get (T := TX9) (N := 14) (ci := 9) (i := 12) (v := .int (I 12 7)) hx hb hts zj_X9_atom_X9 hown hK hW rfl rfl 7 (by decide) (hts (.fieldLink RX9 62 "PetrolBoard$Reader" "token" "I") (me_s (me_l (me_l (List.mem_of_getElem? (i := 0) rfl))))) (fun _ h => h) rfl dX9_atom_69 ?_
        refine lv_istore_n (lv' := [(2, .int (I 12 7)), (0, .ref (ad 12)), (1, .int 9)]) hx hb dX9_atom_72 rfl hl (by decide) rfl (fun ls hl => ?_)
        refine lv_iload_n hx hb dX9_atom_73 rfl (lv_at hl 0 rfl) ?_
        refine lv_bipush (v := 40) hx hb dX9_atom_74 (by decide) ?_
        refine lv_icmp_eq (tgt := 93) hx hb dX9_atom_76 (by decide) (fun c34 => (by have g := z_f_eq rfl z_l40 c34; omega)) (fun c34 => ?_)
        have g35 := z_f_ne rfl z_l40 c34
        refine lv_iload_n hx hb dX9_atom_79 rfl (lv_at hl 0 rfl) ?_
        refine lv_sipush (v := 312) hx hb dX9_atom_80 (by decide) ?_
        refine lv_icmp_eq (tgt := 93) hx hb dX9_atom_83 (by decide) (fun c36 => (by have g := z_f_eq rfl z_l312 c36; omega)) (fun c36 => ?_)
        have g37 := z_f_ne rfl z_l312 c36
        refine lv_iload_n hx hb dX9_atom_86 rfl (lv_at hl 0 rfl) ?_
        refine lv_sipush (v := 313) hx hb dX9_atom_87 (by decide) ?_
        refine lv_icmp_ne (tgt := 99) hx hb dX9_atom_90 (by decide) (fun c38 => ?_) (fun c38 => (by have g := z_f_eq rfl z_l313 c38; omega))
        have g39 := z_f_ne rfl z_l313 c38
        refine lv_iconst (v := 0) hx hb dX9_atom_99 (by decide) ?_
        exact z_zret hx hb hr (by decide) hK hS (Nat.le_of_ble_eq_true rfl) (Nat.le_of_ble_eq_true rfl) hlocks dX9_atom_100 (shC c, ad, I, JX, PC c ad) hW ⟨I, rfl, ⟨(by show 0 ≤ (I 12 1).toInt ∧ (I 12 1).toInt ≤ 500; exact hR.1), (by show 0 ≤ (I 12 5).toInt ∧ (I 12 5).toInt ≤ 501; exact hR.2.1), (by show (-1) ≤ (I 12 6).toInt ∧ (I 12 6).toInt ≤ 1000000; exact hR.2.2.1), (by show 0 ≤ (I 12 9).toInt ∧ (I 12 9).toInt ≤ 500; exact hR.2.2.2.1), (by show 0 ≤ (I 12 13).toInt ∧ (I 12 13).toInt ≤ 24; exact hR.2.2.2.2)⟩, (by show (I 12 6).toInt ≤ 501 ∧ ((I 12 7).toInt = 401 ∨ (I 12 6).toInt ≤ 500); first | omega | decide), z_fr_0, Or.inr rfl⟩
      · have g40 := z_f_ngt rfl z_l320 c32
        refine lv_aload_n hx hb dX9_atom_30 rfl (lv_at hl 0 rfl) ?_
        refine lv_aload_n hx hb dX9_atom_31 rfl (lv_at hl 0 rfl) ?_
        refine z_get (T := TX9) (N := 14) (ci := 9) (i := 12) (v := .int (I 12 7)) hx hb hts zj_X9_atom_X9 hown hK hW rfl rfl 7 (by decide) (hts (.fieldLink RX9 62 "PetrolBoard$Reader" "token" "I") (me_s (me_l (me_l (List.mem_of_getElem? (i := 0) rfl))))) (fun _ h => h) rfl dX9_atom_32 ?_
        refine lv_sipush (v := 400) hx hb dX9_atom_35 (by decide) ?_
        refine lv_icmp_ne (tgt := 48) hx hb dX9_atom_38 (by decide) (fun c41 => ?_) (fun c41 => (by have g := z_f_eq rfl z_l400 c41; omega))
        have g42 := z_f_ne rfl z_l400 c41
        refine lv_bipush (v := (-20)) hx hb dX9_atom_48 (by decide) ?_
        refine lv_aload_n hx hb dX9_atom_50 rfl (lv_at hl 0 rfl) ?_
        refine z_get (T := TX9) (N := 14) (ci := 9) (i := 12) (v := .int (I 12 7)) hx hb hts zj_X9_atom_X9 hown hK hW rfl rfl 7 (by decide) (hts (.fieldLink RX9 62 "PetrolBoard$Reader" "token" "I") (me_s (me_l (me_l (List.mem_of_getElem? (i := 0) rfl))))) (fun _ h => h) rfl dX9_atom_51 ?_
        refine lv_sipush (v := 314) hx hb dX9_atom_54 (by decide) ?_
        refine lv_isub hx hb dX9_atom_57 ?_
        refine lv_topi (fun x43 ex43 => ?_)
        have tx43 : x43.toInt = (I 12 7).toInt - 314 := z_tsub ex43 rfl z_l314 (by omega) (by omega)
        refine lv_isub hx hb dX9_atom_58 ?_
        refine lv_topi (fun x44 ex44 => ?_)
        have tx44 : x44.toInt = (-20) - x43.toInt := z_tsub ex44 z_lm20 rfl (by omega) (by omega)
        refine z_cv hW hS hA (va_runV (As := [.int x44]) (rest := []) ⟨hx, hb, hml, hown, hts⟩ (sx_X9_emit l G ad c I ⟨(by show 0 ≤ (I 12 1).toInt ∧ (I 12 1).toInt ≤ 500; exact hR.1), (by show 0 ≤ (I 12 5).toInt ∧ (I 12 5).toInt ≤ 501; exact hR.2.1), (by show (-1) ≤ (I 12 6).toInt ∧ (I 12 6).toInt ≤ 1000000; exact hR.2.2.1), (by show 0 ≤ (I 12 9).toInt ∧ (I 12 9).toInt ≤ 500; exact hR.2.2.2.1), (by show 0 ≤ (I 12 13).toInt ∧ (I 12 13).toInt ≤ 24; exact hR.2.2.2.2)⟩ x44 _) (cwV 1 hts gX9_atom_X9_emit rfl rfl rfl hy_X9_emit ⟨Nat.le_of_ble_eq_true rfl, Nat.le_of_ble_eq_true rfl⟩) (z_preV (i := 12) hK hW rfl rfl) rfl rfl hl.1 rfl (lv_room (Nat.le_of_ble_eq_true rfl)) dX9_atom_59 ⟨Nat.le_of_ble_eq_true rfl, Nat.le_of_ble_eq_true rfl⟩) (fun u1 H locs hp hW hS => ?_)
        obtain ⟨I45, e9, hI45R, fI45⟩ := hp
        rw [e9] at hW
        have f46 := z_fr_sub (L := L_X9_atom_9) z_fr_0 fI45 (by decide)
        have k47 : (I45 12 6).toInt ≤ 501 ∧ ((I45 12 7).toInt = 401 ∨ (I45 12 6).toInt ≤ 500) := (by have q0 : (I45 12 6) = (I 12 6) := (by rw [fI45 12 6 (by decide)]); have q1 : (I45 12 7) = (I 12 7) := (by rw [fI45 12 7 (by decide)]); show (I45 12 6).toInt ≤ 501 ∧ ((I45 12 7).toInt = 401 ∨ (I45 12 6).toInt ≤ 500); rw [q0, q1]; first | omega | decide)
        have k48 : (I45 12 6).toInt = (I 12 6).toInt := by rw [fI45 12 6 (by decide)]
        have k49 : (I45 12 7).toInt = (I 12 7).toInt := by rw [fI45 12 7 (by decide)]
        refine lv_aload_n hx hb dX9_atom_62 rfl (lv_at hl 0 rfl) ?_
        refine z_cv hW hS hA (va_runV (As := []) (rest := []) ⟨hx, hb, hml, hown, hts⟩ (sx_X9_step l G ad c I45 ⟨(by show 0 ≤ (I45 12 1).toInt ∧ (I45 12 1).toInt ≤ 500; exact hI45R.1), (by show 0 ≤ (I45 12 5).toInt ∧ (I45 12 5).toInt ≤ 501; exact hI45R.2.1), (by show (-1) ≤ (I45 12 6).toInt ∧ (I45 12 6).toInt ≤ 1000000; exact hI45R.2.2.1), (by show 0 ≤ (I45 12 9).toInt ∧ (I45 12 9).toInt ≤ 500; exact hI45R.2.2.2.1), (by show 0 ≤ (I45 12 13).toInt ∧ (I45 12 13).toInt ≤ 24; exact hI45R.2.2.2.2)⟩   (by show (I45 12 6).toInt ≤ 500; first | omega | decide) _) (cwV 0 hts gX9_atom_X9_step rfl rfl rfl hy_X9_step ⟨Nat.le_of_ble_eq_true rfl, Nat.le_of_ble_eq_true rfl⟩) (z_preV (i := 12) hK hW rfl rfl) rfl rfl hl.1 rfl (lv_room (Nat.le_of_ble_eq_true rfl)) dX9_atom_63 ⟨Nat.le_of_ble_eq_true rfl, Nat.le_of_ble_eq_true rfl⟩) (fun u1 H locs hp hW hS => ?_)
        obtain ⟨I50, e9, hI50R, hI50T, fI50⟩ := hp
        rw [e9] at hW
        have f51 := z_fr_sub (L := L_X9_atom_9) f46 fI50 (by decide)
        have k52 : (I50 12 6).toInt ≤ 501 ∧ ((I50 12 7).toInt = 401 ∨ (I50 12 6).toInt ≤ 500) := hI50T
        refine lv_iconst (v := 1) hx hb dX9_atom_66 (by decide) ?_
        exact z_zret hx hb hr (by decide) hK hS (Nat.le_of_ble_eq_true rfl) (Nat.le_of_ble_eq_true rfl) hlocks dX9_atom_67 (shC c, ad, I50, JX, PC c ad) hW ⟨I50, rfl, ⟨(by show 0 ≤ (I50 12 1).toInt ∧ (I50 12 1).toInt ≤ 500; exact hI50R.1), (by show 0 ≤ (I50 12 5).toInt ∧ (I50 12 5).toInt ≤ 501; exact hI50R.2.1), (by show (-1) ≤ (I50 12 6).toInt ∧ (I50 12 6).toInt ≤ 1000000; exact hI50R.2.2.1), (by show 0 ≤ (I50 12 9).toInt ∧ (I50 12 9).toInt ≤ 500; exact hI50R.2.2.2.1), (by show 0 ≤ (I50 12 13).toInt ∧ (I50 12 13).toInt ≤ 24; exact hI50R.2.2.2.2)⟩, (by show (I50 12 6).toInt ≤ 501 ∧ ((I50 12 7).toInt = 401 ∨ (I50 12 6).toInt ≤ 500); first | omega | decide), f51, Or.inl rfl⟩
noncomputable def L_X9_product_9 : z_L := [(12, 6), (12, 7), (17, 999), (12, 9)]
theorem zj_X9_product_X9 : ∀ w ∈ wsX90, w ∈ wsX9_product := fun w h => (List.mem_cons_of_mem _ (List.mem_append_right _ h))
set_option maxHeartbeats 8000000 in
set_option maxRecDepth 100000 in
theorem sx_X9_product_9 (l : Launch) (G : z_G) (ad : Nat → Nat) (c : z_C) (I : z_I) (hR : z_iR I) (hT : z_iT I) : z_M l yX9_product wsX9_product { frames := 4, cells := 0, slots := 0, locals := 75 } [.ref (ad 12), .int 9] G (shC c, ad, I, JX, PC c ad) (fun r u1 => ∃ I1 : z_I, u1 = (shC c, ad, I1, JX, PC c ad) ∧ z_iR I1 ∧ z_iT I1 ∧ z_fr L_X9_product_9 I1 I ∧ (r = 1 ∨ r = 0)) 0 0 := by
  intro sz
  refine z_headQ (cc := cX9_product) (maxL := 4) (ret := (some .boolean)) (by decide) rfl (Nat.le_of_ble_eq_true rfl) ?_
  intro p e s m below meth c0 ls hIn hK hsz hW hl
  obtain ⟨hx, hb, hr, hml, hown, hts, hlocks, hname⟩ := hIn
  subst hsz
  have hown : s.vm.findClass RX9 = some m.cls := hown
  have hA : ∀ q : Nat, s.heap.size ≤ q → z_A (shC c, ad, I, JX, PC c ad) s.heap.size q := fun q h => Or.inr h
  generalize hAe : z_A (shC c, ad, I, JX, PC c ad) s.heap.size = A at *
  have hS : va_S A s.heap s.heap [] := va_S.rf
  have hl : lv_has ls 4 [(0, .ref (ad 12)), (1, .int 9)] := hl
  have kT : (I 12 6).toInt ≤ 501 ∧ ((I 12 7).toInt = 401 ∨ (I 12 6).toInt ≤ 500) := hT
  refine lv_aload_n hx hb dX9_product_0 rfl (lv_at hl 0 rfl) ?_
  refine lv_iload_n hx hb dX9_product_1 rfl (lv_at hl 1 rfl) ?_
  refine z_ci hW hS hA (va_runV (As := [.int 9]) (rest := []) ⟨hx, hb, hml, hown, hts⟩ (sx_X9_atom_9 l G ad c I ⟨(by show 0 ≤ (I 12 1).toInt ∧ (I 12 1).toInt ≤ 500; exact hR.1), (by show 0 ≤ (I 12 5).toInt ∧ (I 12 5).toInt ≤ 501; exact hR.2.1), (by show (-1) ≤ (I 12 6).toInt ∧ (I 12 6).toInt ≤ 1000000; exact hR.2.2.1), (by show 0 ≤ (I 12 9).toInt ∧ (I 12 9).toInt ≤ 500; exact hR.2.2.2.1), (by show 0 ≤ (I 12 13).toInt ∧ (I 12 13).toInt ≤ 24; exact hR.2.2.2.2)⟩ (by show (I 12 6).toInt ≤ 501 ∧ ((I 12 7).toInt = 401 ∨ (I 12 6).toInt ≤ 500); first | omega | decide) _) (cwV 1 hts gX9_product_X9_atom rfl rfl rfl hy_X9_atom ⟨Nat.le_of_ble_eq_true rfl, Nat.le_of_ble_eq_true rfl⟩) (z_preV (i := 12) hK hW rfl rfl) rfl rfl hl.1 rfl (lv_room (Nat.le_of_ble_eq_true rfl)) dX9_product_2 ⟨Nat.le_of_ble_eq_true rfl, Nat.le_of_ble_eq_true rfl⟩) (fun r u1 H locs hp hW hS => ?_)
  obtain ⟨I1, e9, hI1R, hI1T, fI1, hp⟩ := hp
  rw [e9] at hW
  have f2 := z_fr_sub (L := L_X9_product_9) z_fr_0 fI1 (by decide)
  have k3 : (I1 12 6).toInt ≤ 501 ∧ ((I1 12 7).toInt = 401 ∨ (I1 12 6).toInt ≤ 500) := hI1T
  rcases hp with rfl | rfl
  · refine lv_if_ne (tgt := 10) hx hb dX9_product_5 (by decide) (fun c4 => ?_) (fun c4 => absurd c4 (by decide))
    refine lv_iconst (v := 0) hx hb dX9_product_10 (by decide) ?_
    refine lv_istore_n (lv' := [(2, .int 0), (0, .ref (ad 12)), (1, .int 9)]) hx hb dX9_product_11 rfl hl (by decide) rfl (fun ls hl => ?_)
    have lp5 : ∀ (f : Nat) (y6 : Int32) (I7 : z_I) (H : Heap) (locs : List Loc) (ls : Array Slot), (2147483647 < y6.toInt + (f : Int)) → (0 ≤ y6.toInt) → (z_iR I7) → (z_iT I7) → (z_fr L_X9_product_9 I7 I) → z_W G A (shC c, ad, I7, JX, PC c ad) H → va_S A s.heap H locs → lv_has ls 4 [(2, .int y6), (0, .ref (ad 12)), (1, .int 9)] → W p l e (headSpec wsX9_product { frames := 4, cells := 0, slots := 0, locals := 75 }).room s m ([.ref (ad 12), .int 9] : List Value).toArray below meth c0 H locs 0 0 (MQ below (va_Qi (fun (r : Int32) (u1 : z_U) => ∃ I1 : z_I, u1 = (shC c, ad, I1, JX, PC c ad) ∧ z_iR I1 ∧ z_iT I1 ∧ z_fr L_X9_product_9 I1 I ∧ (r = 1 ∨ r = 0)) (z_B G A) A) ([.ref (ad 12), .int 9] : List Value).toArray s 0 0 A) (F0 m 12 ls []) := by
      intro f
      induction f with
      | zero => intro y6 I7  H locs ls lp5m lp5l2 lp5R lp5T lp5fr hW hS hl; exact absurd lp5m (by have := Int32.toInt_lt y6; have := Int32.le_toInt y6; omega)
      | succ f lp5ih =>
        intro y6 I7  H locs ls lp5m lp5l2 lp5R lp5T lp5fr hW hS hl
        have k8 : (I7 12 6).toInt ≤ 501 ∧ ((I7 12 7).toInt = 401 ∨ (I7 12 6).toInt ≤ 500) := lp5T
        refine lv_iload_n hx hb dX9_product_12 rfl (lv_at hl 0 rfl) ?_
        refine lv_sipush (v := 500) hx hb dX9_product_13 (by decide) ?_
        refine lv_icmp_ge (tgt := 79) hx hb dX9_product_16 (by decide) (fun c9 => ?_) (fun c9 => ?_)
        · have g10 := z_f_ge rfl z_l500 c9
          have b11 := Int32.toInt_lt y6
          refine lv_iconst (v := 1) hx hb dX9_product_79 (by decide) ?_
          exact z_zret hx hb hr (by decide) hK hS (Nat.le_of_ble_eq_true rfl) (Nat.le_of_ble_eq_true rfl) hlocks dX9_product_80 (shC c, ad, I7, JX, PC c ad) hW ⟨I7, rfl, ⟨(by show 0 ≤ (I7 12 1).toInt ∧ (I7 12 1).toInt ≤ 500; exact lp5R.1), (by show 0 ≤ (I7 12 5).toInt ∧ (I7 12 5).toInt ≤ 501; exact lp5R.2.1), (by show (-1) ≤ (I7 12 6).toInt ∧ (I7 12 6).toInt ≤ 1000000; exact lp5R.2.2.1), (by show 0 ≤ (I7 12 9).toInt ∧ (I7 12 9).toInt ≤ 500; exact lp5R.2.2.2.1), (by show 0 ≤ (I7 12 13).toInt ∧ (I7 12 13).toInt ≤ 24; exact lp5R.2.2.2.2)⟩, (by show (I7 12 6).toInt ≤ 501 ∧ ((I7 12 7).toInt = 401 ∨ (I7 12 6).toInt ≤ 500); first | omega | decide), lp5fr, Or.inl rfl⟩
        · have g12 := z_f_nge rfl z_l500 c9
          have b13 := Int32.toInt_lt y6
          refine lv_aload_n hx hb dX9_product_19 rfl (lv_at hl 1 rfl) ?_
          refine z_get (T := TX9) (N := 14) (ci := 9) (i := 12) (v := .int (I7 12 7)) hx hb hts zj_X9_product_X9 hown hK hW rfl rfl 7 (by decide) (hts (.fieldLink RX9 62 "PetrolBoard$Reader" "token" "I") (me_s (me_l (me_l (List.mem_of_getElem? (i := 0) rfl))))) (fun _ h => h) rfl dX9_product_20 ?_
          refine lv_bipush (v := 42) hx hb dX9_product_23 (by decide) ?_
          refine lv_icmp_eq (tgt := 37) hx hb dX9_product_25 (by decide) (fun c14 => ?_) (fun c14 => ?_)
          · have g15 := z_f_eq rfl z_l42 c14
            have b16 := Int32.toInt_lt (I7 12 7)
            refine lv_aload_n hx hb dX9_product_37 rfl (lv_at hl 1 rfl) ?_
            refine z_get (T := TX9) (N := 14) (ci := 9) (i := 12) (v := .int (I7 12 7)) hx hb hts zj_X9_product_X9 hown hK hW rfl rfl 7 (by decide) (hts (.fieldLink RX9 62 "PetrolBoard$Reader" "token" "I") (me_s (me_l (me_l (List.mem_of_getElem? (i := 0) rfl))))) (fun _ h => h) rfl dX9_product_38 ?_
            refine lv_istore_n (lv' := [(3, .int (I7 12 7)), (2, .int y6), (0, .ref (ad 12)), (1, .int 9)]) hx hb dX9_product_41 rfl hl (by decide) rfl (fun ls hl => ?_)
            refine lv_aload_n hx hb dX9_product_42 rfl (lv_at hl 2 rfl) ?_
            refine z_cv hW hS hA (va_runV (As := []) (rest := []) ⟨hx, hb, hml, hown, hts⟩ (sx_X9_step l G ad c I7 ⟨(by show 0 ≤ (I7 12 1).toInt ∧ (I7 12 1).toInt ≤ 500; exact lp5R.1), (by show 0 ≤ (I7 12 5).toInt ∧ (I7 12 5).toInt ≤ 501; exact lp5R.2.1), (by show (-1) ≤ (I7 12 6).toInt ∧ (I7 12 6).toInt ≤ 1000000; exact lp5R.2.2.1), (by show 0 ≤ (I7 12 9).toInt ∧ (I7 12 9).toInt ≤ 500; exact lp5R.2.2.2.1), (by show 0 ≤ (I7 12 13).toInt ∧ (I7 12 13).toInt ≤ 24; exact lp5R.2.2.2.2)⟩   (by show (I7 12 6).toInt ≤ 500; first | omega | decide) _) (cwV 0 hts gX9_product_X9_step rfl rfl rfl hy_X9_step ⟨Nat.le_of_ble_eq_true rfl, Nat.le_of_ble_eq_true rfl⟩) (z_preV (i := 12) hK hW rfl rfl) rfl rfl hl.1 rfl (lv_room (Nat.le_of_ble_eq_true rfl)) dX9_product_43 ⟨Nat.le_of_ble_eq_true rfl, Nat.le_of_ble_eq_true rfl⟩) (fun u1 H locs hp hW hS => ?_)
            obtain ⟨I17, e9, hI17R, hI17T, fI17⟩ := hp
            rw [e9] at hW
            have f18 := z_fr_sub (L := L_X9_product_9) lp5fr fI17 (by decide)
            have k19 : (I17 12 6).toInt ≤ 501 ∧ ((I17 12 7).toInt = 401 ∨ (I17 12 6).toInt ≤ 500) := hI17T
            refine lv_aload_n hx hb dX9_product_46 rfl (lv_at hl 2 rfl) ?_
            refine lv_iload_n hx hb dX9_product_47 rfl (lv_at hl 3 rfl) ?_
            refine z_ci hW hS hA (va_runV (As := [.int 9]) (rest := []) ⟨hx, hb, hml, hown, hts⟩ (sx_X9_atom_9 l G ad c I17 ⟨(by show 0 ≤ (I17 12 1).toInt ∧ (I17 12 1).toInt ≤ 500; exact hI17R.1), (by show 0 ≤ (I17 12 5).toInt ∧ (I17 12 5).toInt ≤ 501; exact hI17R.2.1), (by show (-1) ≤ (I17 12 6).toInt ∧ (I17 12 6).toInt ≤ 1000000; exact hI17R.2.2.1), (by show 0 ≤ (I17 12 9).toInt ∧ (I17 12 9).toInt ≤ 500; exact hI17R.2.2.2.1), (by show 0 ≤ (I17 12 13).toInt ∧ (I17 12 13).toInt ≤ 24; exact hI17R.2.2.2.2)⟩ (by show (I17 12 6).toInt ≤ 501 ∧ ((I17 12 7).toInt = 401 ∨ (I17 12 6).toInt ≤ 500); first | omega | decide) _) (cwV 1 hts gX9_product_X9_atom rfl rfl rfl hy_X9_atom ⟨Nat.le_of_ble_eq_true rfl, Nat.le_of_ble_eq_true rfl⟩) (z_preV (i := 12) hK hW rfl rfl) rfl rfl hl.1 rfl (lv_room (Nat.le_of_ble_eq_true rfl)) dX9_product_48 ⟨Nat.le_of_ble_eq_true rfl, Nat.le_of_ble_eq_true rfl⟩) (fun r u1 H locs hp hW hS => ?_)
            obtain ⟨I20, e9, hI20R, hI20T, fI20, hp⟩ := hp
            rw [e9] at hW
            have f21 := z_fr_sub (L := L_X9_product_9) f18 fI20 (by decide)
            have k22 : (I20 12 6).toInt ≤ 501 ∧ ((I20 12 7).toInt = 401 ∨ (I20 12 6).toInt ≤ 500) := hI20T
            rcases hp with rfl | rfl
            · refine lv_if_ne (tgt := 56) hx hb dX9_product_51 (by decide) (fun c23 => ?_) (fun c23 => absurd c23 (by decide))
              refine lv_aload_n hx hb dX9_product_56 rfl (lv_at hl 2 rfl) ?_
              refine lv_iload_n hx hb dX9_product_57 rfl (lv_at hl 0 rfl) ?_
              refine lv_bipush (v := 42) hx hb dX9_product_58 (by decide) ?_
              refine lv_icmp_ne (tgt := 68) hx hb dX9_product_60 (by decide) (fun c24 => (by have g := z_f_ne rfl z_l42 c24; omega)) (fun c24 => ?_)
              have g25 := z_f_eq rfl z_l42 c24
              refine lv_bipush (v := (-3)) hx hb dX9_product_63 (by decide) ?_
              refine lv_goto (tgt := 70) hx hb dX9_product_65 (by decide) ?_
              refine z_cv hW hS hA (va_runV (As := [.int (-3)]) (rest := []) ⟨hx, hb, hml, hown, hts⟩ (sx_X9_emit l G ad c I20 ⟨(by show 0 ≤ (I20 12 1).toInt ∧ (I20 12 1).toInt ≤ 500; exact hI20R.1), (by show 0 ≤ (I20 12 5).toInt ∧ (I20 12 5).toInt ≤ 501; exact hI20R.2.1), (by show (-1) ≤ (I20 12 6).toInt ∧ (I20 12 6).toInt ≤ 1000000; exact hI20R.2.2.1), (by show 0 ≤ (I20 12 9).toInt ∧ (I20 12 9).toInt ≤ 500; exact hI20R.2.2.2.1), (by show 0 ≤ (I20 12 13).toInt ∧ (I20 12 13).toInt ≤ 24; exact hI20R.2.2.2.2)⟩ (-3) _) (cwV 1 hts gX9_product_X9_emit rfl rfl rfl hy_X9_emit ⟨Nat.le_of_ble_eq_true rfl, Nat.le_of_ble_eq_true rfl⟩) (z_preV (i := 12) hK hW rfl rfl) rfl rfl hl.1 rfl (lv_room (Nat.le_of_ble_eq_true rfl)) dX9_product_70 ⟨Nat.le_of_ble_eq_true rfl, Nat.le_of_ble_eq_true rfl⟩) (fun u1 H locs hp hW hS => ?_)
              obtain ⟨I26, e9, hI26R, fI26⟩ := hp
              rw [e9] at hW
              have f27 := z_fr_sub (L := L_X9_product_9) f21 fI26 (by decide)
              have k28 : (I26 12 6).toInt ≤ 501 ∧ ((I26 12 7).toInt = 401 ∨ (I26 12 6).toInt ≤ 500) := (by have q0 : (I26 12 6) = (I20 12 6) := (by rw [fI26 12 6 (by decide)]); have q1 : (I26 12 7) = (I20 12 7) := (by rw [fI26 12 7 (by decide)]); show (I26 12 6).toInt ≤ 501 ∧ ((I26 12 7).toInt = 401 ∨ (I26 12 6).toInt ≤ 500); rw [q0, q1]; first | omega | decide)
              have k29 : (I26 12 6).toInt = (I20 12 6).toInt := by rw [fI26 12 6 (by decide)]
              have k30 : (I26 12 7).toInt = (I20 12 7).toInt := by rw [fI26 12 7 (by decide)]
              obtain ⟨x31, ex31⟩ : ∃ y : Int32, y = y6 + 1 := ⟨_, rfl⟩
              have tx31 : x31.toInt = y6.toInt + 1 := z_tadd ex31 rfl z_l1 (by omega) (by omega)
              refine lv_iinc (v := x31) (lv' := [(2, .int x31), (3, .int (I7 12 7)), (0, .ref (ad 12)), (1, .int 9)]) hx hb dX9_product_73 hl (k := 1) rfl (by rw [ex31]; rfl) (by decide) rfl (fun ls hl => ?_)
              refine lv_goto (tgt := 12) hx hb dX9_product_76 (by decide) ?_
              exact lp5ih x31 I26  _ _ _ (by omega) (by omega) ⟨(by show 0 ≤ (I26 12 1).toInt ∧ (I26 12 1).toInt ≤ 500; exact hI26R.1), (by show 0 ≤ (I26 12 5).toInt ∧ (I26 12 5).toInt ≤ 501; exact hI26R.2.1), (by show (-1) ≤ (I26 12 6).toInt ∧ (I26 12 6).toInt ≤ 1000000; exact hI26R.2.2.1), (by show 0 ≤ (I26 12 9).toInt ∧ (I26 12 9).toInt ≤ 500; exact hI26R.2.2.2.1), (by show 0 ≤ (I26 12 13).toInt ∧ (I26 12 13).toInt ≤ 24; exact hI26R.2.2.2.2)⟩ (by show (I26 12 6).toInt ≤ 501 ∧ ((I26 12 7).toInt = 401 ∨ (I26 12 6).toInt ≤ 500); first | omega | decide) f27 hW hS (lv_sub hl [0, 2, 3] rfl)
            · refine lv_if_ne (tgt := 56) hx hb dX9_product_51 (by decide) (fun c32 => absurd (by decide) c32) (fun c32 => ?_)
              refine lv_iconst (v := 0) hx hb dX9_product_54 (by decide) ?_
              exact z_zret hx hb hr (by decide) hK hS (Nat.le_of_ble_eq_true rfl) (Nat.le_of_ble_eq_true rfl) hlocks dX9_product_55 (shC c, ad, I20, JX, PC c ad) hW ⟨I20, rfl, ⟨(by show 0 ≤ (I20 12 1).toInt ∧ (I20 12 1).toInt ≤ 500; exact hI20R.1), (by show 0 ≤ (I20 12 5).toInt ∧ (I20 12 5).toInt ≤ 501; exact hI20R.2.1), (by show (-1) ≤ (I20 12 6).toInt ∧ (I20 12 6).toInt ≤ 1000000; exact hI20R.2.2.1), (by show 0 ≤ (I20 12 9).toInt ∧ (I20 12 9).toInt ≤ 500; exact hI20R.2.2.2.1), (by show 0 ≤ (I20 12 13).toInt ∧ (I20 12 13).toInt ≤ 24; exact hI20R.2.2.2.2)⟩, (by show (I20 12 6).toInt ≤ 501 ∧ ((I20 12 7).toInt = 401 ∨ (I20 12 6).toInt ≤ 500); first | omega | decide), f21, Or.inr rfl⟩
          · have g33 := z_f_ne rfl z_l42 c14
            have b34 := Int32.toInt_lt (I7 12 7)
            refine lv_aload_n hx hb dX9_product_28 rfl (lv_at hl 1 rfl) ?_
            refine z_get (T := TX9) (N := 14) (ci := 9) (i := 12) (v := .int (I7 12 7)) hx hb hts zj_X9_product_X9 hown hK hW rfl rfl 7 (by decide) (hts (.fieldLink RX9 62 "PetrolBoard$Reader" "token" "I") (me_s (me_l (me_l (List.mem_of_getElem? (i := 0) rfl))))) (fun _ h => h) rfl dX9_product_29 ?_
            refine lv_bipush (v := 47) hx hb dX9_product_32 (by decide) ?_
            refine lv_icmp_ne (tgt := 79) hx hb dX9_product_34 (by decide) (fun c35 => ?_) (fun c35 => ?_)
            · have g36 := z_f_ne rfl z_l47 c35
              refine lv_iconst (v := 1) hx hb dX9_product_79 (by decide) ?_
              exact z_zret hx hb hr (by decide) hK hS (Nat.le_of_ble_eq_true rfl) (Nat.le_of_ble_eq_true rfl) hlocks dX9_product_80 (shC c, ad, I7, JX, PC c ad) hW ⟨I7, rfl, ⟨(by show 0 ≤ (I7 12 1).toInt ∧ (I7 12 1).toInt ≤ 500; exact lp5R.1), (by show 0 ≤ (I7 12 5).toInt ∧ (I7 12 5).toInt ≤ 501; exact lp5R.2.1), (by show (-1) ≤ (I7 12 6).toInt ∧ (I7 12 6).toInt ≤ 1000000; exact lp5R.2.2.1), (by show 0 ≤ (I7 12 9).toInt ∧ (I7 12 9).toInt ≤ 500; exact lp5R.2.2.2.1), (by show 0 ≤ (I7 12 13).toInt ∧ (I7 12 13).toInt ≤ 24; exact lp5R.2.2.2.2)⟩, (by show (I7 12 6).toInt ≤ 501 ∧ ((I7 12 7).toInt = 401 ∨ (I7 12 6).toInt ≤ 500); first | omega | decide), lp5fr, Or.inl rfl⟩
            · have g37 := z_f_eq rfl z_l47 c35
              refine lv_aload_n hx hb dX9_product_37 rfl (lv_at hl 1 rfl) ?_
              refine z_get (T := TX9) (N := 14) (ci := 9) (i := 12) (v := .int (I7 12 7)) hx hb hts zj_X9_product_X9 hown hK hW rfl rfl 7 (by decide) (hts (.fieldLink RX9 62 "PetrolBoard$Reader" "token" "I") (me_s (me_l (me_l (List.mem_of_getElem? (i := 0) rfl))))) (fun _ h => h) rfl dX9_product_38 ?_
              refine lv_istore_n (lv' := [(3, .int (I7 12 7)), (2, .int y6), (0, .ref (ad 12)), (1, .int 9)]) hx hb dX9_product_41 rfl hl (by decide) rfl (fun ls hl => ?_)
              refine lv_aload_n hx hb dX9_product_42 rfl (lv_at hl 2 rfl) ?_
              refine z_cv hW hS hA (va_runV (As := []) (rest := []) ⟨hx, hb, hml, hown, hts⟩ (sx_X9_step l G ad c I7 ⟨(by show 0 ≤ (I7 12 1).toInt ∧ (I7 12 1).toInt ≤ 500; exact lp5R.1), (by show 0 ≤ (I7 12 5).toInt ∧ (I7 12 5).toInt ≤ 501; exact lp5R.2.1), (by show (-1) ≤ (I7 12 6).toInt ∧ (I7 12 6).toInt ≤ 1000000; exact lp5R.2.2.1), (by show 0 ≤ (I7 12 9).toInt ∧ (I7 12 9).toInt ≤ 500; exact lp5R.2.2.2.1), (by show 0 ≤ (I7 12 13).toInt ∧ (I7 12 13).toInt ≤ 24; exact lp5R.2.2.2.2)⟩   (by show (I7 12 6).toInt ≤ 500; first | omega | decide) _) (cwV 0 hts gX9_product_X9_step rfl rfl rfl hy_X9_step ⟨Nat.le_of_ble_eq_true rfl, Nat.le_of_ble_eq_true rfl⟩) (z_preV (i := 12) hK hW rfl rfl) rfl rfl hl.1 rfl (lv_room (Nat.le_of_ble_eq_true rfl)) dX9_product_43 ⟨Nat.le_of_ble_eq_true rfl, Nat.le_of_ble_eq_true rfl⟩) (fun u1 H locs hp hW hS => ?_)
              obtain ⟨I38, e9, hI38R, hI38T, fI38⟩ := hp
              rw [e9] at hW
              have f39 := z_fr_sub (L := L_X9_product_9) lp5fr fI38 (by decide)
              have k40 : (I38 12 6).toInt ≤ 501 ∧ ((I38 12 7).toInt = 401 ∨ (I38 12 6).toInt ≤ 500) := hI38T
              refine lv_aload_n hx hb dX9_product_46 rfl (lv_at hl 2 rfl) ?_
              refine lv_iload_n hx hb dX9_product_47 rfl (lv_at hl 3 rfl) ?_
              refine z_ci hW hS hA (va_runV (As := [.int 9]) (rest := []) ⟨hx, hb, hml, hown, hts⟩ (sx_X9_atom_9 l G ad c I38 ⟨(by show 0 ≤ (I38 12 1).toInt ∧ (I38 12 1).toInt ≤ 500; exact hI38R.1), (by show 0 ≤ (I38 12 5).toInt ∧ (I38 12 5).toInt ≤ 501; exact hI38R.2.1), (by show (-1) ≤ (I38 12 6).toInt ∧ (I38 12 6).toInt ≤ 1000000; exact hI38R.2.2.1), (by show 0 ≤ (I38 12 9).toInt ∧ (I38 12 9).toInt ≤ 500; exact hI38R.2.2.2.1), (by show 0 ≤ (I38 12 13).toInt ∧ (I38 12 13).toInt ≤ 24; exact hI38R.2.2.2.2)⟩ (by show (I38 12 6).toInt ≤ 501 ∧ ((I38 12 7).toInt = 401 ∨ (I38 12 6).toInt ≤ 500); first | omega | decide) _) (cwV 1 hts gX9_product_X9_atom rfl rfl rfl hy_X9_atom ⟨Nat.le_of_ble_eq_true rfl, Nat.le_of_ble_eq_true rfl⟩) (z_preV (i := 12) hK hW rfl rfl) rfl rfl hl.1 rfl (lv_room (Nat.le_of_ble_eq_true rfl)) dX9_product_48 ⟨Nat.le_of_ble_eq_true rfl, Nat.le_of_ble_eq_true rfl⟩) (fun r u1 H locs hp hW hS => ?_)
              obtain ⟨I41, e9, hI41R, hI41T, fI41, hp⟩ := hp
              rw [e9] at hW
              have f42 := z_fr_sub (L := L_X9_product_9) f39 fI41 (by decide)
              have k43 : (I41 12 6).toInt ≤ 501 ∧ ((I41 12 7).toInt = 401 ∨ (I41 12 6).toInt ≤ 500) := hI41T
              rcases hp with rfl | rfl
              · refine lv_if_ne (tgt := 56) hx hb dX9_product_51 (by decide) (fun c44 => ?_) (fun c44 => absurd c44 (by decide))
                refine lv_aload_n hx hb dX9_product_56 rfl (lv_at hl 2 rfl) ?_
                refine lv_iload_n hx hb dX9_product_57 rfl (lv_at hl 0 rfl) ?_
                refine lv_bipush (v := 42) hx hb dX9_product_58 (by decide) ?_
                refine lv_icmp_ne (tgt := 68) hx hb dX9_product_60 (by decide) (fun c45 => ?_) (fun c45 => (by have g := z_f_eq rfl z_l42 c45; omega))
                have g46 := z_f_ne rfl z_l42 c45
                refine lv_bipush (v := (-4)) hx hb dX9_product_68 (by decide) ?_
                refine z_cv hW hS hA (va_runV (As := [.int (-4)]) (rest := []) ⟨hx, hb, hml, hown, hts⟩ (sx_X9_emit l G ad c I41 ⟨(by show 0 ≤ (I41 12 1).toInt ∧ (I41 12 1).toInt ≤ 500; exact hI41R.1), (by show 0 ≤ (I41 12 5).toInt ∧ (I41 12 5).toInt ≤ 501; exact hI41R.2.1), (by show (-1) ≤ (I41 12 6).toInt ∧ (I41 12 6).toInt ≤ 1000000; exact hI41R.2.2.1), (by show 0 ≤ (I41 12 9).toInt ∧ (I41 12 9).toInt ≤ 500; exact hI41R.2.2.2.1), (by show 0 ≤ (I41 12 13).toInt ∧ (I41 12 13).toInt ≤ 24; exact hI41R.2.2.2.2)⟩ (-4) _) (cwV 1 hts gX9_product_X9_emit rfl rfl rfl hy_X9_emit ⟨Nat.le_of_ble_eq_true rfl, Nat.le_of_ble_eq_true rfl⟩) (z_preV (i := 12) hK hW rfl rfl) rfl rfl hl.1 rfl (lv_room (Nat.le_of_ble_eq_true rfl)) dX9_product_70 ⟨Nat.le_of_ble_eq_true rfl, Nat.le_of_ble_eq_true rfl⟩) (fun u1 H locs hp hW hS => ?_)
                obtain ⟨I47, e9, hI47R, fI47⟩ := hp
                rw [e9] at hW
                have f48 := z_fr_sub (L := L_X9_product_9) f42 fI47 (by decide)
                have k49 : (I47 12 6).toInt ≤ 501 ∧ ((I47 12 7).toInt = 401 ∨ (I47 12 6).toInt ≤ 500) := (by have q0 : (I47 12 6) = (I41 12 6) := (by rw [fI47 12 6 (by decide)]); have q1 : (I47 12 7) = (I41 12 7) := (by rw [fI47 12 7 (by decide)]); show (I47 12 6).toInt ≤ 501 ∧ ((I47 12 7).toInt = 401 ∨ (I47 12 6).toInt ≤ 500); rw [q0, q1]; first | omega | decide)
                have k50 : (I47 12 6).toInt = (I41 12 6).toInt := by rw [fI47 12 6 (by decide)]
                have k51 : (I47 12 7).toInt = (I41 12 7).toInt := by rw [fI47 12 7 (by decide)]
                obtain ⟨x52, ex52⟩ : ∃ y : Int32, y = y6 + 1 := ⟨_, rfl⟩
                have tx52 : x52.toInt = y6.toInt + 1 := z_tadd ex52 rfl z_l1 (by omega) (by omega)
                refine lv_iinc (v := x52) (lv' := [(2, .int x52), (3, .int (I7 12 7)), (0, .ref (ad 12)), (1, .int 9)]) hx hb dX9_product_73 hl (k := 1) rfl (by rw [ex52]; rfl) (by decide) rfl (fun ls hl => ?_)
                refine lv_goto (tgt := 12) hx hb dX9_product_76 (by decide) ?_
                exact lp5ih x52 I47  _ _ _ (by omega) (by omega) ⟨(by show 0 ≤ (I47 12 1).toInt ∧ (I47 12 1).toInt ≤ 500; exact hI47R.1), (by show 0 ≤ (I47 12 5).toInt ∧ (I47 12 5).toInt ≤ 501; exact hI47R.2.1), (by show (-1) ≤ (I47 12 6).toInt ∧ (I47 12 6).toInt ≤ 1000000; exact hI47R.2.2.1), (by show 0 ≤ (I47 12 9).toInt ∧ (I47 12 9).toInt ≤ 500; exact hI47R.2.2.2.1), (by show 0 ≤ (I47 12 13).toInt ∧ (I47 12 13).toInt ≤ 24; exact hI47R.2.2.2.2)⟩ (by show (I47 12 6).toInt ≤ 501 ∧ ((I47 12 7).toInt = 401 ∨ (I47 12 6).toInt ≤ 500); first | omega | decide) f48 hW hS (lv_sub hl [0, 2, 3] rfl)
              · refine lv_if_ne (tgt := 56) hx hb dX9_product_51 (by decide) (fun c53 => absurd (by decide) c53) (fun c53 => ?_)
                refine lv_iconst (v := 0) hx hb dX9_product_54 (by decide) ?_
                exact z_zret hx hb hr (by decide) hK hS (Nat.le_of_ble_eq_true rfl) (Nat.le_of_ble_eq_true rfl) hlocks dX9_product_55 (shC c, ad, I41, JX, PC c ad) hW ⟨I41, rfl, ⟨(by show 0 ≤ (I41 12 1).toInt ∧ (I41 12 1).toInt ≤ 500; exact hI41R.1), (by show 0 ≤ (I41 12 5).toInt ∧ (I41 12 5).toInt ≤ 501; exact hI41R.2.1), (by show (-1) ≤ (I41 12 6).toInt ∧ (I41 12 6).toInt ≤ 1000000; exact hI41R.2.2.1), (by show 0 ≤ (I41 12 9).toInt ∧ (I41 12 9).toInt ≤ 500; exact hI41R.2.2.2.1), (by show 0 ≤ (I41 12 13).toInt ∧ (I41 12 13).toInt ≤ 24; exact hI41R.2.2.2.2)⟩, (by show (I41 12 6).toInt ≤ 501 ∧ ((I41 12 7).toInt = 401 ∨ (I41 12 6).toInt ≤ 500); first | omega | decide), f42, Or.inr rfl⟩
    exact lp5 4294967296 (0) I1  _ _ _ (z_m0u _) (by rw [z_l0]; omega) ⟨(by show 0 ≤ (I1 12 1).toInt ∧ (I1 12 1).toInt ≤ 500; exact hI1R.1), (by show 0 ≤ (I1 12 5).toInt ∧ (I1 12 5).toInt ≤ 501; exact hI1R.2.1), (by show (-1) ≤ (I1 12 6).toInt ∧ (I1 12 6).toInt ≤ 1000000; exact hI1R.2.2.1), (by show 0 ≤ (I1 12 9).toInt ∧ (I1 12 9).toInt ≤ 500; exact hI1R.2.2.2.1), (by show 0 ≤ (I1 12 13).toInt ∧ (I1 12 13).toInt ≤ 24; exact hI1R.2.2.2.2)⟩ (by show (I1 12 6).toInt ≤ 501 ∧ ((I1 12 7).toInt = 401 ∨ (I1 12 6).toInt ≤ 500); first | omega | decide) f2 hW hS (lv_sub hl [0, 1, 2] rfl)
  · refine lv_if_ne (tgt := 10) hx hb dX9_product_5 (by decide) (fun c54 => absurd (by decide) c54) (fun c54 => ?_)
    refine lv_iconst (v := 0) hx hb dX9_product_8 (by decide) ?_
    exact z_zret hx hb hr (by decide) hK hS (Nat.le_of_ble_eq_true rfl) (Nat.le_of_ble_eq_true rfl) hlocks dX9_product_9 (shC c, ad, I1, JX, PC c ad) hW ⟨I1, rfl, ⟨(by show 0 ≤ (I1 12 1).toInt ∧ (I1 12 1).toInt ≤ 500; exact hI1R.1), (by show 0 ≤ (I1 12 5).toInt ∧ (I1 12 5).toInt ≤ 501; exact hI1R.2.1), (by show (-1) ≤ (I1 12 6).toInt ∧ (I1 12 6).toInt ≤ 1000000; exact hI1R.2.2.1), (by show 0 ≤ (I1 12 9).toInt ∧ (I1 12 9).toInt ≤ 500; exact hI1R.2.2.2.1), (by show 0 ≤ (I1 12 13).toInt ∧ (I1 12 13).toInt ≤ 24; exact hI1R.2.2.2.2)⟩, (by show (I1 12 6).toInt ≤ 501 ∧ ((I1 12 7).toInt = 401 ∨ (I1 12 6).toInt ≤ 500); first | omega | decide), f2, Or.inr rfl⟩
noncomputable def L_X9_sum_9 : z_L := [(12, 6), (12, 7), (17, 999), (12, 9)]
theorem zj_X9_sum_X9 : ∀ w ∈ wsX90, w ∈ wsX9_sum := fun w h => (List.mem_cons_of_mem _ (List.mem_append_right _ h))
set_option maxHeartbeats 8000000 in
set_option maxRecDepth 100000 in
theorem sx_X9_sum_9 (l : Launch) (G : z_G) (ad : Nat → Nat) (c : z_C) (I : z_I) (hR : z_iR I) (hT : z_iT I) : z_M l yX9_sum wsX9_sum { frames := 5, cells := 0, slots := 0, locals := 98 } [.ref (ad 12), .int 9] G (shC c, ad, I, JX, PC c ad) (fun r u1 => ∃ I1 : z_I, u1 = (shC c, ad, I1, JX, PC c ad) ∧ z_iR I1 ∧ z_iT I1 ∧ z_fr L_X9_sum_9 I1 I ∧ (r = 1 ∨ r = 0)) 0 0 := by
  intro sz
  refine z_headQ (cc := cX9_sum) (maxL := 4) (ret := (some .boolean)) (by decide) rfl (Nat.le_of_ble_eq_true rfl) ?_
  intro p e s m below meth c0 ls hIn hK hsz hW hl
  obtain ⟨hx, hb, hr, hml, hown, hts, hlocks, hname⟩ := hIn
  subst hsz
  have hown : s.vm.findClass RX9 = some m.cls := hown
  have hA : ∀ q : Nat, s.heap.size ≤ q → z_A (shC c, ad, I, JX, PC c ad) s.heap.size q := fun q h => Or.inr h
  generalize hAe : z_A (shC c, ad, I, JX, PC c ad) s.heap.size = A at *
  have hS : va_S A s.heap s.heap [] := va_S.rf
  have hl : lv_has ls 4 [(0, .ref (ad 12)), (1, .int 9)] := hl
  have kT : (I 12 6).toInt ≤ 501 ∧ ((I 12 7).toInt = 401 ∨ (I 12 6).toInt ≤ 500) := hT
  refine lv_aload_n hx hb dX9_sum_0 rfl (lv_at hl 0 rfl) ?_
  refine lv_iload_n hx hb dX9_sum_1 rfl (lv_at hl 1 rfl) ?_
  refine z_ci hW hS hA (va_runV (As := [.int 9]) (rest := []) ⟨hx, hb, hml, hown, hts⟩ (sx_X9_product_9 l G ad c I ⟨(by show 0 ≤ (I 12 1).toInt ∧ (I 12 1).toInt ≤ 500; exact hR.1), (by show 0 ≤ (I 12 5).toInt ∧ (I 12 5).toInt ≤ 501; exact hR.2.1), (by show (-1) ≤ (I 12 6).toInt ∧ (I 12 6).toInt ≤ 1000000; exact hR.2.2.1), (by show 0 ≤ (I 12 9).toInt ∧ (I 12 9).toInt ≤ 500; exact hR.2.2.2.1), (by show 0 ≤ (I 12 13).toInt ∧ (I 12 13).toInt ≤ 24; exact hR.2.2.2.2)⟩ (by show (I 12 6).toInt ≤ 501 ∧ ((I 12 7).toInt = 401 ∨ (I 12 6).toInt ≤ 500); first | omega | decide) _) (cwV 1 hts gX9_sum_X9_product rfl rfl rfl hy_X9_product ⟨Nat.le_of_ble_eq_true rfl, Nat.le_of_ble_eq_true rfl⟩) (z_preV (i := 12) hK hW rfl rfl) rfl rfl hl.1 rfl (lv_room (Nat.le_of_ble_eq_true rfl)) dX9_sum_2 ⟨Nat.le_of_ble_eq_true rfl, Nat.le_of_ble_eq_true rfl⟩) (fun r u1 H locs hp hW hS => ?_)
  obtain ⟨I1, e9, hI1R, hI1T, fI1, hp⟩ := hp
  rw [e9] at hW
  have f2 := z_fr_sub (L := L_X9_sum_9) z_fr_0 fI1 (by decide)
  have k3 : (I1 12 6).toInt ≤ 501 ∧ ((I1 12 7).toInt = 401 ∨ (I1 12 6).toInt ≤ 500) := hI1T
  rcases hp with rfl | rfl
  · refine lv_if_ne (tgt := 10) hx hb dX9_sum_5 (by decide) (fun c4 => ?_) (fun c4 => absurd c4 (by decide))
    refine lv_iconst (v := 0) hx hb dX9_sum_10 (by decide) ?_
    refine lv_istore_n (lv' := [(2, .int 0), (0, .ref (ad 12)), (1, .int 9)]) hx hb dX9_sum_11 rfl hl (by decide) rfl (fun ls hl => ?_)
    have lp5 : ∀ (f : Nat) (y6 : Int32) (I7 : z_I) (H : Heap) (locs : List Loc) (ls : Array Slot), (2147483647 < y6.toInt + (f : Int)) → (0 ≤ y6.toInt) → (z_iR I7) → (z_iT I7) → (z_fr L_X9_sum_9 I7 I) → z_W G A (shC c, ad, I7, JX, PC c ad) H → va_S A s.heap H locs → lv_has ls 4 [(2, .int y6), (0, .ref (ad 12)), (1, .int 9)] → W p l e (headSpec wsX9_sum { frames := 5, cells := 0, slots := 0, locals := 98 }).room s m ([.ref (ad 12), .int 9] : List Value).toArray below meth c0 H locs 0 0 (MQ below (va_Qi (fun (r : Int32) (u1 : z_U) => ∃ I1 : z_I, u1 = (shC c, ad, I1, JX, PC c ad) ∧ z_iR I1 ∧ z_iT I1 ∧ z_fr L_X9_sum_9 I1 I ∧ (r = 1 ∨ r = 0)) (z_B G A) A) ([.ref (ad 12), .int 9] : List Value).toArray s 0 0 A) (F0 m 12 ls []) := by
      intro f
      induction f with
      | zero => intro y6 I7  H locs ls lp5m lp5l2 lp5R lp5T lp5fr hW hS hl; exact absurd lp5m (by have := Int32.toInt_lt y6; have := Int32.le_toInt y6; omega)
      | succ f lp5ih =>
        intro y6 I7  H locs ls lp5m lp5l2 lp5R lp5T lp5fr hW hS hl
        have k8 : (I7 12 6).toInt ≤ 501 ∧ ((I7 12 7).toInt = 401 ∨ (I7 12 6).toInt ≤ 500) := lp5T
        refine lv_iload_n hx hb dX9_sum_12 rfl (lv_at hl 0 rfl) ?_
        refine lv_sipush (v := 500) hx hb dX9_sum_13 (by decide) ?_
        refine lv_icmp_ge (tgt := 78) hx hb dX9_sum_16 (by decide) (fun c9 => ?_) (fun c9 => ?_)
        · have g10 := z_f_ge rfl z_l500 c9
          have b11 := Int32.toInt_lt y6
          refine lv_iconst (v := 1) hx hb dX9_sum_78 (by decide) ?_
          exact z_zret hx hb hr (by decide) hK hS (Nat.le_of_ble_eq_true rfl) (Nat.le_of_ble_eq_true rfl) hlocks dX9_sum_79 (shC c, ad, I7, JX, PC c ad) hW ⟨I7, rfl, ⟨(by show 0 ≤ (I7 12 1).toInt ∧ (I7 12 1).toInt ≤ 500; exact lp5R.1), (by show 0 ≤ (I7 12 5).toInt ∧ (I7 12 5).toInt ≤ 501; exact lp5R.2.1), (by show (-1) ≤ (I7 12 6).toInt ∧ (I7 12 6).toInt ≤ 1000000; exact lp5R.2.2.1), (by show 0 ≤ (I7 12 9).toInt ∧ (I7 12 9).toInt ≤ 500; exact lp5R.2.2.2.1), (by show 0 ≤ (I7 12 13).toInt ∧ (I7 12 13).toInt ≤ 24; exact lp5R.2.2.2.2)⟩, (by show (I7 12 6).toInt ≤ 501 ∧ ((I7 12 7).toInt = 401 ∨ (I7 12 6).toInt ≤ 500); first | omega | decide), lp5fr, Or.inl rfl⟩
        · have g12 := z_f_nge rfl z_l500 c9
          have b13 := Int32.toInt_lt y6
          refine lv_aload_n hx hb dX9_sum_19 rfl (lv_at hl 1 rfl) ?_
          refine z_get (T := TX9) (N := 14) (ci := 9) (i := 12) (v := .int (I7 12 7)) hx hb hts zj_X9_sum_X9 hown hK hW rfl rfl 7 (by decide) (hts (.fieldLink RX9 62 "PetrolBoard$Reader" "token" "I") (me_s (me_l (me_l (List.mem_of_getElem? (i := 0) rfl))))) (fun _ h => h) rfl dX9_sum_20 ?_
          refine lv_bipush (v := 43) hx hb dX9_sum_23 (by decide) ?_
          refine lv_icmp_eq (tgt := 37) hx hb dX9_sum_25 (by decide) (fun c14 => ?_) (fun c14 => ?_)
          · have g15 := z_f_eq rfl z_l43 c14
            have b16 := Int32.toInt_lt (I7 12 7)
            refine lv_aload_n hx hb dX9_sum_37 rfl (lv_at hl 1 rfl) ?_
            refine z_get (T := TX9) (N := 14) (ci := 9) (i := 12) (v := .int (I7 12 7)) hx hb hts zj_X9_sum_X9 hown hK hW rfl rfl 7 (by decide) (hts (.fieldLink RX9 62 "PetrolBoard$Reader" "token" "I") (me_s (me_l (me_l (List.mem_of_getElem? (i := 0) rfl))))) (fun _ h => h) rfl dX9_sum_38 ?_
            refine lv_istore_n (lv' := [(3, .int (I7 12 7)), (2, .int y6), (0, .ref (ad 12)), (1, .int 9)]) hx hb dX9_sum_41 rfl hl (by decide) rfl (fun ls hl => ?_)
            refine lv_aload_n hx hb dX9_sum_42 rfl (lv_at hl 2 rfl) ?_
            refine z_cv hW hS hA (va_runV (As := []) (rest := []) ⟨hx, hb, hml, hown, hts⟩ (sx_X9_step l G ad c I7 ⟨(by show 0 ≤ (I7 12 1).toInt ∧ (I7 12 1).toInt ≤ 500; exact lp5R.1), (by show 0 ≤ (I7 12 5).toInt ∧ (I7 12 5).toInt ≤ 501; exact lp5R.2.1), (by show (-1) ≤ (I7 12 6).toInt ∧ (I7 12 6).toInt ≤ 1000000; exact lp5R.2.2.1), (by show 0 ≤ (I7 12 9).toInt ∧ (I7 12 9).toInt ≤ 500; exact lp5R.2.2.2.1), (by show 0 ≤ (I7 12 13).toInt ∧ (I7 12 13).toInt ≤ 24; exact lp5R.2.2.2.2)⟩   (by show (I7 12 6).toInt ≤ 500; first | omega | decide) _) (cwV 0 hts gX9_sum_X9_step rfl rfl rfl hy_X9_step ⟨Nat.le_of_ble_eq_true rfl, Nat.le_of_ble_eq_true rfl⟩) (z_preV (i := 12) hK hW rfl rfl) rfl rfl hl.1 rfl (lv_room (Nat.le_of_ble_eq_true rfl)) dX9_sum_43 ⟨Nat.le_of_ble_eq_true rfl, Nat.le_of_ble_eq_true rfl⟩) (fun u1 H locs hp hW hS => ?_)
            obtain ⟨I17, e9, hI17R, hI17T, fI17⟩ := hp
            rw [e9] at hW
            have f18 := z_fr_sub (L := L_X9_sum_9) lp5fr fI17 (by decide)
            have k19 : (I17 12 6).toInt ≤ 501 ∧ ((I17 12 7).toInt = 401 ∨ (I17 12 6).toInt ≤ 500) := hI17T
            refine lv_aload_n hx hb dX9_sum_46 rfl (lv_at hl 2 rfl) ?_
            refine lv_iload_n hx hb dX9_sum_47 rfl (lv_at hl 3 rfl) ?_
            refine z_ci hW hS hA (va_runV (As := [.int 9]) (rest := []) ⟨hx, hb, hml, hown, hts⟩ (sx_X9_product_9 l G ad c I17 ⟨(by show 0 ≤ (I17 12 1).toInt ∧ (I17 12 1).toInt ≤ 500; exact hI17R.1), (by show 0 ≤ (I17 12 5).toInt ∧ (I17 12 5).toInt ≤ 501; exact hI17R.2.1), (by show (-1) ≤ (I17 12 6).toInt ∧ (I17 12 6).toInt ≤ 1000000; exact hI17R.2.2.1), (by show 0 ≤ (I17 12 9).toInt ∧ (I17 12 9).toInt ≤ 500; exact hI17R.2.2.2.1), (by show 0 ≤ (I17 12 13).toInt ∧ (I17 12 13).toInt ≤ 24; exact hI17R.2.2.2.2)⟩ (by show (I17 12 6).toInt ≤ 501 ∧ ((I17 12 7).toInt = 401 ∨ (I17 12 6).toInt ≤ 500); first | omega | decide) _) (cwV 1 hts gX9_sum_X9_product rfl rfl rfl hy_X9_product ⟨Nat.le_of_ble_eq_true rfl, Nat.le_of_ble_eq_true rfl⟩) (z_preV (i := 12) hK hW rfl rfl) rfl rfl hl.1 rfl (lv_room (Nat.le_of_ble_eq_true rfl)) dX9_sum_48 ⟨Nat.le_of_ble_eq_true rfl, Nat.le_of_ble_eq_true rfl⟩) (fun r u1 H locs hp hW hS => ?_)
            obtain ⟨I20, e9, hI20R, hI20T, fI20, hp⟩ := hp
            rw [e9] at hW
            have f21 := z_fr_sub (L := L_X9_sum_9) f18 fI20 (by decide)
            have k22 : (I20 12 6).toInt ≤ 501 ∧ ((I20 12 7).toInt = 401 ∨ (I20 12 6).toInt ≤ 500) := hI20T
            rcases hp with rfl | rfl
            · refine lv_if_ne (tgt := 56) hx hb dX9_sum_51 (by decide) (fun c23 => ?_) (fun c23 => absurd c23 (by decide))
              refine lv_aload_n hx hb dX9_sum_56 rfl (lv_at hl 2 rfl) ?_
              refine lv_iload_n hx hb dX9_sum_57 rfl (lv_at hl 0 rfl) ?_
              refine lv_bipush (v := 43) hx hb dX9_sum_58 (by decide) ?_
              refine lv_icmp_ne (tgt := 67) hx hb dX9_sum_60 (by decide) (fun c24 => (by have g := z_f_ne rfl z_l43 c24; omega)) (fun c24 => ?_)
              have g25 := z_f_eq rfl z_l43 c24
              refine lv_iconst (v := (-1)) hx hb dX9_sum_63 (by decide) ?_
              refine lv_goto (tgt := 69) hx hb dX9_sum_64 (by decide) ?_
              refine z_cv hW hS hA (va_runV (As := [.int (-1)]) (rest := []) ⟨hx, hb, hml, hown, hts⟩ (sx_X9_emit l G ad c I20 ⟨(by show 0 ≤ (I20 12 1).toInt ∧ (I20 12 1).toInt ≤ 500; exact hI20R.1), (by show 0 ≤ (I20 12 5).toInt ∧ (I20 12 5).toInt ≤ 501; exact hI20R.2.1), (by show (-1) ≤ (I20 12 6).toInt ∧ (I20 12 6).toInt ≤ 1000000; exact hI20R.2.2.1), (by show 0 ≤ (I20 12 9).toInt ∧ (I20 12 9).toInt ≤ 500; exact hI20R.2.2.2.1), (by show 0 ≤ (I20 12 13).toInt ∧ (I20 12 13).toInt ≤ 24; exact hI20R.2.2.2.2)⟩ (-1) _) (cwV 1 hts gX9_sum_X9_emit rfl rfl rfl hy_X9_emit ⟨Nat.le_of_ble_eq_true rfl, Nat.le_of_ble_eq_true rfl⟩) (z_preV (i := 12) hK hW rfl rfl) rfl rfl hl.1 rfl (lv_room (Nat.le_of_ble_eq_true rfl)) dX9_sum_69 ⟨Nat.le_of_ble_eq_true rfl, Nat.le_of_ble_eq_true rfl⟩) (fun u1 H locs hp hW hS => ?_)
              obtain ⟨I26, e9, hI26R, fI26⟩ := hp
              rw [e9] at hW
              have f27 := z_fr_sub (L := L_X9_sum_9) f21 fI26 (by decide)
              have k28 : (I26 12 6).toInt ≤ 501 ∧ ((I26 12 7).toInt = 401 ∨ (I26 12 6).toInt ≤ 500) := (by have q0 : (I26 12 6) = (I20 12 6) := (by rw [fI26 12 6 (by decide)]); have q1 : (I26 12 7) = (I20 12 7) := (by rw [fI26 12 7 (by decide)]); show (I26 12 6).toInt ≤ 501 ∧ ((I26 12 7).toInt = 401 ∨ (I26 12 6).toInt ≤ 500); rw [q0, q1]; first | omega | decide)
              have k29 : (I26 12 6).toInt = (I20 12 6).toInt := by rw [fI26 12 6 (by decide)]
              have k30 : (I26 12 7).toInt = (I20 12 7).toInt := by rw [fI26 12 7 (by decide)]
              obtain ⟨x31, ex31⟩ : ∃ y : Int32, y = y6 + 1 := ⟨_, rfl⟩
              have tx31 : x31.toInt = y6.toInt + 1 := z_tadd ex31 rfl z_l1 (by omega) (by omega)
              refine lv_iinc (v := x31) (lv' := [(2, .int x31), (3, .int (I7 12 7)), (0, .ref (ad 12)), (1, .int 9)]) hx hb dX9_sum_72 hl (k := 1) rfl (by rw [ex31]; rfl) (by decide) rfl (fun ls hl => ?_)
              refine lv_goto (tgt := 12) hx hb dX9_sum_75 (by decide) ?_
              exact lp5ih x31 I26  _ _ _ (by omega) (by omega) ⟨(by show 0 ≤ (I26 12 1).toInt ∧ (I26 12 1).toInt ≤ 500; exact hI26R.1), (by show 0 ≤ (I26 12 5).toInt ∧ (I26 12 5).toInt ≤ 501; exact hI26R.2.1), (by show (-1) ≤ (I26 12 6).toInt ∧ (I26 12 6).toInt ≤ 1000000; exact hI26R.2.2.1), (by show 0 ≤ (I26 12 9).toInt ∧ (I26 12 9).toInt ≤ 500; exact hI26R.2.2.2.1), (by show 0 ≤ (I26 12 13).toInt ∧ (I26 12 13).toInt ≤ 24; exact hI26R.2.2.2.2)⟩ (by show (I26 12 6).toInt ≤ 501 ∧ ((I26 12 7).toInt = 401 ∨ (I26 12 6).toInt ≤ 500); first | omega | decide) f27 hW hS (lv_sub hl [0, 2, 3] rfl)
            · refine lv_if_ne (tgt := 56) hx hb dX9_sum_51 (by decide) (fun c32 => absurd (by decide) c32) (fun c32 => ?_)
              refine lv_iconst (v := 0) hx hb dX9_sum_54 (by decide) ?_
              exact z_zret hx hb hr (by decide) hK hS (Nat.le_of_ble_eq_true rfl) (Nat.le_of_ble_eq_true rfl) hlocks dX9_sum_55 (shC c, ad, I20, JX, PC c ad) hW ⟨I20, rfl, ⟨(by show 0 ≤ (I20 12 1).toInt ∧ (I20 12 1).toInt ≤ 500; exact hI20R.1), (by show 0 ≤ (I20 12 5).toInt ∧ (I20 12 5).toInt ≤ 501; exact hI20R.2.1), (by show (-1) ≤ (I20 12 6).toInt ∧ (I20 12 6).toInt ≤ 1000000; exact hI20R.2.2.1), (by show 0 ≤ (I20 12 9).toInt ∧ (I20 12 9).toInt ≤ 500; exact hI20R.2.2.2.1), (by show 0 ≤ (I20 12 13).toInt ∧ (I20 12 13).toInt ≤ 24; exact hI20R.2.2.2.2)⟩, (by show (I20 12 6).toInt ≤ 501 ∧ ((I20 12 7).toInt = 401 ∨ (I20 12 6).toInt ≤ 500); first | omega | decide), f21, Or.inr rfl⟩
          · have g33 := z_f_ne rfl z_l43 c14
            have b34 := Int32.toInt_lt (I7 12 7)
            refine lv_aload_n hx hb dX9_sum_28 rfl (lv_at hl 1 rfl) ?_
            refine z_get (T := TX9) (N := 14) (ci := 9) (i := 12) (v := .int (I7 12 7)) hx hb hts zj_X9_sum_X9 hown hK hW rfl rfl 7 (by decide) (hts (.fieldLink RX9 62 "PetrolBoard$Reader" "token" "I") (me_s (me_l (me_l (List.mem_of_getElem? (i := 0) rfl))))) (fun _ h => h) rfl dX9_sum_29 ?_
            refine lv_bipush (v := 45) hx hb dX9_sum_32 (by decide) ?_
            refine lv_icmp_ne (tgt := 78) hx hb dX9_sum_34 (by decide) (fun c35 => ?_) (fun c35 => ?_)
            · have g36 := z_f_ne rfl z_l45 c35
              refine lv_iconst (v := 1) hx hb dX9_sum_78 (by decide) ?_
              exact z_zret hx hb hr (by decide) hK hS (Nat.le_of_ble_eq_true rfl) (Nat.le_of_ble_eq_true rfl) hlocks dX9_sum_79 (shC c, ad, I7, JX, PC c ad) hW ⟨I7, rfl, ⟨(by show 0 ≤ (I7 12 1).toInt ∧ (I7 12 1).toInt ≤ 500; exact lp5R.1), (by show 0 ≤ (I7 12 5).toInt ∧ (I7 12 5).toInt ≤ 501; exact lp5R.2.1), (by show (-1) ≤ (I7 12 6).toInt ∧ (I7 12 6).toInt ≤ 1000000; exact lp5R.2.2.1), (by show 0 ≤ (I7 12 9).toInt ∧ (I7 12 9).toInt ≤ 500; exact lp5R.2.2.2.1), (by show 0 ≤ (I7 12 13).toInt ∧ (I7 12 13).toInt ≤ 24; exact lp5R.2.2.2.2)⟩, (by show (I7 12 6).toInt ≤ 501 ∧ ((I7 12 7).toInt = 401 ∨ (I7 12 6).toInt ≤ 500); first | omega | decide), lp5fr, Or.inl rfl⟩
            · have g37 := z_f_eq rfl z_l45 c35
              refine lv_aload_n hx hb dX9_sum_37 rfl (lv_at hl 1 rfl) ?_
              refine z_get (T := TX9) (N := 14) (ci := 9) (i := 12) (v := .int (I7 12 7)) hx hb hts zj_X9_sum_X9 hown hK hW rfl rfl 7 (by decide) (hts (.fieldLink RX9 62 "PetrolBoard$Reader" "token" "I") (me_s (me_l (me_l (List.mem_of_getElem? (i := 0) rfl))))) (fun _ h => h) rfl dX9_sum_38 ?_
              refine lv_istore_n (lv' := [(3, .int (I7 12 7)), (2, .int y6), (0, .ref (ad 12)), (1, .int 9)]) hx hb dX9_sum_41 rfl hl (by decide) rfl (fun ls hl => ?_)
              refine lv_aload_n hx hb dX9_sum_42 rfl (lv_at hl 2 rfl) ?_
              refine z_cv hW hS hA (va_runV (As := []) (rest := []) ⟨hx, hb, hml, hown, hts⟩ (sx_X9_step l G ad c I7 ⟨(by show 0 ≤ (I7 12 1).toInt ∧ (I7 12 1).toInt ≤ 500; exact lp5R.1), (by show 0 ≤ (I7 12 5).toInt ∧ (I7 12 5).toInt ≤ 501; exact lp5R.2.1), (by show (-1) ≤ (I7 12 6).toInt ∧ (I7 12 6).toInt ≤ 1000000; exact lp5R.2.2.1), (by show 0 ≤ (I7 12 9).toInt ∧ (I7 12 9).toInt ≤ 500; exact lp5R.2.2.2.1), (by show 0 ≤ (I7 12 13).toInt ∧ (I7 12 13).toInt ≤ 24; exact lp5R.2.2.2.2)⟩   (by show (I7 12 6).toInt ≤ 500; first | omega | decide) _) (cwV 0 hts gX9_sum_X9_step rfl rfl rfl hy_X9_step ⟨Nat.le_of_ble_eq_true rfl, Nat.le_of_ble_eq_true rfl⟩) (z_preV (i := 12) hK hW rfl rfl) rfl rfl hl.1 rfl (lv_room (Nat.le_of_ble_eq_true rfl)) dX9_sum_43 ⟨Nat.le_of_ble_eq_true rfl, Nat.le_of_ble_eq_true rfl⟩) (fun u1 H locs hp hW hS => ?_)
              obtain ⟨I38, e9, hI38R, hI38T, fI38⟩ := hp
              rw [e9] at hW
              have f39 := z_fr_sub (L := L_X9_sum_9) lp5fr fI38 (by decide)
              have k40 : (I38 12 6).toInt ≤ 501 ∧ ((I38 12 7).toInt = 401 ∨ (I38 12 6).toInt ≤ 500) := hI38T
              refine lv_aload_n hx hb dX9_sum_46 rfl (lv_at hl 2 rfl) ?_
              refine lv_iload_n hx hb dX9_sum_47 rfl (lv_at hl 3 rfl) ?_
              refine z_ci hW hS hA (va_runV (As := [.int 9]) (rest := []) ⟨hx, hb, hml, hown, hts⟩ (sx_X9_product_9 l G ad c I38 ⟨(by show 0 ≤ (I38 12 1).toInt ∧ (I38 12 1).toInt ≤ 500; exact hI38R.1), (by show 0 ≤ (I38 12 5).toInt ∧ (I38 12 5).toInt ≤ 501; exact hI38R.2.1), (by show (-1) ≤ (I38 12 6).toInt ∧ (I38 12 6).toInt ≤ 1000000; exact hI38R.2.2.1), (by show 0 ≤ (I38 12 9).toInt ∧ (I38 12 9).toInt ≤ 500; exact hI38R.2.2.2.1), (by show 0 ≤ (I38 12 13).toInt ∧ (I38 12 13).toInt ≤ 24; exact hI38R.2.2.2.2)⟩ (by show (I38 12 6).toInt ≤ 501 ∧ ((I38 12 7).toInt = 401 ∨ (I38 12 6).toInt ≤ 500); first | omega | decide) _) (cwV 1 hts gX9_sum_X9_product rfl rfl rfl hy_X9_product ⟨Nat.le_of_ble_eq_true rfl, Nat.le_of_ble_eq_true rfl⟩) (z_preV (i := 12) hK hW rfl rfl) rfl rfl hl.1 rfl (lv_room (Nat.le_of_ble_eq_true rfl)) dX9_sum_48 ⟨Nat.le_of_ble_eq_true rfl, Nat.le_of_ble_eq_true rfl⟩) (fun r u1 H locs hp hW hS => ?_)
              obtain ⟨I41, e9, hI41R, hI41T, fI41, hp⟩ := hp
              rw [e9] at hW
              have f42 := z_fr_sub (L := L_X9_sum_9) f39 fI41 (by decide)
              have k43 : (I41 12 6).toInt ≤ 501 ∧ ((I41 12 7).toInt = 401 ∨ (I41 12 6).toInt ≤ 500) := hI41T
              rcases hp with rfl | rfl
              · refine lv_if_ne (tgt := 56) hx hb dX9_sum_51 (by decide) (fun c44 => ?_) (fun c44 => absurd c44 (by decide))
                refine lv_aload_n hx hb dX9_sum_56 rfl (lv_at hl 2 rfl) ?_
                refine lv_iload_n hx hb dX9_sum_57 rfl (lv_at hl 0 rfl) ?_
                refine lv_bipush (v := 43) hx hb dX9_sum_58 (by decide) ?_
                refine lv_icmp_ne (tgt := 67) hx hb dX9_sum_60 (by decide) (fun c45 => ?_) (fun c45 => (by have g := z_f_eq rfl z_l43 c45; omega))
                have g46 := z_f_ne rfl z_l43 c45
                refine lv_bipush (v := (-2)) hx hb dX9_sum_67 (by decide) ?_
                refine z_cv hW hS hA (va_runV (As := [.int (-2)]) (rest := []) ⟨hx, hb, hml, hown, hts⟩ (sx_X9_emit l G ad c I41 ⟨(by show 0 ≤ (I41 12 1).toInt ∧ (I41 12 1).toInt ≤ 500; exact hI41R.1), (by show 0 ≤ (I41 12 5).toInt ∧ (I41 12 5).toInt ≤ 501; exact hI41R.2.1), (by show (-1) ≤ (I41 12 6).toInt ∧ (I41 12 6).toInt ≤ 1000000; exact hI41R.2.2.1), (by show 0 ≤ (I41 12 9).toInt ∧ (I41 12 9).toInt ≤ 500; exact hI41R.2.2.2.1), (by show 0 ≤ (I41 12 13).toInt ∧ (I41 12 13).toInt ≤ 24; exact hI41R.2.2.2.2)⟩ (-2) _) (cwV 1 hts gX9_sum_X9_emit rfl rfl rfl hy_X9_emit ⟨Nat.le_of_ble_eq_true rfl, Nat.le_of_ble_eq_true rfl⟩) (z_preV (i := 12) hK hW rfl rfl) rfl rfl hl.1 rfl (lv_room (Nat.le_of_ble_eq_true rfl)) dX9_sum_69 ⟨Nat.le_of_ble_eq_true rfl, Nat.le_of_ble_eq_true rfl⟩) (fun u1 H locs hp hW hS => ?_)
                obtain ⟨I47, e9, hI47R, fI47⟩ := hp
                rw [e9] at hW
                have f48 := z_fr_sub (L := L_X9_sum_9) f42 fI47 (by decide)
                have k49 : (I47 12 6).toInt ≤ 501 ∧ ((I47 12 7).toInt = 401 ∨ (I47 12 6).toInt ≤ 500) := (by have q0 : (I47 12 6) = (I41 12 6) := (by rw [fI47 12 6 (by decide)]); have q1 : (I47 12 7) = (I41 12 7) := (by rw [fI47 12 7 (by decide)]); show (I47 12 6).toInt ≤ 501 ∧ ((I47 12 7).toInt = 401 ∨ (I47 12 6).toInt ≤ 500); rw [q0, q1]; first | omega | decide)
                have k50 : (I47 12 6).toInt = (I41 12 6).toInt := by rw [fI47 12 6 (by decide)]
                have k51 : (I47 12 7).toInt = (I41 12 7).toInt := by rw [fI47 12 7 (by decide)]
                obtain ⟨x52, ex52⟩ : ∃ y : Int32, y = y6 + 1 := ⟨_, rfl⟩
                have tx52 : x52.toInt = y6.toInt + 1 := z_tadd ex52 rfl z_l1 (by omega) (by omega)
                refine lv_iinc (v := x52) (lv' := [(2, .int x52), (3, .int (I7 12 7)), (0, .ref (ad 12)), (1, .int 9)]) hx hb dX9_sum_72 hl (k := 1) rfl (by rw [ex52]; rfl) (by decide) rfl (fun ls hl => ?_)
                refine lv_goto (tgt := 12) hx hb dX9_sum_75 (by decide) ?_
                exact lp5ih x52 I47  _ _ _ (by omega) (by omega) ⟨(by show 0 ≤ (I47 12 1).toInt ∧ (I47 12 1).toInt ≤ 500; exact hI47R.1), (by show 0 ≤ (I47 12 5).toInt ∧ (I47 12 5).toInt ≤ 501; exact hI47R.2.1), (by show (-1) ≤ (I47 12 6).toInt ∧ (I47 12 6).toInt ≤ 1000000; exact hI47R.2.2.1), (by show 0 ≤ (I47 12 9).toInt ∧ (I47 12 9).toInt ≤ 500; exact hI47R.2.2.2.1), (by show 0 ≤ (I47 12 13).toInt ∧ (I47 12 13).toInt ≤ 24; exact hI47R.2.2.2.2)⟩ (by show (I47 12 6).toInt ≤ 501 ∧ ((I47 12 7).toInt = 401 ∨ (I47 12 6).toInt ≤ 500); first | omega | decide) f48 hW hS (lv_sub hl [0, 2, 3] rfl)
              · refine lv_if_ne (tgt := 56) hx hb dX9_sum_51 (by decide) (fun c53 => absurd (by decide) c53) (fun c53 => ?_)
                refine lv_iconst (v := 0) hx hb dX9_sum_54 (by decide) ?_
                exact z_zret hx hb hr (by decide) hK hS (Nat.le_of_ble_eq_true rfl) (Nat.le_of_ble_eq_true rfl) hlocks dX9_sum_55 (shC c, ad, I41, JX, PC c ad) hW ⟨I41, rfl, ⟨(by show 0 ≤ (I41 12 1).toInt ∧ (I41 12 1).toInt ≤ 500; exact hI41R.1), (by show 0 ≤ (I41 12 5).toInt ∧ (I41 12 5).toInt ≤ 501; exact hI41R.2.1), (by show (-1) ≤ (I41 12 6).toInt ∧ (I41 12 6).toInt ≤ 1000000; exact hI41R.2.2.1), (by show 0 ≤ (I41 12 9).toInt ∧ (I41 12 9).toInt ≤ 500; exact hI41R.2.2.2.1), (by show 0 ≤ (I41 12 13).toInt ∧ (I41 12 13).toInt ≤ 24; exact hI41R.2.2.2.2)⟩, (by show (I41 12 6).toInt ≤ 501 ∧ ((I41 12 7).toInt = 401 ∨ (I41 12 6).toInt ≤ 500); first | omega | decide), f42, Or.inr rfl⟩
    exact lp5 4294967296 (0) I1  _ _ _ (z_m0u _) (by rw [z_l0]; omega) ⟨(by show 0 ≤ (I1 12 1).toInt ∧ (I1 12 1).toInt ≤ 500; exact hI1R.1), (by show 0 ≤ (I1 12 5).toInt ∧ (I1 12 5).toInt ≤ 501; exact hI1R.2.1), (by show (-1) ≤ (I1 12 6).toInt ∧ (I1 12 6).toInt ≤ 1000000; exact hI1R.2.2.1), (by show 0 ≤ (I1 12 9).toInt ∧ (I1 12 9).toInt ≤ 500; exact hI1R.2.2.2.1), (by show 0 ≤ (I1 12 13).toInt ∧ (I1 12 13).toInt ≤ 24; exact hI1R.2.2.2.2)⟩ (by show (I1 12 6).toInt ≤ 501 ∧ ((I1 12 7).toInt = 401 ∨ (I1 12 6).toInt ≤ 500); first | omega | decide) f2 hW hS (lv_sub hl [0, 1, 2] rfl)
  · refine lv_if_ne (tgt := 10) hx hb dX9_sum_5 (by decide) (fun c54 => absurd (by decide) c54) (fun c54 => ?_)
    refine lv_iconst (v := 0) hx hb dX9_sum_8 (by decide) ?_
    exact z_zret hx hb hr (by decide) hK hS (Nat.le_of_ble_eq_true rfl) (Nat.le_of_ble_eq_true rfl) hlocks dX9_sum_9 (shC c, ad, I1, JX, PC c ad) hW ⟨I1, rfl, ⟨(by show 0 ≤ (I1 12 1).toInt ∧ (I1 12 1).toInt ≤ 500; exact hI1R.1), (by show 0 ≤ (I1 12 5).toInt ∧ (I1 12 5).toInt ≤ 501; exact hI1R.2.1), (by show (-1) ≤ (I1 12 6).toInt ∧ (I1 12 6).toInt ≤ 1000000; exact hI1R.2.2.1), (by show 0 ≤ (I1 12 9).toInt ∧ (I1 12 9).toInt ≤ 500; exact hI1R.2.2.2.1), (by show 0 ≤ (I1 12 13).toInt ∧ (I1 12 13).toInt ≤ 24; exact hI1R.2.2.2.2)⟩, (by show (I1 12 6).toInt ≤ 501 ∧ ((I1 12 7).toInt = 401 ∨ (I1 12 6).toInt ≤ 500); first | omega | decide), f2, Or.inr rfl⟩
noncomputable def L_X9_opened_9 : z_L := [(12, 6), (12, 7), (17, 999), (12, 9)]
set_option maxHeartbeats 8000000 in
set_option maxRecDepth 100000 in
theorem sx_X9_opened_9 (l : Launch) (G : z_G) (ad : Nat → Nat) (c : z_C) (I : z_I) (hR : z_iR I) (hT : z_iT I) (q1 : (I 12 6).toInt ≤ 500) : z_M l yX9_opened wsX9_opened { frames := 3, cells := 0, slots := 0, locals := 53 } [.ref (ad 12), .int 9] G (shC c, ad, I, JX, PC c ad) (fun r u1 => ∃ I1 : z_I, u1 = (shC c, ad, I1, JX, PC c ad) ∧ z_iR I1 ∧ z_iT I1 ∧ z_fr L_X9_opened_9 I1 I ∧ (r = 1 ∨ r = 0)) 0 0 := by
  intro sz
  refine z_headQ (cc := cX9_opened) (maxL := 3) (ret := (some .boolean)) (by decide) rfl (Nat.le_of_ble_eq_true rfl) ?_
  intro p e s m below meth c0 ls hIn hK hsz hW hl
  obtain ⟨hx, hb, hr, hml, hown, hts, hlocks, hname⟩ := hIn
  subst hsz
  have hown : s.vm.findClass RX9 = some m.cls := hown
  have hA : ∀ q : Nat, s.heap.size ≤ q → z_A (shC c, ad, I, JX, PC c ad) s.heap.size q := fun q h => Or.inr h
  generalize hAe : z_A (shC c, ad, I, JX, PC c ad) s.heap.size = A at *
  have hS : va_S A s.heap s.heap [] := va_S.rf
  have hl : lv_has ls 3 [(0, .ref (ad 12)), (1, .int 9)] := hl
  have kT : (I 12 6).toInt ≤ 501 ∧ ((I 12 7).toInt = 401 ∨ (I 12 6).toInt ≤ 500) := hT
  refine lv_iload_n hx hb dX9_opened_0 rfl (lv_at hl 1 rfl) ?_
  refine lv_bipush (v := 9) hx hb dX9_opened_1 (by decide) ?_
  refine lv_icmp_lt (tgt := 8) hx hb dX9_opened_3 (by decide) (fun c1 => absurd c1 (by decide)) (fun c1 => ?_)
  refine lv_iconst (v := 0) hx hb dX9_opened_6 (by decide) ?_
  exact z_zret hx hb hr (by decide) hK hS (Nat.le_of_ble_eq_true rfl) (Nat.le_of_ble_eq_true rfl) hlocks dX9_opened_7 (shC c, ad, I, JX, PC c ad) hW ⟨I, rfl, ⟨(by show 0 ≤ (I 12 1).toInt ∧ (I 12 1).toInt ≤ 500; exact hR.1), (by show 0 ≤ (I 12 5).toInt ∧ (I 12 5).toInt ≤ 501; exact hR.2.1), (by show (-1) ≤ (I 12 6).toInt ∧ (I 12 6).toInt ≤ 1000000; exact hR.2.2.1), (by show 0 ≤ (I 12 9).toInt ∧ (I 12 9).toInt ≤ 500; exact hR.2.2.2.1), (by show 0 ≤ (I 12 13).toInt ∧ (I 12 13).toInt ≤ 24; exact hR.2.2.2.2)⟩, (by show (I 12 6).toInt ≤ 501 ∧ ((I 12 7).toInt = 401 ∨ (I 12 6).toInt ≤ 500); first | omega | decide), z_fr_0, Or.inr rfl⟩
noncomputable def L_X9_one_9 : z_L := [(12, 6), (12, 7), (17, 999), (12, 9)]
theorem zj_X9_one_X9 : ∀ w ∈ wsX90, w ∈ wsX9_one := fun w h => (List.mem_cons_of_mem _ (List.mem_append_right _ h))
set_option maxHeartbeats 8000000 in
set_option maxRecDepth 100000 in
theorem sx_X9_one_9 (l : Launch) (G : z_G) (ad : Nat → Nat) (c : z_C) (I : z_I) (hR : z_iR I) (hT : z_iT I) : z_M l yX9_one wsX9_one { frames := 6, cells := 0, slots := 0, locals := 121 } [.ref (ad 12), .int 9] G (shC c, ad, I, JX, PC c ad) (fun r u1 => ∃ I1 : z_I, u1 = (shC c, ad, I1, JX, PC c ad) ∧ z_iR I1 ∧ z_iT I1 ∧ z_fr L_X9_one_9 I1 I ∧ (r = 1 ∨ r = 0)) 0 0 := by
  intro sz
  refine z_headQ (cc := cX9_one) (maxL := 3) (ret := (some .boolean)) (by decide) rfl (Nat.le_of_ble_eq_true rfl) ?_
  intro p e s m below meth c0 ls hIn hK hsz hW hl
  obtain ⟨hx, hb, hr, hml, hown, hts, hlocks, hname⟩ := hIn
  subst hsz
  have hown : s.vm.findClass RX9 = some m.cls := hown
  have hA : ∀ q : Nat, s.heap.size ≤ q → z_A (shC c, ad, I, JX, PC c ad) s.heap.size q := fun q h => Or.inr h
  generalize hAe : z_A (shC c, ad, I, JX, PC c ad) s.heap.size = A at *
  have hS : va_S A s.heap s.heap [] := va_S.rf
  have hl : lv_has ls 3 [(0, .ref (ad 12)), (1, .int 9)] := hl
  have kT : (I 12 6).toInt ≤ 501 ∧ ((I 12 7).toInt = 401 ∨ (I 12 6).toInt ≤ 500) := hT
  refine lv_aload_n hx hb dX9_one_0 rfl (lv_at hl 0 rfl) ?_
  refine z_get (T := TX9) (N := 14) (ci := 9) (i := 12) (v := .int (I 12 7)) hx hb hts zj_X9_one_X9 hown hK hW rfl rfl 7 (by decide) (hts (.fieldLink RX9 62 "PetrolBoard$Reader" "token" "I") (me_s (me_l (me_l (List.mem_of_getElem? (i := 0) rfl))))) (fun _ h => h) rfl dX9_one_1 ?_
  refine lv_sipush (v := 311) hx hb dX9_one_4 (by decide) ?_
  refine lv_icmp_eq (tgt := 19) hx hb dX9_one_7 (by decide) (fun c1 => ?_) (fun c1 => ?_)
  · have g2 := z_f_eq rfl z_l311 c1
    have b3 := Int32.toInt_lt (I 12 7)
    refine lv_aload_n hx hb dX9_one_19 rfl (lv_at hl 0 rfl) ?_
    refine lv_iload_n hx hb dX9_one_20 rfl (lv_at hl 1 rfl) ?_
    refine z_ci hW hS hA (va_runV (As := [.int 9]) (rest := []) ⟨hx, hb, hml, hown, hts⟩ (sx_X9_opened_9 l G ad c I ⟨(by show 0 ≤ (I 12 1).toInt ∧ (I 12 1).toInt ≤ 500; exact hR.1), (by show 0 ≤ (I 12 5).toInt ∧ (I 12 5).toInt ≤ 501; exact hR.2.1), (by show (-1) ≤ (I 12 6).toInt ∧ (I 12 6).toInt ≤ 1000000; exact hR.2.2.1), (by show 0 ≤ (I 12 9).toInt ∧ (I 12 9).toInt ≤ 500; exact hR.2.2.2.1), (by show 0 ≤ (I 12 13).toInt ∧ (I 12 13).toInt ≤ 24; exact hR.2.2.2.2)⟩ (by show (I 12 6).toInt ≤ 501 ∧ ((I 12 7).toInt = 401 ∨ (I 12 6).toInt ≤ 500); first | omega | decide) (by show (I 12 6).toInt ≤ 500; first | omega | decide) _) (cwV 1 hts gX9_one_X9_opened rfl rfl rfl hy_X9_opened ⟨Nat.le_of_ble_eq_true rfl, Nat.le_of_ble_eq_true rfl⟩) (z_preV (i := 12) hK hW rfl rfl) rfl rfl hl.1 rfl (lv_room (Nat.le_of_ble_eq_true rfl)) dX9_one_21 ⟨Nat.le_of_ble_eq_true rfl, Nat.le_of_ble_eq_true rfl⟩) (fun r u1 H locs hp hW hS => ?_)
    obtain ⟨I4, e9, hI4R, hI4T, fI4, hp⟩ := hp
    rw [e9] at hW
    have f5 := z_fr_sub (L := L_X9_one_9) z_fr_0 fI4 (by decide)
    have k6 : (I4 12 6).toInt ≤ 501 ∧ ((I4 12 7).toInt = 401 ∨ (I4 12 6).toInt ≤ 500) := hI4T
    rcases hp with rfl | rfl
    · exact z_zret hx hb hr (by decide) hK hS (Nat.le_of_ble_eq_true rfl) (Nat.le_of_ble_eq_true rfl) hlocks dX9_one_24 (shC c, ad, I4, JX, PC c ad) hW ⟨I4, rfl, ⟨(by show 0 ≤ (I4 12 1).toInt ∧ (I4 12 1).toInt ≤ 500; exact hI4R.1), (by show 0 ≤ (I4 12 5).toInt ∧ (I4 12 5).toInt ≤ 501; exact hI4R.2.1), (by show (-1) ≤ (I4 12 6).toInt ∧ (I4 12 6).toInt ≤ 1000000; exact hI4R.2.2.1), (by show 0 ≤ (I4 12 9).toInt ∧ (I4 12 9).toInt ≤ 500; exact hI4R.2.2.2.1), (by show 0 ≤ (I4 12 13).toInt ∧ (I4 12 13).toInt ≤ 24; exact hI4R.2.2.2.2)⟩, (by show (I4 12 6).toInt ≤ 501 ∧ ((I4 12 7).toInt = 401 ∨ (I4 12 6).toInt ≤ 500); first | omega | decide), f5, Or.inl rfl⟩
    · exact z_zret hx hb hr (by decide) hK hS (Nat.le_of_ble_eq_true rfl) (Nat.le_of_ble_eq_true rfl) hlocks dX9_one_24 (shC c, ad, I4, JX, PC c ad) hW ⟨I4, rfl, ⟨(by show 0 ≤ (I4 12 1).toInt ∧ (I4 12 1).toInt ≤ 500; exact hI4R.1), (by show 0 ≤ (I4 12 5).toInt ∧ (I4 12 5).toInt ≤ 501; exact hI4R.2.1), (by show (-1) ≤ (I4 12 6).toInt ∧ (I4 12 6).toInt ≤ 1000000; exact hI4R.2.2.1), (by show 0 ≤ (I4 12 9).toInt ∧ (I4 12 9).toInt ≤ 500; exact hI4R.2.2.2.1), (by show 0 ≤ (I4 12 13).toInt ∧ (I4 12 13).toInt ≤ 24; exact hI4R.2.2.2.2)⟩, (by show (I4 12 6).toInt ≤ 501 ∧ ((I4 12 7).toInt = 401 ∨ (I4 12 6).toInt ≤ 500); first | omega | decide), f5, Or.inr rfl⟩
  · have g7 := z_f_ne rfl z_l311 c1
    have b8 := Int32.toInt_lt (I 12 7)
    refine lv_aload_n hx hb dX9_one_10 rfl (lv_at hl 0 rfl) ?_
    refine z_get (T := TX9) (N := 14) (ci := 9) (i := 12) (v := .int (I 12 7)) hx hb hts zj_X9_one_X9 hown hK hW rfl rfl 7 (by decide) (hts (.fieldLink RX9 62 "PetrolBoard$Reader" "token" "I") (me_s (me_l (me_l (List.mem_of_getElem? (i := 0) rfl))))) (fun _ h => h) rfl dX9_one_11 ?_
    refine lv_bipush (v := 123) hx hb dX9_one_14 (by decide) ?_
    refine lv_icmp_ne (tgt := 25) hx hb dX9_one_16 (by decide) (fun c9 => ?_) (fun c9 => ?_)
    · have g10 := z_f_ne rfl z_l123 c9
      refine lv_aload_n hx hb dX9_one_25 rfl (lv_at hl 0 rfl) ?_
      refine lv_iload_n hx hb dX9_one_26 rfl (lv_at hl 1 rfl) ?_
      refine z_ci hW hS hA (va_runV (As := [.int 9]) (rest := []) ⟨hx, hb, hml, hown, hts⟩ (sx_X9_sum_9 l G ad c I ⟨(by show 0 ≤ (I 12 1).toInt ∧ (I 12 1).toInt ≤ 500; exact hR.1), (by show 0 ≤ (I 12 5).toInt ∧ (I 12 5).toInt ≤ 501; exact hR.2.1), (by show (-1) ≤ (I 12 6).toInt ∧ (I 12 6).toInt ≤ 1000000; exact hR.2.2.1), (by show 0 ≤ (I 12 9).toInt ∧ (I 12 9).toInt ≤ 500; exact hR.2.2.2.1), (by show 0 ≤ (I 12 13).toInt ∧ (I 12 13).toInt ≤ 24; exact hR.2.2.2.2)⟩ (by show (I 12 6).toInt ≤ 501 ∧ ((I 12 7).toInt = 401 ∨ (I 12 6).toInt ≤ 500); first | omega | decide) _) (cwV 1 hts gX9_one_X9_sum rfl rfl rfl hy_X9_sum ⟨Nat.le_of_ble_eq_true rfl, Nat.le_of_ble_eq_true rfl⟩) (z_preV (i := 12) hK hW rfl rfl) rfl rfl hl.1 rfl (lv_room (Nat.le_of_ble_eq_true rfl)) dX9_one_27 ⟨Nat.le_of_ble_eq_true rfl, Nat.le_of_ble_eq_true rfl⟩) (fun r u1 H locs hp hW hS => ?_)
      obtain ⟨I11, e9, hI11R, hI11T, fI11, hp⟩ := hp
      rw [e9] at hW
      have f12 := z_fr_sub (L := L_X9_one_9) z_fr_0 fI11 (by decide)
      have k13 : (I11 12 6).toInt ≤ 501 ∧ ((I11 12 7).toInt = 401 ∨ (I11 12 6).toInt ≤ 500) := hI11T
      rcases hp with rfl | rfl
      · refine lv_if_ne (tgt := 35) hx hb dX9_one_30 (by decide) (fun c14 => ?_) (fun c14 => absurd c14 (by decide))
        refine lv_aload_n hx hb dX9_one_35 rfl (lv_at hl 0 rfl) ?_
        refine z_get (T := TX9) (N := 14) (ci := 9) (i := 12) (v := .int (I11 12 7)) hx hb hts zj_X9_one_X9 hown hK hW rfl rfl 7 (by decide) (hts (.fieldLink RX9 62 "PetrolBoard$Reader" "token" "I") (me_s (me_l (me_l (List.mem_of_getElem? (i := 0) rfl))))) (fun _ h => h) rfl dX9_one_36 ?_
        refine lv_istore_n (lv' := [(2, .int (I11 12 7)), (0, .ref (ad 12)), (1, .int 9)]) hx hb dX9_one_39 rfl hl (by decide) rfl (fun ls hl => ?_)
        refine lv_iload_n hx hb dX9_one_40 rfl (lv_at hl 0 rfl) ?_
        refine lv_bipush (v := 60) hx hb dX9_one_41 (by decide) ?_
        refine lv_icmp_eq (tgt := 60) hx hb dX9_one_43 (by decide) (fun c15 => ?_) (fun c15 => ?_)
        · have g16 := z_f_eq rfl z_l60 c15
          have b17 := Int32.toInt_lt (I11 12 7)
          refine lv_aload_n hx hb dX9_one_60 rfl (lv_at hl 1 rfl) ?_
          refine z_cv hW hS hA (va_runV (As := []) (rest := []) ⟨hx, hb, hml, hown, hts⟩ (sx_X9_step l G ad c I11 ⟨(by show 0 ≤ (I11 12 1).toInt ∧ (I11 12 1).toInt ≤ 500; exact hI11R.1), (by show 0 ≤ (I11 12 5).toInt ∧ (I11 12 5).toInt ≤ 501; exact hI11R.2.1), (by show (-1) ≤ (I11 12 6).toInt ∧ (I11 12 6).toInt ≤ 1000000; exact hI11R.2.2.1), (by show 0 ≤ (I11 12 9).toInt ∧ (I11 12 9).toInt ≤ 500; exact hI11R.2.2.2.1), (by show 0 ≤ (I11 12 13).toInt ∧ (I11 12 13).toInt ≤ 24; exact hI11R.2.2.2.2)⟩   (by show (I11 12 6).toInt ≤ 500; first | omega | decide) _) (cwV 0 hts gX9_one_X9_step rfl rfl rfl hy_X9_step ⟨Nat.le_of_ble_eq_true rfl, Nat.le_of_ble_eq_true rfl⟩) (z_preV (i := 12) hK hW rfl rfl) rfl rfl hl.1 rfl (lv_room (Nat.le_of_ble_eq_true rfl)) dX9_one_61 ⟨Nat.le_of_ble_eq_true rfl, Nat.le_of_ble_eq_true rfl⟩) (fun u1 H locs hp hW hS => ?_)
          obtain ⟨I18, e9, hI18R, hI18T, fI18⟩ := hp
          rw [e9] at hW
          have f19 := z_fr_sub (L := L_X9_one_9) f12 fI18 (by decide)
          have k20 : (I18 12 6).toInt ≤ 501 ∧ ((I18 12 7).toInt = 401 ∨ (I18 12 6).toInt ≤ 500) := hI18T
          refine lv_aload_n hx hb dX9_one_64 rfl (lv_at hl 1 rfl) ?_
          refine lv_iload_n hx hb dX9_one_65 rfl (lv_at hl 2 rfl) ?_
          refine z_ci hW hS hA (va_runV (As := [.int 9]) (rest := []) ⟨hx, hb, hml, hown, hts⟩ (sx_X9_sum_9 l G ad c I18 ⟨(by show 0 ≤ (I18 12 1).toInt ∧ (I18 12 1).toInt ≤ 500; exact hI18R.1), (by show 0 ≤ (I18 12 5).toInt ∧ (I18 12 5).toInt ≤ 501; exact hI18R.2.1), (by show (-1) ≤ (I18 12 6).toInt ∧ (I18 12 6).toInt ≤ 1000000; exact hI18R.2.2.1), (by show 0 ≤ (I18 12 9).toInt ∧ (I18 12 9).toInt ≤ 500; exact hI18R.2.2.2.1), (by show 0 ≤ (I18 12 13).toInt ∧ (I18 12 13).toInt ≤ 24; exact hI18R.2.2.2.2)⟩ (by show (I18 12 6).toInt ≤ 501 ∧ ((I18 12 7).toInt = 401 ∨ (I18 12 6).toInt ≤ 500); first | omega | decide) _) (cwV 1 hts gX9_one_X9_sum rfl rfl rfl hy_X9_sum ⟨Nat.le_of_ble_eq_true rfl, Nat.le_of_ble_eq_true rfl⟩) (z_preV (i := 12) hK hW rfl rfl) rfl rfl hl.1 rfl (lv_room (Nat.le_of_ble_eq_true rfl)) dX9_one_66 ⟨Nat.le_of_ble_eq_true rfl, Nat.le_of_ble_eq_true rfl⟩) (fun r u1 H locs hp hW hS => ?_)
          obtain ⟨I21, e9, hI21R, hI21T, fI21, hp⟩ := hp
          rw [e9] at hW
          have f22 := z_fr_sub (L := L_X9_one_9) f19 fI21 (by decide)
          have k23 : (I21 12 6).toInt ≤ 501 ∧ ((I21 12 7).toInt = 401 ∨ (I21 12 6).toInt ≤ 500) := hI21T
          rcases hp with rfl | rfl
          · refine lv_if_ne (tgt := 74) hx hb dX9_one_69 (by decide) (fun c24 => ?_) (fun c24 => absurd c24 (by decide))
            refine lv_aload_n hx hb dX9_one_74 rfl (lv_at hl 1 rfl) ?_
            refine lv_iload_n hx hb dX9_one_75 rfl (lv_at hl 0 rfl) ?_
            refine lv_bipush (v := 60) hx hb dX9_one_76 (by decide) ?_
            refine lv_icmp_ne (tgt := 86) hx hb dX9_one_78 (by decide) (fun c25 => (by have g := z_f_ne rfl z_l60 c25; omega)) (fun c25 => ?_)
            have g26 := z_f_eq rfl z_l60 c25
            refine lv_bipush (v := (-7)) hx hb dX9_one_81 (by decide) ?_
            refine lv_goto (tgt := 99) hx hb dX9_one_83 (by decide) ?_
            refine z_cv hW hS hA (va_runV (As := [.int (-7)]) (rest := []) ⟨hx, hb, hml, hown, hts⟩ (sx_X9_emit l G ad c I21 ⟨(by show 0 ≤ (I21 12 1).toInt ∧ (I21 12 1).toInt ≤ 500; exact hI21R.1), (by show 0 ≤ (I21 12 5).toInt ∧ (I21 12 5).toInt ≤ 501; exact hI21R.2.1), (by show (-1) ≤ (I21 12 6).toInt ∧ (I21 12 6).toInt ≤ 1000000; exact hI21R.2.2.1), (by show 0 ≤ (I21 12 9).toInt ∧ (I21 12 9).toInt ≤ 500; exact hI21R.2.2.2.1), (by show 0 ≤ (I21 12 13).toInt ∧ (I21 12 13).toInt ≤ 24; exact hI21R.2.2.2.2)⟩ (-7) _) (cwV 1 hts gX9_one_X9_emit rfl rfl rfl hy_X9_emit ⟨Nat.le_of_ble_eq_true rfl, Nat.le_of_ble_eq_true rfl⟩) (z_preV (i := 12) hK hW rfl rfl) rfl rfl hl.1 rfl (lv_room (Nat.le_of_ble_eq_true rfl)) dX9_one_99 ⟨Nat.le_of_ble_eq_true rfl, Nat.le_of_ble_eq_true rfl⟩) (fun u1 H locs hp hW hS => ?_)
            obtain ⟨I27, e9, hI27R, fI27⟩ := hp
            rw [e9] at hW
            have f28 := z_fr_sub (L := L_X9_one_9) f22 fI27 (by decide)
            have k29 : (I27 12 6).toInt ≤ 501 ∧ ((I27 12 7).toInt = 401 ∨ (I27 12 6).toInt ≤ 500) := (by have q0 : (I27 12 6) = (I21 12 6) := (by rw [fI27 12 6 (by decide)]); have q1 : (I27 12 7) = (I21 12 7) := (by rw [fI27 12 7 (by decide)]); show (I27 12 6).toInt ≤ 501 ∧ ((I27 12 7).toInt = 401 ∨ (I27 12 6).toInt ≤ 500); rw [q0, q1]; first | omega | decide)
            have k30 : (I27 12 6).toInt = (I21 12 6).toInt := by rw [fI27 12 6 (by decide)]
            have k31 : (I27 12 7).toInt = (I21 12 7).toInt := by rw [fI27 12 7 (by decide)]
            refine lv_iconst (v := 1) hx hb dX9_one_102 (by decide) ?_
            exact z_zret hx hb hr (by decide) hK hS (Nat.le_of_ble_eq_true rfl) (Nat.le_of_ble_eq_true rfl) hlocks dX9_one_103 (shC c, ad, I27, JX, PC c ad) hW ⟨I27, rfl, ⟨(by show 0 ≤ (I27 12 1).toInt ∧ (I27 12 1).toInt ≤ 500; exact hI27R.1), (by show 0 ≤ (I27 12 5).toInt ∧ (I27 12 5).toInt ≤ 501; exact hI27R.2.1), (by show (-1) ≤ (I27 12 6).toInt ∧ (I27 12 6).toInt ≤ 1000000; exact hI27R.2.2.1), (by show 0 ≤ (I27 12 9).toInt ∧ (I27 12 9).toInt ≤ 500; exact hI27R.2.2.2.1), (by show 0 ≤ (I27 12 13).toInt ∧ (I27 12 13).toInt ≤ 24; exact hI27R.2.2.2.2)⟩, (by show (I27 12 6).toInt ≤ 501 ∧ ((I27 12 7).toInt = 401 ∨ (I27 12 6).toInt ≤ 500); first | omega | decide), f28, Or.inl rfl⟩
          · refine lv_if_ne (tgt := 74) hx hb dX9_one_69 (by decide) (fun c32 => absurd (by decide) c32) (fun c32 => ?_)
            refine lv_iconst (v := 0) hx hb dX9_one_72 (by decide) ?_
            exact z_zret hx hb hr (by decide) hK hS (Nat.le_of_ble_eq_true rfl) (Nat.le_of_ble_eq_true rfl) hlocks dX9_one_73 (shC c, ad, I21, JX, PC c ad) hW ⟨I21, rfl, ⟨(by show 0 ≤ (I21 12 1).toInt ∧ (I21 12 1).toInt ≤ 500; exact hI21R.1), (by show 0 ≤ (I21 12 5).toInt ∧ (I21 12 5).toInt ≤ 501; exact hI21R.2.1), (by show (-1) ≤ (I21 12 6).toInt ∧ (I21 12 6).toInt ≤ 1000000; exact hI21R.2.2.1), (by show 0 ≤ (I21 12 9).toInt ∧ (I21 12 9).toInt ≤ 500; exact hI21R.2.2.2.1), (by show 0 ≤ (I21 12 13).toInt ∧ (I21 12 13).toInt ≤ 24; exact hI21R.2.2.2.2)⟩, (by show (I21 12 6).toInt ≤ 501 ∧ ((I21 12 7).toInt = 401 ∨ (I21 12 6).toInt ≤ 500); first | omega | decide), f22, Or.inr rfl⟩
        · have g33 := z_f_ne rfl z_l60 c15
          have b34 := Int32.toInt_lt (I11 12 7)
          refine lv_iload_n hx hb dX9_one_46 rfl (lv_at hl 0 rfl) ?_
          refine lv_bipush (v := 62) hx hb dX9_one_47 (by decide) ?_
          refine lv_icmp_eq (tgt := 60) hx hb dX9_one_49 (by decide) (fun c35 => ?_) (fun c35 => ?_)
          · have g36 := z_f_eq rfl z_l62 c35
            refine lv_aload_n hx hb dX9_one_60 rfl (lv_at hl 1 rfl) ?_
            refine z_cv hW hS hA (va_runV (As := []) (rest := []) ⟨hx, hb, hml, hown, hts⟩ (sx_X9_step l G ad c I11 ⟨(by show 0 ≤ (I11 12 1).toInt ∧ (I11 12 1).toInt ≤ 500; exact hI11R.1), (by show 0 ≤ (I11 12 5).toInt ∧ (I11 12 5).toInt ≤ 501; exact hI11R.2.1), (by show (-1) ≤ (I11 12 6).toInt ∧ (I11 12 6).toInt ≤ 1000000; exact hI11R.2.2.1), (by show 0 ≤ (I11 12 9).toInt ∧ (I11 12 9).toInt ≤ 500; exact hI11R.2.2.2.1), (by show 0 ≤ (I11 12 13).toInt ∧ (I11 12 13).toInt ≤ 24; exact hI11R.2.2.2.2)⟩   (by show (I11 12 6).toInt ≤ 500; first | omega | decide) _) (cwV 0 hts gX9_one_X9_step rfl rfl rfl hy_X9_step ⟨Nat.le_of_ble_eq_true rfl, Nat.le_of_ble_eq_true rfl⟩) (z_preV (i := 12) hK hW rfl rfl) rfl rfl hl.1 rfl (lv_room (Nat.le_of_ble_eq_true rfl)) dX9_one_61 ⟨Nat.le_of_ble_eq_true rfl, Nat.le_of_ble_eq_true rfl⟩) (fun u1 H locs hp hW hS => ?_)
            obtain ⟨I37, e9, hI37R, hI37T, fI37⟩ := hp
            rw [e9] at hW
            have f38 := z_fr_sub (L := L_X9_one_9) f12 fI37 (by decide)
            have k39 : (I37 12 6).toInt ≤ 501 ∧ ((I37 12 7).toInt = 401 ∨ (I37 12 6).toInt ≤ 500) := hI37T
            refine lv_aload_n hx hb dX9_one_64 rfl (lv_at hl 1 rfl) ?_
            refine lv_iload_n hx hb dX9_one_65 rfl (lv_at hl 2 rfl) ?_
            refine z_ci hW hS hA (va_runV (As := [.int 9]) (rest := []) ⟨hx, hb, hml, hown, hts⟩ (sx_X9_sum_9 l G ad c I37 ⟨(by show 0 ≤ (I37 12 1).toInt ∧ (I37 12 1).toInt ≤ 500; exact hI37R.1), (by show 0 ≤ (I37 12 5).toInt ∧ (I37 12 5).toInt ≤ 501; exact hI37R.2.1), (by show (-1) ≤ (I37 12 6).toInt ∧ (I37 12 6).toInt ≤ 1000000; exact hI37R.2.2.1), (by show 0 ≤ (I37 12 9).toInt ∧ (I37 12 9).toInt ≤ 500; exact hI37R.2.2.2.1), (by show 0 ≤ (I37 12 13).toInt ∧ (I37 12 13).toInt ≤ 24; exact hI37R.2.2.2.2)⟩ (by show (I37 12 6).toInt ≤ 501 ∧ ((I37 12 7).toInt = 401 ∨ (I37 12 6).toInt ≤ 500); first | omega | decide) _) (cwV 1 hts gX9_one_X9_sum rfl rfl rfl hy_X9_sum ⟨Nat.le_of_ble_eq_true rfl, Nat.le_of_ble_eq_true rfl⟩) (z_preV (i := 12) hK hW rfl rfl) rfl rfl hl.1 rfl (lv_room (Nat.le_of_ble_eq_true rfl)) dX9_one_66 ⟨Nat.le_of_ble_eq_true rfl, Nat.le_of_ble_eq_true rfl⟩) (fun r u1 H locs hp hW hS => ?_)
            obtain ⟨I40, e9, hI40R, hI40T, fI40, hp⟩ := hp
            rw [e9] at hW
            have f41 := z_fr_sub (L := L_X9_one_9) f38 fI40 (by decide)
            have k42 : (I40 12 6).toInt ≤ 501 ∧ ((I40 12 7).toInt = 401 ∨ (I40 12 6).toInt ≤ 500) := hI40T
            rcases hp with rfl | rfl
            · refine lv_if_ne (tgt := 74) hx hb dX9_one_69 (by decide) (fun c43 => ?_) (fun c43 => absurd c43 (by decide))
              refine lv_aload_n hx hb dX9_one_74 rfl (lv_at hl 1 rfl) ?_
              refine lv_iload_n hx hb dX9_one_75 rfl (lv_at hl 0 rfl) ?_
              refine lv_bipush (v := 60) hx hb dX9_one_76 (by decide) ?_
              refine lv_icmp_ne (tgt := 86) hx hb dX9_one_78 (by decide) (fun c44 => ?_) (fun c44 => (by have g := z_f_eq rfl z_l60 c44; omega))
              have g45 := z_f_ne rfl z_l60 c44
              refine lv_iload_n hx hb dX9_one_86 rfl (lv_at hl 0 rfl) ?_
              refine lv_bipush (v := 62) hx hb dX9_one_87 (by decide) ?_
              refine lv_icmp_ne (tgt := 97) hx hb dX9_one_89 (by decide) (fun c46 => (by have g := z_f_ne rfl z_l62 c46; omega)) (fun c46 => ?_)
              have g47 := z_f_eq rfl z_l62 c46
              refine lv_bipush (v := (-8)) hx hb dX9_one_92 (by decide) ?_
              refine lv_goto (tgt := 99) hx hb dX9_one_94 (by decide) ?_
              refine z_cv hW hS hA (va_runV (As := [.int (-8)]) (rest := []) ⟨hx, hb, hml, hown, hts⟩ (sx_X9_emit l G ad c I40 ⟨(by show 0 ≤ (I40 12 1).toInt ∧ (I40 12 1).toInt ≤ 500; exact hI40R.1), (by show 0 ≤ (I40 12 5).toInt ∧ (I40 12 5).toInt ≤ 501; exact hI40R.2.1), (by show (-1) ≤ (I40 12 6).toInt ∧ (I40 12 6).toInt ≤ 1000000; exact hI40R.2.2.1), (by show 0 ≤ (I40 12 9).toInt ∧ (I40 12 9).toInt ≤ 500; exact hI40R.2.2.2.1), (by show 0 ≤ (I40 12 13).toInt ∧ (I40 12 13).toInt ≤ 24; exact hI40R.2.2.2.2)⟩ (-8) _) (cwV 1 hts gX9_one_X9_emit rfl rfl rfl hy_X9_emit ⟨Nat.le_of_ble_eq_true rfl, Nat.le_of_ble_eq_true rfl⟩) (z_preV (i := 12) hK hW rfl rfl) rfl rfl hl.1 rfl (lv_room (Nat.le_of_ble_eq_true rfl)) dX9_one_99 ⟨Nat.le_of_ble_eq_true rfl, Nat.le_of_ble_eq_true rfl⟩) (fun u1 H locs hp hW hS => ?_)
              obtain ⟨I48, e9, hI48R, fI48⟩ := hp
              rw [e9] at hW
              have f49 := z_fr_sub (L := L_X9_one_9) f41 fI48 (by decide)
              have k50 : (I48 12 6).toInt ≤ 501 ∧ ((I48 12 7).toInt = 401 ∨ (I48 12 6).toInt ≤ 500) := (by have q0 : (I48 12 6) = (I40 12 6) := (by rw [fI48 12 6 (by decide)]); have q1 : (I48 12 7) = (I40 12 7) := (by rw [fI48 12 7 (by decide)]); show (I48 12 6).toInt ≤ 501 ∧ ((I48 12 7).toInt = 401 ∨ (I48 12 6).toInt ≤ 500); rw [q0, q1]; first | omega | decide)
              have k51 : (I48 12 6).toInt = (I40 12 6).toInt := by rw [fI48 12 6 (by decide)]
              have k52 : (I48 12 7).toInt = (I40 12 7).toInt := by rw [fI48 12 7 (by decide)]
              refine lv_iconst (v := 1) hx hb dX9_one_102 (by decide) ?_
              exact z_zret hx hb hr (by decide) hK hS (Nat.le_of_ble_eq_true rfl) (Nat.le_of_ble_eq_true rfl) hlocks dX9_one_103 (shC c, ad, I48, JX, PC c ad) hW ⟨I48, rfl, ⟨(by show 0 ≤ (I48 12 1).toInt ∧ (I48 12 1).toInt ≤ 500; exact hI48R.1), (by show 0 ≤ (I48 12 5).toInt ∧ (I48 12 5).toInt ≤ 501; exact hI48R.2.1), (by show (-1) ≤ (I48 12 6).toInt ∧ (I48 12 6).toInt ≤ 1000000; exact hI48R.2.2.1), (by show 0 ≤ (I48 12 9).toInt ∧ (I48 12 9).toInt ≤ 500; exact hI48R.2.2.2.1), (by show 0 ≤ (I48 12 13).toInt ∧ (I48 12 13).toInt ≤ 24; exact hI48R.2.2.2.2)⟩, (by show (I48 12 6).toInt ≤ 501 ∧ ((I48 12 7).toInt = 401 ∨ (I48 12 6).toInt ≤ 500); first | omega | decide), f49, Or.inl rfl⟩
            · refine lv_if_ne (tgt := 74) hx hb dX9_one_69 (by decide) (fun c53 => absurd (by decide) c53) (fun c53 => ?_)
              refine lv_iconst (v := 0) hx hb dX9_one_72 (by decide) ?_
              exact z_zret hx hb hr (by decide) hK hS (Nat.le_of_ble_eq_true rfl) (Nat.le_of_ble_eq_true rfl) hlocks dX9_one_73 (shC c, ad, I40, JX, PC c ad) hW ⟨I40, rfl, ⟨(by show 0 ≤ (I40 12 1).toInt ∧ (I40 12 1).toInt ≤ 500; exact hI40R.1), (by show 0 ≤ (I40 12 5).toInt ∧ (I40 12 5).toInt ≤ 501; exact hI40R.2.1), (by show (-1) ≤ (I40 12 6).toInt ∧ (I40 12 6).toInt ≤ 1000000; exact hI40R.2.2.1), (by show 0 ≤ (I40 12 9).toInt ∧ (I40 12 9).toInt ≤ 500; exact hI40R.2.2.2.1), (by show 0 ≤ (I40 12 13).toInt ∧ (I40 12 13).toInt ≤ 24; exact hI40R.2.2.2.2)⟩, (by show (I40 12 6).toInt ≤ 501 ∧ ((I40 12 7).toInt = 401 ∨ (I40 12 6).toInt ≤ 500); first | omega | decide), f41, Or.inr rfl⟩
          · have g54 := z_f_ne rfl z_l62 c35
            refine lv_iload_n hx hb dX9_one_52 rfl (lv_at hl 0 rfl) ?_
            refine lv_bipush (v := 61) hx hb dX9_one_53 (by decide) ?_
            refine lv_icmp_eq (tgt := 60) hx hb dX9_one_55 (by decide) (fun c55 => ?_) (fun c55 => ?_)
            · have g56 := z_f_eq rfl z_l61 c55
              refine lv_aload_n hx hb dX9_one_60 rfl (lv_at hl 1 rfl) ?_
              refine z_cv hW hS hA (va_runV (As := []) (rest := []) ⟨hx, hb, hml, hown, hts⟩ (sx_X9_step l G ad c I11 ⟨(by show 0 ≤ (I11 12 1).toInt ∧ (I11 12 1).toInt ≤ 500; exact hI11R.1), (by show 0 ≤ (I11 12 5).toInt ∧ (I11 12 5).toInt ≤ 501; exact hI11R.2.1), (by show (-1) ≤ (I11 12 6).toInt ∧ (I11 12 6).toInt ≤ 1000000; exact hI11R.2.2.1), (by show 0 ≤ (I11 12 9).toInt ∧ (I11 12 9).toInt ≤ 500; exact hI11R.2.2.2.1), (by show 0 ≤ (I11 12 13).toInt ∧ (I11 12 13).toInt ≤ 24; exact hI11R.2.2.2.2)⟩   (by show (I11 12 6).toInt ≤ 500; first | omega | decide) _) (cwV 0 hts gX9_one_X9_step rfl rfl rfl hy_X9_step ⟨Nat.le_of_ble_eq_true rfl, Nat.le_of_ble_eq_true rfl⟩) (z_preV (i := 12) hK hW rfl rfl) rfl rfl hl.1 rfl (lv_room (Nat.le_of_ble_eq_true rfl)) dX9_one_61 ⟨Nat.le_of_ble_eq_true rfl, Nat.le_of_ble_eq_true rfl⟩) (fun u1 H locs hp hW hS => ?_)
              obtain ⟨I57, e9, hI57R, hI57T, fI57⟩ := hp
              rw [e9] at hW
              have f58 := z_fr_sub (L := L_X9_one_9) f12 fI57 (by decide)
              have k59 : (I57 12 6).toInt ≤ 501 ∧ ((I57 12 7).toInt = 401 ∨ (I57 12 6).toInt ≤ 500) := hI57T
              refine lv_aload_n hx hb dX9_one_64 rfl (lv_at hl 1 rfl) ?_
              refine lv_iload_n hx hb dX9_one_65 rfl (lv_at hl 2 rfl) ?_
              refine z_ci hW hS hA (va_runV (As := [.int 9]) (rest := []) ⟨hx, hb, hml, hown, hts⟩ (sx_X9_sum_9 l G ad c I57 ⟨(by show 0 ≤ (I57 12 1).toInt ∧ (I57 12 1).toInt ≤ 500; exact hI57R.1), (by show 0 ≤ (I57 12 5).toInt ∧ (I57 12 5).toInt ≤ 501; exact hI57R.2.1), (by show (-1) ≤ (I57 12 6).toInt ∧ (I57 12 6).toInt ≤ 1000000; exact hI57R.2.2.1), (by show 0 ≤ (I57 12 9).toInt ∧ (I57 12 9).toInt ≤ 500; exact hI57R.2.2.2.1), (by show 0 ≤ (I57 12 13).toInt ∧ (I57 12 13).toInt ≤ 24; exact hI57R.2.2.2.2)⟩ (by show (I57 12 6).toInt ≤ 501 ∧ ((I57 12 7).toInt = 401 ∨ (I57 12 6).toInt ≤ 500); first | omega | decide) _) (cwV 1 hts gX9_one_X9_sum rfl rfl rfl hy_X9_sum ⟨Nat.le_of_ble_eq_true rfl, Nat.le_of_ble_eq_true rfl⟩) (z_preV (i := 12) hK hW rfl rfl) rfl rfl hl.1 rfl (lv_room (Nat.le_of_ble_eq_true rfl)) dX9_one_66 ⟨Nat.le_of_ble_eq_true rfl, Nat.le_of_ble_eq_true rfl⟩) (fun r u1 H locs hp hW hS => ?_)
              obtain ⟨I60, e9, hI60R, hI60T, fI60, hp⟩ := hp
              rw [e9] at hW
              have f61 := z_fr_sub (L := L_X9_one_9) f58 fI60 (by decide)
              have k62 : (I60 12 6).toInt ≤ 501 ∧ ((I60 12 7).toInt = 401 ∨ (I60 12 6).toInt ≤ 500) := hI60T
              rcases hp with rfl | rfl
              · refine lv_if_ne (tgt := 74) hx hb dX9_one_69 (by decide) (fun c63 => ?_) (fun c63 => absurd c63 (by decide))
                refine lv_aload_n hx hb dX9_one_74 rfl (lv_at hl 1 rfl) ?_
                refine lv_iload_n hx hb dX9_one_75 rfl (lv_at hl 0 rfl) ?_
                refine lv_bipush (v := 60) hx hb dX9_one_76 (by decide) ?_
                refine lv_icmp_ne (tgt := 86) hx hb dX9_one_78 (by decide) (fun c64 => ?_) (fun c64 => (by have g := z_f_eq rfl z_l60 c64; omega))
                have g65 := z_f_ne rfl z_l60 c64
                refine lv_iload_n hx hb dX9_one_86 rfl (lv_at hl 0 rfl) ?_
                refine lv_bipush (v := 62) hx hb dX9_one_87 (by decide) ?_
                refine lv_icmp_ne (tgt := 97) hx hb dX9_one_89 (by decide) (fun c66 => ?_) (fun c66 => (by have g := z_f_eq rfl z_l62 c66; omega))
                have g67 := z_f_ne rfl z_l62 c66
                refine lv_bipush (v := (-9)) hx hb dX9_one_97 (by decide) ?_
                refine z_cv hW hS hA (va_runV (As := [.int (-9)]) (rest := []) ⟨hx, hb, hml, hown, hts⟩ (sx_X9_emit l G ad c I60 ⟨(by show 0 ≤ (I60 12 1).toInt ∧ (I60 12 1).toInt ≤ 500; exact hI60R.1), (by show 0 ≤ (I60 12 5).toInt ∧ (I60 12 5).toInt ≤ 501; exact hI60R.2.1), (by show (-1) ≤ (I60 12 6).toInt ∧ (I60 12 6).toInt ≤ 1000000; exact hI60R.2.2.1), (by show 0 ≤ (I60 12 9).toInt ∧ (I60 12 9).toInt ≤ 500; exact hI60R.2.2.2.1), (by show 0 ≤ (I60 12 13).toInt ∧ (I60 12 13).toInt ≤ 24; exact hI60R.2.2.2.2)⟩ (-9) _) (cwV 1 hts gX9_one_X9_emit rfl rfl rfl hy_X9_emit ⟨Nat.le_of_ble_eq_true rfl, Nat.le_of_ble_eq_true rfl⟩) (z_preV (i := 12) hK hW rfl rfl) rfl rfl hl.1 rfl (lv_room (Nat.le_of_ble_eq_true rfl)) dX9_one_99 ⟨Nat.le_of_ble_eq_true rfl, Nat.le_of_ble_eq_true rfl⟩) (fun u1 H locs hp hW hS => ?_)
                obtain ⟨I68, e9, hI68R, fI68⟩ := hp
                rw [e9] at hW
                have f69 := z_fr_sub (L := L_X9_one_9) f61 fI68 (by decide)
                have k70 : (I68 12 6).toInt ≤ 501 ∧ ((I68 12 7).toInt = 401 ∨ (I68 12 6).toInt ≤ 500) := (by have q0 : (I68 12 6) = (I60 12 6) := (by rw [fI68 12 6 (by decide)]); have q1 : (I68 12 7) = (I60 12 7) := (by rw [fI68 12 7 (by decide)]); show (I68 12 6).toInt ≤ 501 ∧ ((I68 12 7).toInt = 401 ∨ (I68 12 6).toInt ≤ 500); rw [q0, q1]; first | omega | decide)
                have k71 : (I68 12 6).toInt = (I60 12 6).toInt := by rw [fI68 12 6 (by decide)]
                have k72 : (I68 12 7).toInt = (I60 12 7).toInt := by rw [fI68 12 7 (by decide)]
                refine lv_iconst (v := 1) hx hb dX9_one_102 (by decide) ?_
                exact z_zret hx hb hr (by decide) hK hS (Nat.le_of_ble_eq_true rfl) (Nat.le_of_ble_eq_true rfl) hlocks dX9_one_103 (shC c, ad, I68, JX, PC c ad) hW ⟨I68, rfl, ⟨(by show 0 ≤ (I68 12 1).toInt ∧ (I68 12 1).toInt ≤ 500; exact hI68R.1), (by show 0 ≤ (I68 12 5).toInt ∧ (I68 12 5).toInt ≤ 501; exact hI68R.2.1), (by show (-1) ≤ (I68 12 6).toInt ∧ (I68 12 6).toInt ≤ 1000000; exact hI68R.2.2.1), (by show 0 ≤ (I68 12 9).toInt ∧ (I68 12 9).toInt ≤ 500; exact hI68R.2.2.2.1), (by show 0 ≤ (I68 12 13).toInt ∧ (I68 12 13).toInt ≤ 24; exact hI68R.2.2.2.2)⟩, (by show (I68 12 6).toInt ≤ 501 ∧ ((I68 12 7).toInt = 401 ∨ (I68 12 6).toInt ≤ 500); first | omega | decide), f69, Or.inl rfl⟩
              · refine lv_if_ne (tgt := 74) hx hb dX9_one_69 (by decide) (fun c73 => absurd (by decide) c73) (fun c73 => ?_)
                refine lv_iconst (v := 0) hx hb dX9_one_72 (by decide) ?_
                exact z_zret hx hb hr (by decide) hK hS (Nat.le_of_ble_eq_true rfl) (Nat.le_of_ble_eq_true rfl) hlocks dX9_one_73 (shC c, ad, I60, JX, PC c ad) hW ⟨I60, rfl, ⟨(by show 0 ≤ (I60 12 1).toInt ∧ (I60 12 1).toInt ≤ 500; exact hI60R.1), (by show 0 ≤ (I60 12 5).toInt ∧ (I60 12 5).toInt ≤ 501; exact hI60R.2.1), (by show (-1) ≤ (I60 12 6).toInt ∧ (I60 12 6).toInt ≤ 1000000; exact hI60R.2.2.1), (by show 0 ≤ (I60 12 9).toInt ∧ (I60 12 9).toInt ≤ 500; exact hI60R.2.2.2.1), (by show 0 ≤ (I60 12 13).toInt ∧ (I60 12 13).toInt ≤ 24; exact hI60R.2.2.2.2)⟩, (by show (I60 12 6).toInt ≤ 501 ∧ ((I60 12 7).toInt = 401 ∨ (I60 12 6).toInt ≤ 500); first | omega | decide), f61, Or.inr rfl⟩
            · have g74 := z_f_ne rfl z_l61 c55
              refine lv_iconst (v := 0) hx hb dX9_one_58 (by decide) ?_
              exact z_zret hx hb hr (by decide) hK hS (Nat.le_of_ble_eq_true rfl) (Nat.le_of_ble_eq_true rfl) hlocks dX9_one_59 (shC c, ad, I11, JX, PC c ad) hW ⟨I11, rfl, ⟨(by show 0 ≤ (I11 12 1).toInt ∧ (I11 12 1).toInt ≤ 500; exact hI11R.1), (by show 0 ≤ (I11 12 5).toInt ∧ (I11 12 5).toInt ≤ 501; exact hI11R.2.1), (by show (-1) ≤ (I11 12 6).toInt ∧ (I11 12 6).toInt ≤ 1000000; exact hI11R.2.2.1), (by show 0 ≤ (I11 12 9).toInt ∧ (I11 12 9).toInt ≤ 500; exact hI11R.2.2.2.1), (by show 0 ≤ (I11 12 13).toInt ∧ (I11 12 13).toInt ≤ 24; exact hI11R.2.2.2.2)⟩, (by show (I11 12 6).toInt ≤ 501 ∧ ((I11 12 7).toInt = 401 ∨ (I11 12 6).toInt ≤ 500); first | omega | decide), f12, Or.inr rfl⟩
      · refine lv_if_ne (tgt := 35) hx hb dX9_one_30 (by decide) (fun c75 => absurd (by decide) c75) (fun c75 => ?_)
        refine lv_iconst (v := 0) hx hb dX9_one_33 (by decide) ?_
        exact z_zret hx hb hr (by decide) hK hS (Nat.le_of_ble_eq_true rfl) (Nat.le_of_ble_eq_true rfl) hlocks dX9_one_34 (shC c, ad, I11, JX, PC c ad) hW ⟨I11, rfl, ⟨(by show 0 ≤ (I11 12 1).toInt ∧ (I11 12 1).toInt ≤ 500; exact hI11R.1), (by show 0 ≤ (I11 12 5).toInt ∧ (I11 12 5).toInt ≤ 501; exact hI11R.2.1), (by show (-1) ≤ (I11 12 6).toInt ∧ (I11 12 6).toInt ≤ 1000000; exact hI11R.2.2.1), (by show 0 ≤ (I11 12 9).toInt ∧ (I11 12 9).toInt ≤ 500; exact hI11R.2.2.2.1), (by show 0 ≤ (I11 12 13).toInt ∧ (I11 12 13).toInt ≤ 24; exact hI11R.2.2.2.2)⟩, (by show (I11 12 6).toInt ≤ 501 ∧ ((I11 12 7).toInt = 401 ∨ (I11 12 6).toInt ≤ 500); first | omega | decide), f12, Or.inr rfl⟩
    · have g76 := z_f_eq rfl z_l123 c9
      refine lv_aload_n hx hb dX9_one_19 rfl (lv_at hl 0 rfl) ?_
      refine lv_iload_n hx hb dX9_one_20 rfl (lv_at hl 1 rfl) ?_
      refine z_ci hW hS hA (va_runV (As := [.int 9]) (rest := []) ⟨hx, hb, hml, hown, hts⟩ (sx_X9_opened_9 l G ad c I ⟨(by show 0 ≤ (I 12 1).toInt ∧ (I 12 1).toInt ≤ 500; exact hR.1), (by show 0 ≤ (I 12 5).toInt ∧ (I 12 5).toInt ≤ 501; exact hR.2.1), (by show (-1) ≤ (I 12 6).toInt ∧ (I 12 6).toInt ≤ 1000000; exact hR.2.2.1), (by show 0 ≤ (I 12 9).toInt ∧ (I 12 9).toInt ≤ 500; exact hR.2.2.2.1), (by show 0 ≤ (I 12 13).toInt ∧ (I 12 13).toInt ≤ 24; exact hR.2.2.2.2)⟩ (by show (I 12 6).toInt ≤ 501 ∧ ((I 12 7).toInt = 401 ∨ (I 12 6).toInt ≤ 500); first | omega | decide) (by show (I 12 6).toInt ≤ 500; first | omega | decide) _) (cwV 1 hts gX9_one_X9_opened rfl rfl rfl hy_X9_opened ⟨Nat.le_of_ble_eq_true rfl, Nat.le_of_ble_eq_true rfl⟩) (z_preV (i := 12) hK hW rfl rfl) rfl rfl hl.1 rfl (lv_room (Nat.le_of_ble_eq_true rfl)) dX9_one_21 ⟨Nat.le_of_ble_eq_true rfl, Nat.le_of_ble_eq_true rfl⟩) (fun r u1 H locs hp hW hS => ?_)
      obtain ⟨I77, e9, hI77R, hI77T, fI77, hp⟩ := hp
      rw [e9] at hW
      have f78 := z_fr_sub (L := L_X9_one_9) z_fr_0 fI77 (by decide)
      have k79 : (I77 12 6).toInt ≤ 501 ∧ ((I77 12 7).toInt = 401 ∨ (I77 12 6).toInt ≤ 500) := hI77T
      rcases hp with rfl | rfl
      · exact z_zret hx hb hr (by decide) hK hS (Nat.le_of_ble_eq_true rfl) (Nat.le_of_ble_eq_true rfl) hlocks dX9_one_24 (shC c, ad, I77, JX, PC c ad) hW ⟨I77, rfl, ⟨(by show 0 ≤ (I77 12 1).toInt ∧ (I77 12 1).toInt ≤ 500; exact hI77R.1), (by show 0 ≤ (I77 12 5).toInt ∧ (I77 12 5).toInt ≤ 501; exact hI77R.2.1), (by show (-1) ≤ (I77 12 6).toInt ∧ (I77 12 6).toInt ≤ 1000000; exact hI77R.2.2.1), (by show 0 ≤ (I77 12 9).toInt ∧ (I77 12 9).toInt ≤ 500; exact hI77R.2.2.2.1), (by show 0 ≤ (I77 12 13).toInt ∧ (I77 12 13).toInt ≤ 24; exact hI77R.2.2.2.2)⟩, (by show (I77 12 6).toInt ≤ 501 ∧ ((I77 12 7).toInt = 401 ∨ (I77 12 6).toInt ≤ 500); first | omega | decide), f78, Or.inl rfl⟩
      · exact z_zret hx hb hr (by decide) hK hS (Nat.le_of_ble_eq_true rfl) (Nat.le_of_ble_eq_true rfl) hlocks dX9_one_24 (shC c, ad, I77, JX, PC c ad) hW ⟨I77, rfl, ⟨(by show 0 ≤ (I77 12 1).toInt ∧ (I77 12 1).toInt ≤ 500; exact hI77R.1), (by show 0 ≤ (I77 12 5).toInt ∧ (I77 12 5).toInt ≤ 501; exact hI77R.2.1), (by show (-1) ≤ (I77 12 6).toInt ∧ (I77 12 6).toInt ≤ 1000000; exact hI77R.2.2.1), (by show 0 ≤ (I77 12 9).toInt ∧ (I77 12 9).toInt ≤ 500; exact hI77R.2.2.2.1), (by show 0 ≤ (I77 12 13).toInt ∧ (I77 12 13).toInt ≤ 24; exact hI77R.2.2.2.2)⟩, (by show (I77 12 6).toInt ≤ 501 ∧ ((I77 12 7).toInt = 401 ∨ (I77 12 6).toInt ≤ 500); first | omega | decide), f78, Or.inr rfl⟩
noncomputable def L_X9_all_9 : z_L := [(12, 6), (12, 7), (17, 999), (12, 9)]
theorem zj_X9_all_X9 : ∀ w ∈ wsX90, w ∈ wsX9_all := fun w h => (List.mem_cons_of_mem _ (List.mem_append_right _ h))
set_option maxHeartbeats 8000000 in
set_option maxRecDepth 100000 in
theorem sx_X9_all_9 (l : Launch) (G : z_G) (ad : Nat → Nat) (c : z_C) (I : z_I) (hR : z_iR I) (hT : z_iT I) : z_M l yX9_all wsX9_all { frames := 7, cells := 0, slots := 0, locals := 143 } [.ref (ad 12), .int 9] G (shC c, ad, I, JX, PC c ad) (fun r u1 => ∃ I1 : z_I, u1 = (shC c, ad, I1, JX, PC c ad) ∧ z_iR I1 ∧ z_iT I1 ∧ z_fr L_X9_all_9 I1 I ∧ (r = 1 ∨ r = 0)) 0 0 := by
  intro sz
  refine z_headQ (cc := cX9_all) (maxL := 3) (ret := (some .boolean)) (by decide) rfl (Nat.le_of_ble_eq_true rfl) ?_
  intro p e s m below meth c0 ls hIn hK hsz hW hl
  obtain ⟨hx, hb, hr, hml, hown, hts, hlocks, hname⟩ := hIn
  subst hsz
  have hown : s.vm.findClass RX9 = some m.cls := hown
  have hA : ∀ q : Nat, s.heap.size ≤ q → z_A (shC c, ad, I, JX, PC c ad) s.heap.size q := fun q h => Or.inr h
  generalize hAe : z_A (shC c, ad, I, JX, PC c ad) s.heap.size = A at *
  have hS : va_S A s.heap s.heap [] := va_S.rf
  have hl : lv_has ls 3 [(0, .ref (ad 12)), (1, .int 9)] := hl
  have kT : (I 12 6).toInt ≤ 501 ∧ ((I 12 7).toInt = 401 ∨ (I 12 6).toInt ≤ 500) := hT
  refine lv_aload_n hx hb dX9_all_0 rfl (lv_at hl 0 rfl) ?_
  refine lv_iload_n hx hb dX9_all_1 rfl (lv_at hl 1 rfl) ?_
  refine z_ci hW hS hA (va_runV (As := [.int 9]) (rest := []) ⟨hx, hb, hml, hown, hts⟩ (sx_X9_one_9 l G ad c I ⟨(by show 0 ≤ (I 12 1).toInt ∧ (I 12 1).toInt ≤ 500; exact hR.1), (by show 0 ≤ (I 12 5).toInt ∧ (I 12 5).toInt ≤ 501; exact hR.2.1), (by show (-1) ≤ (I 12 6).toInt ∧ (I 12 6).toInt ≤ 1000000; exact hR.2.2.1), (by show 0 ≤ (I 12 9).toInt ∧ (I 12 9).toInt ≤ 500; exact hR.2.2.2.1), (by show 0 ≤ (I 12 13).toInt ∧ (I 12 13).toInt ≤ 24; exact hR.2.2.2.2)⟩ (by show (I 12 6).toInt ≤ 501 ∧ ((I 12 7).toInt = 401 ∨ (I 12 6).toInt ≤ 500); first | omega | decide) _) (cwV 1 hts gX9_all_X9_one rfl rfl rfl hy_X9_one ⟨Nat.le_of_ble_eq_true rfl, Nat.le_of_ble_eq_true rfl⟩) (z_preV (i := 12) hK hW rfl rfl) rfl rfl hl.1 rfl (lv_room (Nat.le_of_ble_eq_true rfl)) dX9_all_2 ⟨Nat.le_of_ble_eq_true rfl, Nat.le_of_ble_eq_true rfl⟩) (fun r u1 H locs hp hW hS => ?_)
  obtain ⟨I1, e9, hI1R, hI1T, fI1, hp⟩ := hp
  rw [e9] at hW
  have f2 := z_fr_sub (L := L_X9_all_9) z_fr_0 fI1 (by decide)
  have k3 : (I1 12 6).toInt ≤ 501 ∧ ((I1 12 7).toInt = 401 ∨ (I1 12 6).toInt ≤ 500) := hI1T
  rcases hp with rfl | rfl
  · refine lv_if_ne (tgt := 10) hx hb dX9_all_5 (by decide) (fun c4 => ?_) (fun c4 => absurd c4 (by decide))
    refine lv_iconst (v := 0) hx hb dX9_all_10 (by decide) ?_
    refine lv_istore_n (lv' := [(2, .int 0), (0, .ref (ad 12)), (1, .int 9)]) hx hb dX9_all_11 rfl hl (by decide) rfl (fun ls hl => ?_)
    have lp5 : ∀ (f : Nat) (y6 : Int32) (I7 : z_I) (H : Heap) (locs : List Loc) (ls : Array Slot), (2147483647 < y6.toInt + (f : Int)) → (0 ≤ y6.toInt) → (z_iR I7) → (z_iT I7) → (z_fr L_X9_all_9 I7 I) → z_W G A (shC c, ad, I7, JX, PC c ad) H → va_S A s.heap H locs → lv_has ls 3 [(2, .int y6), (0, .ref (ad 12)), (1, .int 9)] → W p l e (headSpec wsX9_all { frames := 7, cells := 0, slots := 0, locals := 143 }).room s m ([.ref (ad 12), .int 9] : List Value).toArray below meth c0 H locs 0 0 (MQ below (va_Qi (fun (r : Int32) (u1 : z_U) => ∃ I1 : z_I, u1 = (shC c, ad, I1, JX, PC c ad) ∧ z_iR I1 ∧ z_iT I1 ∧ z_fr L_X9_all_9 I1 I ∧ (r = 1 ∨ r = 0)) (z_B G A) A) ([.ref (ad 12), .int 9] : List Value).toArray s 0 0 A) (F0 m 12 ls []) := by
      intro f
      induction f with
      | zero => intro y6 I7  H locs ls lp5m lp5l2 lp5R lp5T lp5fr hW hS hl; exact absurd lp5m (by have := Int32.toInt_lt y6; have := Int32.le_toInt y6; omega)
      | succ f lp5ih =>
        intro y6 I7  H locs ls lp5m lp5l2 lp5R lp5T lp5fr hW hS hl
        have k8 : (I7 12 6).toInt ≤ 501 ∧ ((I7 12 7).toInt = 401 ∨ (I7 12 6).toInt ≤ 500) := lp5T
        refine lv_iload_n hx hb dX9_all_12 rfl (lv_at hl 0 rfl) ?_
        refine lv_sipush (v := 500) hx hb dX9_all_13 (by decide) ?_
        refine lv_icmp_ge (tgt := 55) hx hb dX9_all_16 (by decide) (fun c9 => ?_) (fun c9 => ?_)
        · have g10 := z_f_ge rfl z_l500 c9
          have b11 := Int32.toInt_lt y6
          refine lv_iconst (v := 1) hx hb dX9_all_55 (by decide) ?_
          exact z_zret hx hb hr (by decide) hK hS (Nat.le_of_ble_eq_true rfl) (Nat.le_of_ble_eq_true rfl) hlocks dX9_all_56 (shC c, ad, I7, JX, PC c ad) hW ⟨I7, rfl, ⟨(by show 0 ≤ (I7 12 1).toInt ∧ (I7 12 1).toInt ≤ 500; exact lp5R.1), (by show 0 ≤ (I7 12 5).toInt ∧ (I7 12 5).toInt ≤ 501; exact lp5R.2.1), (by show (-1) ≤ (I7 12 6).toInt ∧ (I7 12 6).toInt ≤ 1000000; exact lp5R.2.2.1), (by show 0 ≤ (I7 12 9).toInt ∧ (I7 12 9).toInt ≤ 500; exact lp5R.2.2.2.1), (by show 0 ≤ (I7 12 13).toInt ∧ (I7 12 13).toInt ≤ 24; exact lp5R.2.2.2.2)⟩, (by show (I7 12 6).toInt ≤ 501 ∧ ((I7 12 7).toInt = 401 ∨ (I7 12 6).toInt ≤ 500); first | omega | decide), lp5fr, Or.inl rfl⟩
        · have g12 := z_f_nge rfl z_l500 c9
          have b13 := Int32.toInt_lt y6
          refine lv_aload_n hx hb dX9_all_19 rfl (lv_at hl 1 rfl) ?_
          refine z_get (T := TX9) (N := 14) (ci := 9) (i := 12) (v := .int (I7 12 7)) hx hb hts zj_X9_all_X9 hown hK hW rfl rfl 7 (by decide) (hts (.fieldLink RX9 62 "PetrolBoard$Reader" "token" "I") (me_s (me_l (me_l (List.mem_of_getElem? (i := 0) rfl))))) (fun _ h => h) rfl dX9_all_20 ?_
          refine lv_sipush (v := 310) hx hb dX9_all_23 (by decide) ?_
          refine lv_icmp_ne (tgt := 55) hx hb dX9_all_26 (by decide) (fun c14 => ?_) (fun c14 => ?_)
          · have g15 := z_f_ne rfl z_l310 c14
            have b16 := Int32.toInt_lt (I7 12 7)
            refine lv_iconst (v := 1) hx hb dX9_all_55 (by decide) ?_
            exact z_zret hx hb hr (by decide) hK hS (Nat.le_of_ble_eq_true rfl) (Nat.le_of_ble_eq_true rfl) hlocks dX9_all_56 (shC c, ad, I7, JX, PC c ad) hW ⟨I7, rfl, ⟨(by show 0 ≤ (I7 12 1).toInt ∧ (I7 12 1).toInt ≤ 500; exact lp5R.1), (by show 0 ≤ (I7 12 5).toInt ∧ (I7 12 5).toInt ≤ 501; exact lp5R.2.1), (by show (-1) ≤ (I7 12 6).toInt ∧ (I7 12 6).toInt ≤ 1000000; exact lp5R.2.2.1), (by show 0 ≤ (I7 12 9).toInt ∧ (I7 12 9).toInt ≤ 500; exact lp5R.2.2.2.1), (by show 0 ≤ (I7 12 13).toInt ∧ (I7 12 13).toInt ≤ 24; exact lp5R.2.2.2.2)⟩, (by show (I7 12 6).toInt ≤ 501 ∧ ((I7 12 7).toInt = 401 ∨ (I7 12 6).toInt ≤ 500); first | omega | decide), lp5fr, Or.inl rfl⟩
          · have g17 := z_f_eq rfl z_l310 c14
            have b18 := Int32.toInt_lt (I7 12 7)
            refine lv_aload_n hx hb dX9_all_29 rfl (lv_at hl 1 rfl) ?_
            refine z_cv hW hS hA (va_runV (As := []) (rest := []) ⟨hx, hb, hml, hown, hts⟩ (sx_X9_step l G ad c I7 ⟨(by show 0 ≤ (I7 12 1).toInt ∧ (I7 12 1).toInt ≤ 500; exact lp5R.1), (by show 0 ≤ (I7 12 5).toInt ∧ (I7 12 5).toInt ≤ 501; exact lp5R.2.1), (by show (-1) ≤ (I7 12 6).toInt ∧ (I7 12 6).toInt ≤ 1000000; exact lp5R.2.2.1), (by show 0 ≤ (I7 12 9).toInt ∧ (I7 12 9).toInt ≤ 500; exact lp5R.2.2.2.1), (by show 0 ≤ (I7 12 13).toInt ∧ (I7 12 13).toInt ≤ 24; exact lp5R.2.2.2.2)⟩   (by show (I7 12 6).toInt ≤ 500; first | omega | decide) _) (cwV 0 hts gX9_all_X9_step rfl rfl rfl hy_X9_step ⟨Nat.le_of_ble_eq_true rfl, Nat.le_of_ble_eq_true rfl⟩) (z_preV (i := 12) hK hW rfl rfl) rfl rfl hl.1 rfl (lv_room (Nat.le_of_ble_eq_true rfl)) dX9_all_30 ⟨Nat.le_of_ble_eq_true rfl, Nat.le_of_ble_eq_true rfl⟩) (fun u1 H locs hp hW hS => ?_)
            obtain ⟨I19, e9, hI19R, hI19T, fI19⟩ := hp
            rw [e9] at hW
            have f20 := z_fr_sub (L := L_X9_all_9) lp5fr fI19 (by decide)
            have k21 : (I19 12 6).toInt ≤ 501 ∧ ((I19 12 7).toInt = 401 ∨ (I19 12 6).toInt ≤ 500) := hI19T
            refine lv_aload_n hx hb dX9_all_33 rfl (lv_at hl 1 rfl) ?_
            refine lv_iload_n hx hb dX9_all_34 rfl (lv_at hl 2 rfl) ?_
            refine z_ci hW hS hA (va_runV (As := [.int 9]) (rest := []) ⟨hx, hb, hml, hown, hts⟩ (sx_X9_one_9 l G ad c I19 ⟨(by show 0 ≤ (I19 12 1).toInt ∧ (I19 12 1).toInt ≤ 500; exact hI19R.1), (by show 0 ≤ (I19 12 5).toInt ∧ (I19 12 5).toInt ≤ 501; exact hI19R.2.1), (by show (-1) ≤ (I19 12 6).toInt ∧ (I19 12 6).toInt ≤ 1000000; exact hI19R.2.2.1), (by show 0 ≤ (I19 12 9).toInt ∧ (I19 12 9).toInt ≤ 500; exact hI19R.2.2.2.1), (by show 0 ≤ (I19 12 13).toInt ∧ (I19 12 13).toInt ≤ 24; exact hI19R.2.2.2.2)⟩ (by show (I19 12 6).toInt ≤ 501 ∧ ((I19 12 7).toInt = 401 ∨ (I19 12 6).toInt ≤ 500); first | omega | decide) _) (cwV 1 hts gX9_all_X9_one rfl rfl rfl hy_X9_one ⟨Nat.le_of_ble_eq_true rfl, Nat.le_of_ble_eq_true rfl⟩) (z_preV (i := 12) hK hW rfl rfl) rfl rfl hl.1 rfl (lv_room (Nat.le_of_ble_eq_true rfl)) dX9_all_35 ⟨Nat.le_of_ble_eq_true rfl, Nat.le_of_ble_eq_true rfl⟩) (fun r u1 H locs hp hW hS => ?_)
            obtain ⟨I22, e9, hI22R, hI22T, fI22, hp⟩ := hp
            rw [e9] at hW
            have f23 := z_fr_sub (L := L_X9_all_9) f20 fI22 (by decide)
            have k24 : (I22 12 6).toInt ≤ 501 ∧ ((I22 12 7).toInt = 401 ∨ (I22 12 6).toInt ≤ 500) := hI22T
            rcases hp with rfl | rfl
            · refine lv_if_ne (tgt := 43) hx hb dX9_all_38 (by decide) (fun c25 => ?_) (fun c25 => absurd c25 (by decide))
              refine lv_aload_n hx hb dX9_all_43 rfl (lv_at hl 1 rfl) ?_
              refine lv_bipush (v := (-10)) hx hb dX9_all_44 (by decide) ?_
              refine z_cv hW hS hA (va_runV (As := [.int (-10)]) (rest := []) ⟨hx, hb, hml, hown, hts⟩ (sx_X9_emit l G ad c I22 ⟨(by show 0 ≤ (I22 12 1).toInt ∧ (I22 12 1).toInt ≤ 500; exact hI22R.1), (by show 0 ≤ (I22 12 5).toInt ∧ (I22 12 5).toInt ≤ 501; exact hI22R.2.1), (by show (-1) ≤ (I22 12 6).toInt ∧ (I22 12 6).toInt ≤ 1000000; exact hI22R.2.2.1), (by show 0 ≤ (I22 12 9).toInt ∧ (I22 12 9).toInt ≤ 500; exact hI22R.2.2.2.1), (by show 0 ≤ (I22 12 13).toInt ∧ (I22 12 13).toInt ≤ 24; exact hI22R.2.2.2.2)⟩ (-10) _) (cwV 1 hts gX9_all_X9_emit rfl rfl rfl hy_X9_emit ⟨Nat.le_of_ble_eq_true rfl, Nat.le_of_ble_eq_true rfl⟩) (z_preV (i := 12) hK hW rfl rfl) rfl rfl hl.1 rfl (lv_room (Nat.le_of_ble_eq_true rfl)) dX9_all_46 ⟨Nat.le_of_ble_eq_true rfl, Nat.le_of_ble_eq_true rfl⟩) (fun u1 H locs hp hW hS => ?_)
              obtain ⟨I26, e9, hI26R, fI26⟩ := hp
              rw [e9] at hW
              have f27 := z_fr_sub (L := L_X9_all_9) f23 fI26 (by decide)
              have k28 : (I26 12 6).toInt ≤ 501 ∧ ((I26 12 7).toInt = 401 ∨ (I26 12 6).toInt ≤ 500) := (by have q0 : (I26 12 6) = (I22 12 6) := (by rw [fI26 12 6 (by decide)]); have q1 : (I26 12 7) = (I22 12 7) := (by rw [fI26 12 7 (by decide)]); show (I26 12 6).toInt ≤ 501 ∧ ((I26 12 7).toInt = 401 ∨ (I26 12 6).toInt ≤ 500); rw [q0, q1]; first | omega | decide)
              have k29 : (I26 12 6).toInt = (I22 12 6).toInt := by rw [fI26 12 6 (by decide)]
              have k30 : (I26 12 7).toInt = (I22 12 7).toInt := by rw [fI26 12 7 (by decide)]
              obtain ⟨x31, ex31⟩ : ∃ y : Int32, y = y6 + 1 := ⟨_, rfl⟩
              have tx31 : x31.toInt = y6.toInt + 1 := z_tadd ex31 rfl z_l1 (by omega) (by omega)
              refine lv_iinc (v := x31) (lv' := [(2, .int x31), (0, .ref (ad 12)), (1, .int 9)]) hx hb dX9_all_49 hl (k := 0) rfl (by rw [ex31]; rfl) (by decide) rfl (fun ls hl => ?_)
              refine lv_goto (tgt := 12) hx hb dX9_all_52 (by decide) ?_
              exact lp5ih x31 I26  _ _ _ (by omega) (by omega) ⟨(by show 0 ≤ (I26 12 1).toInt ∧ (I26 12 1).toInt ≤ 500; exact hI26R.1), (by show 0 ≤ (I26 12 5).toInt ∧ (I26 12 5).toInt ≤ 501; exact hI26R.2.1), (by show (-1) ≤ (I26 12 6).toInt ∧ (I26 12 6).toInt ≤ 1000000; exact hI26R.2.2.1), (by show 0 ≤ (I26 12 9).toInt ∧ (I26 12 9).toInt ≤ 500; exact hI26R.2.2.2.1), (by show 0 ≤ (I26 12 13).toInt ∧ (I26 12 13).toInt ≤ 24; exact hI26R.2.2.2.2)⟩ (by show (I26 12 6).toInt ≤ 501 ∧ ((I26 12 7).toInt = 401 ∨ (I26 12 6).toInt ≤ 500); first | omega | decide) f27 hW hS (lv_sub hl [0, 1, 2] rfl)
            · refine lv_if_ne (tgt := 43) hx hb dX9_all_38 (by decide) (fun c32 => absurd (by decide) c32) (fun c32 => ?_)
              refine lv_iconst (v := 0) hx hb dX9_all_41 (by decide) ?_
              exact z_zret hx hb hr (by decide) hK hS (Nat.le_of_ble_eq_true rfl) (Nat.le_of_ble_eq_true rfl) hlocks dX9_all_42 (shC c, ad, I22, JX, PC c ad) hW ⟨I22, rfl, ⟨(by show 0 ≤ (I22 12 1).toInt ∧ (I22 12 1).toInt ≤ 500; exact hI22R.1), (by show 0 ≤ (I22 12 5).toInt ∧ (I22 12 5).toInt ≤ 501; exact hI22R.2.1), (by show (-1) ≤ (I22 12 6).toInt ∧ (I22 12 6).toInt ≤ 1000000; exact hI22R.2.2.1), (by show 0 ≤ (I22 12 9).toInt ∧ (I22 12 9).toInt ≤ 500; exact hI22R.2.2.2.1), (by show 0 ≤ (I22 12 13).toInt ∧ (I22 12 13).toInt ≤ 24; exact hI22R.2.2.2.2)⟩, (by show (I22 12 6).toInt ≤ 501 ∧ ((I22 12 7).toInt = 401 ∨ (I22 12 6).toInt ≤ 500); first | omega | decide), f23, Or.inr rfl⟩
    exact lp5 4294967296 (0) I1  _ _ _ (z_m0u _) (by rw [z_l0]; omega) ⟨(by show 0 ≤ (I1 12 1).toInt ∧ (I1 12 1).toInt ≤ 500; exact hI1R.1), (by show 0 ≤ (I1 12 5).toInt ∧ (I1 12 5).toInt ≤ 501; exact hI1R.2.1), (by show (-1) ≤ (I1 12 6).toInt ∧ (I1 12 6).toInt ≤ 1000000; exact hI1R.2.2.1), (by show 0 ≤ (I1 12 9).toInt ∧ (I1 12 9).toInt ≤ 500; exact hI1R.2.2.2.1), (by show 0 ≤ (I1 12 13).toInt ∧ (I1 12 13).toInt ≤ 24; exact hI1R.2.2.2.2)⟩ (by show (I1 12 6).toInt ≤ 501 ∧ ((I1 12 7).toInt = 401 ∨ (I1 12 6).toInt ≤ 500); first | omega | decide) f2 hW hS (lv_sub hl [0, 1, 2] rfl)
  · refine lv_if_ne (tgt := 10) hx hb dX9_all_5 (by decide) (fun c33 => absurd (by decide) c33) (fun c33 => ?_)
    refine lv_iconst (v := 0) hx hb dX9_all_8 (by decide) ?_
    exact z_zret hx hb hr (by decide) hK hS (Nat.le_of_ble_eq_true rfl) (Nat.le_of_ble_eq_true rfl) hlocks dX9_all_9 (shC c, ad, I1, JX, PC c ad) hW ⟨I1, rfl, ⟨(by show 0 ≤ (I1 12 1).toInt ∧ (I1 12 1).toInt ≤ 500; exact hI1R.1), (by show 0 ≤ (I1 12 5).toInt ∧ (I1 12 5).toInt ≤ 501; exact hI1R.2.1), (by show (-1) ≤ (I1 12 6).toInt ∧ (I1 12 6).toInt ≤ 1000000; exact hI1R.2.2.1), (by show 0 ≤ (I1 12 9).toInt ∧ (I1 12 9).toInt ≤ 500; exact hI1R.2.2.2.1), (by show 0 ≤ (I1 12 13).toInt ∧ (I1 12 13).toInt ≤ 24; exact hI1R.2.2.2.2)⟩, (by show (I1 12 6).toInt ≤ 501 ∧ ((I1 12 7).toInt = 401 ∨ (I1 12 6).toInt ≤ 500); first | omega | decide), f2, Or.inr rfl⟩
noncomputable def L_X9_either_9 : z_L := [(12, 6), (12, 7), (17, 999), (12, 9)]
theorem zj_X9_either_X9 : ∀ w ∈ wsX90, w ∈ wsX9_either := fun w h => (List.mem_cons_of_mem _ (List.mem_append_right _ h))
set_option maxHeartbeats 8000000 in
set_option maxRecDepth 100000 in
theorem sx_X9_either_9 (l : Launch) (G : z_G) (ad : Nat → Nat) (c : z_C) (I : z_I) (hR : z_iR I) (hT : z_iT I) : z_M l yX9_either wsX9_either { frames := 8, cells := 0, slots := 0, locals := 165 } [.ref (ad 12), .int 9] G (shC c, ad, I, JX, PC c ad) (fun r u1 => ∃ I1 : z_I, u1 = (shC c, ad, I1, JX, PC c ad) ∧ z_iR I1 ∧ z_iT I1 ∧ z_fr L_X9_either_9 I1 I ∧ (r = 1 ∨ r = 0)) 0 0 := by
  intro sz
  refine z_headQ (cc := cX9_either) (maxL := 3) (ret := (some .boolean)) (by decide) rfl (Nat.le_of_ble_eq_true rfl) ?_
  intro p e s m below meth c0 ls hIn hK hsz hW hl
  obtain ⟨hx, hb, hr, hml, hown, hts, hlocks, hname⟩ := hIn
  subst hsz
  have hown : s.vm.findClass RX9 = some m.cls := hown
  have hA : ∀ q : Nat, s.heap.size ≤ q → z_A (shC c, ad, I, JX, PC c ad) s.heap.size q := fun q h => Or.inr h
  generalize hAe : z_A (shC c, ad, I, JX, PC c ad) s.heap.size = A at *
  have hS : va_S A s.heap s.heap [] := va_S.rf
  have hl : lv_has ls 3 [(0, .ref (ad 12)), (1, .int 9)] := hl
  have kT : (I 12 6).toInt ≤ 501 ∧ ((I 12 7).toInt = 401 ∨ (I 12 6).toInt ≤ 500) := hT
  refine lv_aload_n hx hb dX9_either_0 rfl (lv_at hl 0 rfl) ?_
  refine lv_iload_n hx hb dX9_either_1 rfl (lv_at hl 1 rfl) ?_
  refine z_ci hW hS hA (va_runV (As := [.int 9]) (rest := []) ⟨hx, hb, hml, hown, hts⟩ (sx_X9_all_9 l G ad c I ⟨(by show 0 ≤ (I 12 1).toInt ∧ (I 12 1).toInt ≤ 500; exact hR.1), (by show 0 ≤ (I 12 5).toInt ∧ (I 12 5).toInt ≤ 501; exact hR.2.1), (by show (-1) ≤ (I 12 6).toInt ∧ (I 12 6).toInt ≤ 1000000; exact hR.2.2.1), (by show 0 ≤ (I 12 9).toInt ∧ (I 12 9).toInt ≤ 500; exact hR.2.2.2.1), (by show 0 ≤ (I 12 13).toInt ∧ (I 12 13).toInt ≤ 24; exact hR.2.2.2.2)⟩ (by show (I 12 6).toInt ≤ 501 ∧ ((I 12 7).toInt = 401 ∨ (I 12 6).toInt ≤ 500); first | omega | decide) _) (cwV 1 hts gX9_either_X9_all rfl rfl rfl hy_X9_all ⟨Nat.le_of_ble_eq_true rfl, Nat.le_of_ble_eq_true rfl⟩) (z_preV (i := 12) hK hW rfl rfl) rfl rfl hl.1 rfl (lv_room (Nat.le_of_ble_eq_true rfl)) dX9_either_2 ⟨Nat.le_of_ble_eq_true rfl, Nat.le_of_ble_eq_true rfl⟩) (fun r u1 H locs hp hW hS => ?_)
  obtain ⟨I1, e9, hI1R, hI1T, fI1, hp⟩ := hp
  rw [e9] at hW
  have f2 := z_fr_sub (L := L_X9_either_9) z_fr_0 fI1 (by decide)
  have k3 : (I1 12 6).toInt ≤ 501 ∧ ((I1 12 7).toInt = 401 ∨ (I1 12 6).toInt ≤ 500) := hI1T
  rcases hp with rfl | rfl
  · refine lv_if_ne (tgt := 10) hx hb dX9_either_5 (by decide) (fun c4 => ?_) (fun c4 => absurd c4 (by decide))
    refine lv_iconst (v := 0) hx hb dX9_either_10 (by decide) ?_
    refine lv_istore_n (lv' := [(2, .int 0), (0, .ref (ad 12)), (1, .int 9)]) hx hb dX9_either_11 rfl hl (by decide) rfl (fun ls hl => ?_)
    have lp5 : ∀ (f : Nat) (y6 : Int32) (I7 : z_I) (H : Heap) (locs : List Loc) (ls : Array Slot), (2147483647 < y6.toInt + (f : Int)) → (0 ≤ y6.toInt) → (z_iR I7) → (z_iT I7) → (z_fr L_X9_either_9 I7 I) → z_W G A (shC c, ad, I7, JX, PC c ad) H → va_S A s.heap H locs → lv_has ls 3 [(2, .int y6), (0, .ref (ad 12)), (1, .int 9)] → W p l e (headSpec wsX9_either { frames := 8, cells := 0, slots := 0, locals := 165 }).room s m ([.ref (ad 12), .int 9] : List Value).toArray below meth c0 H locs 0 0 (MQ below (va_Qi (fun (r : Int32) (u1 : z_U) => ∃ I1 : z_I, u1 = (shC c, ad, I1, JX, PC c ad) ∧ z_iR I1 ∧ z_iT I1 ∧ z_fr L_X9_either_9 I1 I ∧ (r = 1 ∨ r = 0)) (z_B G A) A) ([.ref (ad 12), .int 9] : List Value).toArray s 0 0 A) (F0 m 12 ls []) := by
      intro f
      induction f with
      | zero => intro y6 I7  H locs ls lp5m lp5l2 lp5R lp5T lp5fr hW hS hl; exact absurd lp5m (by have := Int32.toInt_lt y6; have := Int32.le_toInt y6; omega)
      | succ f lp5ih =>
        intro y6 I7  H locs ls lp5m lp5l2 lp5R lp5T lp5fr hW hS hl
        have k8 : (I7 12 6).toInt ≤ 501 ∧ ((I7 12 7).toInt = 401 ∨ (I7 12 6).toInt ≤ 500) := lp5T
        refine lv_iload_n hx hb dX9_either_12 rfl (lv_at hl 0 rfl) ?_
        refine lv_sipush (v := 500) hx hb dX9_either_13 (by decide) ?_
        refine lv_icmp_ge (tgt := 55) hx hb dX9_either_16 (by decide) (fun c9 => ?_) (fun c9 => ?_)
        · have g10 := z_f_ge rfl z_l500 c9
          have b11 := Int32.toInt_lt y6
          refine lv_iconst (v := 1) hx hb dX9_either_55 (by decide) ?_
          exact z_zret hx hb hr (by decide) hK hS (Nat.le_of_ble_eq_true rfl) (Nat.le_of_ble_eq_true rfl) hlocks dX9_either_56 (shC c, ad, I7, JX, PC c ad) hW ⟨I7, rfl, ⟨(by show 0 ≤ (I7 12 1).toInt ∧ (I7 12 1).toInt ≤ 500; exact lp5R.1), (by show 0 ≤ (I7 12 5).toInt ∧ (I7 12 5).toInt ≤ 501; exact lp5R.2.1), (by show (-1) ≤ (I7 12 6).toInt ∧ (I7 12 6).toInt ≤ 1000000; exact lp5R.2.2.1), (by show 0 ≤ (I7 12 9).toInt ∧ (I7 12 9).toInt ≤ 500; exact lp5R.2.2.2.1), (by show 0 ≤ (I7 12 13).toInt ∧ (I7 12 13).toInt ≤ 24; exact lp5R.2.2.2.2)⟩, (by show (I7 12 6).toInt ≤ 501 ∧ ((I7 12 7).toInt = 401 ∨ (I7 12 6).toInt ≤ 500); first | omega | decide), lp5fr, Or.inl rfl⟩
        · have g12 := z_f_nge rfl z_l500 c9
          have b13 := Int32.toInt_lt y6
          refine lv_aload_n hx hb dX9_either_19 rfl (lv_at hl 1 rfl) ?_
          refine z_get (T := TX9) (N := 14) (ci := 9) (i := 12) (v := .int (I7 12 7)) hx hb hts zj_X9_either_X9 hown hK hW rfl rfl 7 (by decide) (hts (.fieldLink RX9 62 "PetrolBoard$Reader" "token" "I") (me_s (me_l (me_l (List.mem_of_getElem? (i := 0) rfl))))) (fun _ h => h) rfl dX9_either_20 ?_
          refine lv_sipush (v := 309) hx hb dX9_either_23 (by decide) ?_
          refine lv_icmp_ne (tgt := 55) hx hb dX9_either_26 (by decide) (fun c14 => ?_) (fun c14 => ?_)
          · have g15 := z_f_ne rfl z_l309 c14
            have b16 := Int32.toInt_lt (I7 12 7)
            refine lv_iconst (v := 1) hx hb dX9_either_55 (by decide) ?_
            exact z_zret hx hb hr (by decide) hK hS (Nat.le_of_ble_eq_true rfl) (Nat.le_of_ble_eq_true rfl) hlocks dX9_either_56 (shC c, ad, I7, JX, PC c ad) hW ⟨I7, rfl, ⟨(by show 0 ≤ (I7 12 1).toInt ∧ (I7 12 1).toInt ≤ 500; exact lp5R.1), (by show 0 ≤ (I7 12 5).toInt ∧ (I7 12 5).toInt ≤ 501; exact lp5R.2.1), (by show (-1) ≤ (I7 12 6).toInt ∧ (I7 12 6).toInt ≤ 1000000; exact lp5R.2.2.1), (by show 0 ≤ (I7 12 9).toInt ∧ (I7 12 9).toInt ≤ 500; exact lp5R.2.2.2.1), (by show 0 ≤ (I7 12 13).toInt ∧ (I7 12 13).toInt ≤ 24; exact lp5R.2.2.2.2)⟩, (by show (I7 12 6).toInt ≤ 501 ∧ ((I7 12 7).toInt = 401 ∨ (I7 12 6).toInt ≤ 500); first | omega | decide), lp5fr, Or.inl rfl⟩
          · have g17 := z_f_eq rfl z_l309 c14
            have b18 := Int32.toInt_lt (I7 12 7)
            refine lv_aload_n hx hb dX9_either_29 rfl (lv_at hl 1 rfl) ?_
            refine z_cv hW hS hA (va_runV (As := []) (rest := []) ⟨hx, hb, hml, hown, hts⟩ (sx_X9_step l G ad c I7 ⟨(by show 0 ≤ (I7 12 1).toInt ∧ (I7 12 1).toInt ≤ 500; exact lp5R.1), (by show 0 ≤ (I7 12 5).toInt ∧ (I7 12 5).toInt ≤ 501; exact lp5R.2.1), (by show (-1) ≤ (I7 12 6).toInt ∧ (I7 12 6).toInt ≤ 1000000; exact lp5R.2.2.1), (by show 0 ≤ (I7 12 9).toInt ∧ (I7 12 9).toInt ≤ 500; exact lp5R.2.2.2.1), (by show 0 ≤ (I7 12 13).toInt ∧ (I7 12 13).toInt ≤ 24; exact lp5R.2.2.2.2)⟩   (by show (I7 12 6).toInt ≤ 500; first | omega | decide) _) (cwV 0 hts gX9_either_X9_step rfl rfl rfl hy_X9_step ⟨Nat.le_of_ble_eq_true rfl, Nat.le_of_ble_eq_true rfl⟩) (z_preV (i := 12) hK hW rfl rfl) rfl rfl hl.1 rfl (lv_room (Nat.le_of_ble_eq_true rfl)) dX9_either_30 ⟨Nat.le_of_ble_eq_true rfl, Nat.le_of_ble_eq_true rfl⟩) (fun u1 H locs hp hW hS => ?_)
            obtain ⟨I19, e9, hI19R, hI19T, fI19⟩ := hp
            rw [e9] at hW
            have f20 := z_fr_sub (L := L_X9_either_9) lp5fr fI19 (by decide)
            have k21 : (I19 12 6).toInt ≤ 501 ∧ ((I19 12 7).toInt = 401 ∨ (I19 12 6).toInt ≤ 500) := hI19T
            refine lv_aload_n hx hb dX9_either_33 rfl (lv_at hl 1 rfl) ?_
            refine lv_iload_n hx hb dX9_either_34 rfl (lv_at hl 2 rfl) ?_
            refine z_ci hW hS hA (va_runV (As := [.int 9]) (rest := []) ⟨hx, hb, hml, hown, hts⟩ (sx_X9_all_9 l G ad c I19 ⟨(by show 0 ≤ (I19 12 1).toInt ∧ (I19 12 1).toInt ≤ 500; exact hI19R.1), (by show 0 ≤ (I19 12 5).toInt ∧ (I19 12 5).toInt ≤ 501; exact hI19R.2.1), (by show (-1) ≤ (I19 12 6).toInt ∧ (I19 12 6).toInt ≤ 1000000; exact hI19R.2.2.1), (by show 0 ≤ (I19 12 9).toInt ∧ (I19 12 9).toInt ≤ 500; exact hI19R.2.2.2.1), (by show 0 ≤ (I19 12 13).toInt ∧ (I19 12 13).toInt ≤ 24; exact hI19R.2.2.2.2)⟩ (by show (I19 12 6).toInt ≤ 501 ∧ ((I19 12 7).toInt = 401 ∨ (I19 12 6).toInt ≤ 500); first | omega | decide) _) (cwV 1 hts gX9_either_X9_all rfl rfl rfl hy_X9_all ⟨Nat.le_of_ble_eq_true rfl, Nat.le_of_ble_eq_true rfl⟩) (z_preV (i := 12) hK hW rfl rfl) rfl rfl hl.1 rfl (lv_room (Nat.le_of_ble_eq_true rfl)) dX9_either_35 ⟨Nat.le_of_ble_eq_true rfl, Nat.le_of_ble_eq_true rfl⟩) (fun r u1 H locs hp hW hS => ?_)
            obtain ⟨I22, e9, hI22R, hI22T, fI22, hp⟩ := hp
            rw [e9] at hW
            have f23 := z_fr_sub (L := L_X9_either_9) f20 fI22 (by decide)
            have k24 : (I22 12 6).toInt ≤ 501 ∧ ((I22 12 7).toInt = 401 ∨ (I22 12 6).toInt ≤ 500) := hI22T
            rcases hp with rfl | rfl
            · refine lv_if_ne (tgt := 43) hx hb dX9_either_38 (by decide) (fun c25 => ?_) (fun c25 => absurd c25 (by decide))
              refine lv_aload_n hx hb dX9_either_43 rfl (lv_at hl 1 rfl) ?_
              refine lv_bipush (v := (-11)) hx hb dX9_either_44 (by decide) ?_
              refine z_cv hW hS hA (va_runV (As := [.int (-11)]) (rest := []) ⟨hx, hb, hml, hown, hts⟩ (sx_X9_emit l G ad c I22 ⟨(by show 0 ≤ (I22 12 1).toInt ∧ (I22 12 1).toInt ≤ 500; exact hI22R.1), (by show 0 ≤ (I22 12 5).toInt ∧ (I22 12 5).toInt ≤ 501; exact hI22R.2.1), (by show (-1) ≤ (I22 12 6).toInt ∧ (I22 12 6).toInt ≤ 1000000; exact hI22R.2.2.1), (by show 0 ≤ (I22 12 9).toInt ∧ (I22 12 9).toInt ≤ 500; exact hI22R.2.2.2.1), (by show 0 ≤ (I22 12 13).toInt ∧ (I22 12 13).toInt ≤ 24; exact hI22R.2.2.2.2)⟩ (-11) _) (cwV 1 hts gX9_either_X9_emit rfl rfl rfl hy_X9_emit ⟨Nat.le_of_ble_eq_true rfl, Nat.le_of_ble_eq_true rfl⟩) (z_preV (i := 12) hK hW rfl rfl) rfl rfl hl.1 rfl (lv_room (Nat.le_of_ble_eq_true rfl)) dX9_either_46 ⟨Nat.le_of_ble_eq_true rfl, Nat.le_of_ble_eq_true rfl⟩) (fun u1 H locs hp hW hS => ?_)
              obtain ⟨I26, e9, hI26R, fI26⟩ := hp
              rw [e9] at hW
              have f27 := z_fr_sub (L := L_X9_either_9) f23 fI26 (by decide)
              have k28 : (I26 12 6).toInt ≤ 501 ∧ ((I26 12 7).toInt = 401 ∨ (I26 12 6).toInt ≤ 500) := (by have q0 : (I26 12 6) = (I22 12 6) := (by rw [fI26 12 6 (by decide)]); have q1 : (I26 12 7) = (I22 12 7) := (by rw [fI26 12 7 (by decide)]); show (I26 12 6).toInt ≤ 501 ∧ ((I26 12 7).toInt = 401 ∨ (I26 12 6).toInt ≤ 500); rw [q0, q1]; first | omega | decide)
              have k29 : (I26 12 6).toInt = (I22 12 6).toInt := by rw [fI26 12 6 (by decide)]
              have k30 : (I26 12 7).toInt = (I22 12 7).toInt := by rw [fI26 12 7 (by decide)]
              obtain ⟨x31, ex31⟩ : ∃ y : Int32, y = y6 + 1 := ⟨_, rfl⟩
              have tx31 : x31.toInt = y6.toInt + 1 := z_tadd ex31 rfl z_l1 (by omega) (by omega)
              refine lv_iinc (v := x31) (lv' := [(2, .int x31), (0, .ref (ad 12)), (1, .int 9)]) hx hb dX9_either_49 hl (k := 0) rfl (by rw [ex31]; rfl) (by decide) rfl (fun ls hl => ?_)
              refine lv_goto (tgt := 12) hx hb dX9_either_52 (by decide) ?_
              exact lp5ih x31 I26  _ _ _ (by omega) (by omega) ⟨(by show 0 ≤ (I26 12 1).toInt ∧ (I26 12 1).toInt ≤ 500; exact hI26R.1), (by show 0 ≤ (I26 12 5).toInt ∧ (I26 12 5).toInt ≤ 501; exact hI26R.2.1), (by show (-1) ≤ (I26 12 6).toInt ∧ (I26 12 6).toInt ≤ 1000000; exact hI26R.2.2.1), (by show 0 ≤ (I26 12 9).toInt ∧ (I26 12 9).toInt ≤ 500; exact hI26R.2.2.2.1), (by show 0 ≤ (I26 12 13).toInt ∧ (I26 12 13).toInt ≤ 24; exact hI26R.2.2.2.2)⟩ (by show (I26 12 6).toInt ≤ 501 ∧ ((I26 12 7).toInt = 401 ∨ (I26 12 6).toInt ≤ 500); first | omega | decide) f27 hW hS (lv_sub hl [0, 1, 2] rfl)
            · refine lv_if_ne (tgt := 43) hx hb dX9_either_38 (by decide) (fun c32 => absurd (by decide) c32) (fun c32 => ?_)
              refine lv_iconst (v := 0) hx hb dX9_either_41 (by decide) ?_
              exact z_zret hx hb hr (by decide) hK hS (Nat.le_of_ble_eq_true rfl) (Nat.le_of_ble_eq_true rfl) hlocks dX9_either_42 (shC c, ad, I22, JX, PC c ad) hW ⟨I22, rfl, ⟨(by show 0 ≤ (I22 12 1).toInt ∧ (I22 12 1).toInt ≤ 500; exact hI22R.1), (by show 0 ≤ (I22 12 5).toInt ∧ (I22 12 5).toInt ≤ 501; exact hI22R.2.1), (by show (-1) ≤ (I22 12 6).toInt ∧ (I22 12 6).toInt ≤ 1000000; exact hI22R.2.2.1), (by show 0 ≤ (I22 12 9).toInt ∧ (I22 12 9).toInt ≤ 500; exact hI22R.2.2.2.1), (by show 0 ≤ (I22 12 13).toInt ∧ (I22 12 13).toInt ≤ 24; exact hI22R.2.2.2.2)⟩, (by show (I22 12 6).toInt ≤ 501 ∧ ((I22 12 7).toInt = 401 ∨ (I22 12 6).toInt ≤ 500); first | omega | decide), f23, Or.inr rfl⟩
    exact lp5 4294967296 (0) I1  _ _ _ (z_m0u _) (by rw [z_l0]; omega) ⟨(by show 0 ≤ (I1 12 1).toInt ∧ (I1 12 1).toInt ≤ 500; exact hI1R.1), (by show 0 ≤ (I1 12 5).toInt ∧ (I1 12 5).toInt ≤ 501; exact hI1R.2.1), (by show (-1) ≤ (I1 12 6).toInt ∧ (I1 12 6).toInt ≤ 1000000; exact hI1R.2.2.1), (by show 0 ≤ (I1 12 9).toInt ∧ (I1 12 9).toInt ≤ 500; exact hI1R.2.2.2.1), (by show 0 ≤ (I1 12 13).toInt ∧ (I1 12 13).toInt ≤ 24; exact hI1R.2.2.2.2)⟩ (by show (I1 12 6).toInt ≤ 501 ∧ ((I1 12 7).toInt = 401 ∨ (I1 12 6).toInt ≤ 500); first | omega | decide) f2 hW hS (lv_sub hl [0, 1, 2] rfl)
  · refine lv_if_ne (tgt := 10) hx hb dX9_either_5 (by decide) (fun c33 => absurd (by decide) c33) (fun c33 => ?_)
    refine lv_iconst (v := 0) hx hb dX9_either_8 (by decide) ?_
    exact z_zret hx hb hr (by decide) hK hS (Nat.le_of_ble_eq_true rfl) (Nat.le_of_ble_eq_true rfl) hlocks dX9_either_9 (shC c, ad, I1, JX, PC c ad) hW ⟨I1, rfl, ⟨(by show 0 ≤ (I1 12 1).toInt ∧ (I1 12 1).toInt ≤ 500; exact hI1R.1), (by show 0 ≤ (I1 12 5).toInt ∧ (I1 12 5).toInt ≤ 501; exact hI1R.2.1), (by show (-1) ≤ (I1 12 6).toInt ∧ (I1 12 6).toInt ≤ 1000000; exact hI1R.2.2.1), (by show 0 ≤ (I1 12 9).toInt ∧ (I1 12 9).toInt ≤ 500; exact hI1R.2.2.2.1), (by show 0 ≤ (I1 12 13).toInt ∧ (I1 12 13).toInt ≤ 24; exact hI1R.2.2.2.2)⟩, (by show (I1 12 6).toInt ≤ 501 ∧ ((I1 12 7).toInt = 401 ∨ (I1 12 6).toInt ≤ 500); first | omega | decide), f2, Or.inr rfl⟩
noncomputable def L_X9_atom_8 : z_L := [(12, 6), (12, 7), (17, 999), (12, 9)]
set_option maxHeartbeats 8000000 in
set_option maxRecDepth 100000 in
theorem sx_X9_atom_8 (l : Launch) (G : z_G) (ad : Nat → Nat) (c : z_C) (I : z_I) (hR : z_iR I) (hT : z_iT I) : z_M l yX9_atom wsX9_atom { frames := 6, cells := 0, slots := 0, locals := 121 } [.ref (ad 12), .int 8] G (shC c, ad, I, JX, PC c ad) (fun r u1 => ∃ I1 : z_I, u1 = (shC c, ad, I1, JX, PC c ad) ∧ z_iR I1 ∧ z_iT I1 ∧ z_fr L_X9_atom_8 I1 I ∧ (r = 1 ∨ r = 0)) 0 0 := by
  intro sz
  refine z_headQ (cc := cX9_atom) (maxL := 3) (ret := (some .boolean)) (by decide) rfl (Nat.le_of_ble_eq_true rfl) ?_
  intro p e s m below meth c0 ls hIn hK hsz hW hl
  obtain ⟨hx, hb, hr, hml, hown, hts, hlocks, hname⟩ := hIn
  subst hsz
  have hown : s.vm.findClass RX9 = some m.cls := hown
  have hA : ∀ q : Nat, s.heap.size ≤ q → z_A (shC c, ad, I, JX, PC c ad) s.heap.size q := fun q h => Or.inr h
  generalize hAe : z_A (shC c, ad, I, JX, PC c ad) s.heap.size = A at *
  have hS : va_S A s.heap s.heap [] := va_S.rf
  have hl : lv_has ls 3 [(0, .ref (ad 12)), (1, .int 8)] := hl
  have kT : (I 12 6).toInt ≤ 501 ∧ ((I 12 7).toInt = 401 ∨ (I 12 6).toInt ≤ 500) := hT
  refine lv_aload_n hx hb dX9_atom_0 rfl (lv_at hl 0 rfl) ?_
  refine z_get (T := TX9) (N := 14) (ci := 9) (i := 12) (v := .int (I 12 7)) hx hb hts zj_X9_atom_X9 hown hK hW rfl rfl 7 (by decide) (hts (.fieldLink RX9 62 "PetrolBoard$Reader" "token" "I") (me_s (me_l (me_l (List.mem_of_getElem? (i := 0) rfl))))) (fun _ h => h) rfl dX9_atom_1 ?_
  refine lv_sipush (v := 400) hx hb dX9_atom_4 (by decide) ?_
  refine lv_icmp_eq (tgt := 30) hx hb dX9_atom_7 (by decide) (fun c1 => ?_) (fun c1 => ?_)
  · have g2 := z_f_eq rfl z_l400 c1
    have b3 := Int32.toInt_lt (I 12 7)
    refine lv_aload_n hx hb dX9_atom_30 rfl (lv_at hl 0 rfl) ?_
    refine lv_aload_n hx hb dX9_atom_31 rfl (lv_at hl 0 rfl) ?_
    refine z_get (T := TX9) (N := 14) (ci := 9) (i := 12) (v := .int (I 12 7)) hx hb hts zj_X9_atom_X9 hown hK hW rfl rfl 7 (by decide) (hts (.fieldLink RX9 62 "PetrolBoard$Reader" "token" "I") (me_s (me_l (me_l (List.mem_of_getElem? (i := 0) rfl))))) (fun _ h => h) rfl dX9_atom_32 ?_
    refine lv_sipush (v := 400) hx hb dX9_atom_35 (by decide) ?_
    refine lv_icmp_ne (tgt := 48) hx hb dX9_atom_38 (by decide) (fun c4 => (by have g := z_f_ne rfl z_l400 c4; omega)) (fun c4 => ?_)
    have g5 := z_f_eq rfl z_l400 c4
    refine lv_aload_n hx hb dX9_atom_41 rfl (lv_at hl 0 rfl) ?_
    refine z_ci hW hS hA (va_runV (As := []) (rest := [.ref (ad 12)]) ⟨hx, hb, hml, hown, hts⟩ (sx_X9_numberHere l G ad c I ⟨(by show 0 ≤ (I 12 1).toInt ∧ (I 12 1).toInt ≤ 500; exact hR.1), (by show 0 ≤ (I 12 5).toInt ∧ (I 12 5).toInt ≤ 501; exact hR.2.1), (by show (-1) ≤ (I 12 6).toInt ∧ (I 12 6).toInt ≤ 1000000; exact hR.2.2.1), (by show 0 ≤ (I 12 9).toInt ∧ (I 12 9).toInt ≤ 500; exact hR.2.2.2.1), (by show 0 ≤ (I 12 13).toInt ∧ (I 12 13).toInt ≤ 24; exact hR.2.2.2.2)⟩  _) (cwV 0 hts gX9_atom_X9_numberHere rfl rfl rfl hy_X9_numberHere ⟨Nat.le_of_ble_eq_true rfl, Nat.le_of_ble_eq_true rfl⟩) (z_preV (i := 12) hK hW rfl rfl) rfl rfl hl.1 rfl (lv_room (Nat.le_of_ble_eq_true rfl)) dX9_atom_42 ⟨Nat.le_of_ble_eq_true rfl, Nat.le_of_ble_eq_true rfl⟩) (fun r u1 H locs hp hW hS => ?_)
    rw [hp] at hW
    refine lv_topi (fun x6 ex6 => ?_)
    refine lv_goto (tgt := 59) hx hb dX9_atom_45 (by decide) ?_
    refine z_cv hW hS hA (va_runV (As := [.int x6]) (rest := []) ⟨hx, hb, hml, hown, hts⟩ (sx_X9_emit l G ad c I ⟨(by show 0 ≤ (I 12 1).toInt ∧ (I 12 1).toInt ≤ 500; exact hR.1), (by show 0 ≤ (I 12 5).toInt ∧ (I 12 5).toInt ≤ 501; exact hR.2.1), (by show (-1) ≤ (I 12 6).toInt ∧ (I 12 6).toInt ≤ 1000000; exact hR.2.2.1), (by show 0 ≤ (I 12 9).toInt ∧ (I 12 9).toInt ≤ 500; exact hR.2.2.2.1), (by show 0 ≤ (I 12 13).toInt ∧ (I 12 13).toInt ≤ 24; exact hR.2.2.2.2)⟩ x6 _) (cwV 1 hts gX9_atom_X9_emit rfl rfl rfl hy_X9_emit ⟨Nat.le_of_ble_eq_true rfl, Nat.le_of_ble_eq_true rfl⟩) (z_preV (i := 12) hK hW rfl rfl) rfl rfl hl.1 rfl (lv_room (Nat.le_of_ble_eq_true rfl)) dX9_atom_59 ⟨Nat.le_of_ble_eq_true rfl, Nat.le_of_ble_eq_true rfl⟩) (fun u1 H locs hp hW hS => ?_)
    obtain ⟨I7, e9, hI7R, fI7⟩ := hp
    rw [e9] at hW
    have f8 := z_fr_sub (L := L_X9_atom_8) z_fr_0 fI7 (by decide)
    have k9 : (I7 12 6).toInt ≤ 501 ∧ ((I7 12 7).toInt = 401 ∨ (I7 12 6).toInt ≤ 500) := (by have q0 : (I7 12 6) = (I 12 6) := (by rw [fI7 12 6 (by decide)]); have q1 : (I7 12 7) = (I 12 7) := (by rw [fI7 12 7 (by decide)]); show (I7 12 6).toInt ≤ 501 ∧ ((I7 12 7).toInt = 401 ∨ (I7 12 6).toInt ≤ 500); rw [q0, q1]; first | omega | decide)
    have k10 : (I7 12 6).toInt = (I 12 6).toInt := by rw [fI7 12 6 (by decide)]
    have k11 : (I7 12 7).toInt = (I 12 7).toInt := by rw [fI7 12 7 (by decide)]
    refine lv_aload_n hx hb dX9_atom_62 rfl (lv_at hl 0 rfl) ?_
    refine z_cv hW hS hA (va_runV (As := []) (rest := []) ⟨hx, hb, hml, hown, hts⟩ (sx_X9_step l G ad c I7 ⟨(by show 0 ≤ (I7 12 1).toInt ∧ (I7 12 1).toInt ≤ 500; exact hI7R.1), (by show 0 ≤ (I7 12 5).toInt ∧ (I7 12 5).toInt ≤ 501; exact hI7R.2.1), (by show (-1) ≤ (I7 12 6).toInt ∧ (I7 12 6).toInt ≤ 1000000; exact hI7R.2.2.1), (by show 0 ≤ (I7 12 9).toInt ∧ (I7 12 9).toInt ≤ 500; exact hI7R.2.2.2.1), (by show 0 ≤ (I7 12 13).toInt ∧ (I7 12 13).toInt ≤ 24; exact hI7R.2.2.2.2)⟩   (by show (I7 12 6).toInt ≤ 500; first | omega | decide) _) (cwV 0 hts gX9_atom_X9_step rfl rfl rfl hy_X9_step ⟨Nat.le_of_ble_eq_true rfl, Nat.le_of_ble_eq_true rfl⟩) (z_preV (i := 12) hK hW rfl rfl) rfl rfl hl.1 rfl (lv_room (Nat.le_of_ble_eq_true rfl)) dX9_atom_63 ⟨Nat.le_of_ble_eq_true rfl, Nat.le_of_ble_eq_true rfl⟩) (fun u1 H locs hp hW hS => ?_)
    obtain ⟨I12, e9, hI12R, hI12T, fI12⟩ := hp
    rw [e9] at hW
    have f13 := z_fr_sub (L := L_X9_atom_8) f8 fI12 (by decide)
    have k14 : (I12 12 6).toInt ≤ 501 ∧ ((I12 12 7).toInt = 401 ∨ (I12 12 6).toInt ≤ 500) := hI12T
    refine lv_iconst (v := 1) hx hb dX9_atom_66 (by decide) ?_
    exact z_zret hx hb hr (by decide) hK hS (Nat.le_of_ble_eq_true rfl) (Nat.le_of_ble_eq_true rfl) hlocks dX9_atom_67 (shC c, ad, I12, JX, PC c ad) hW ⟨I12, rfl, ⟨(by show 0 ≤ (I12 12 1).toInt ∧ (I12 12 1).toInt ≤ 500; exact hI12R.1), (by show 0 ≤ (I12 12 5).toInt ∧ (I12 12 5).toInt ≤ 501; exact hI12R.2.1), (by show (-1) ≤ (I12 12 6).toInt ∧ (I12 12 6).toInt ≤ 1000000; exact hI12R.2.2.1), (by show 0 ≤ (I12 12 9).toInt ∧ (I12 12 9).toInt ≤ 500; exact hI12R.2.2.2.1), (by show 0 ≤ (I12 12 13).toInt ∧ (I12 12 13).toInt ≤ 24; exact hI12R.2.2.2.2)⟩, (by show (I12 12 6).toInt ≤ 501 ∧ ((I12 12 7).toInt = 401 ∨ (I12 12 6).toInt ≤ 500); first | omega | decide), f13, Or.inl rfl⟩
  · have g15 := z_f_ne rfl z_l400 c1
    have b16 := Int32.toInt_lt (I 12 7)
    refine lv_aload_n hx hb dX9_atom_10 rfl (lv_at hl 0 rfl) ?_
    refine z_get (T := TX9) (N := 14) (ci := 9) (i := 12) (v := .int (I 12 7)) hx hb hts zj_X9_atom_X9 hown hK hW rfl rfl 7 (by decide) (hts (.fieldLink RX9 62 "PetrolBoard$Reader" "token" "I") (me_s (me_l (me_l (List.mem_of_getElem? (i := 0) rfl))))) (fun _ h => h) rfl dX9_atom_11 ?_
    refine lv_sipush (v := 314) hx hb dX9_atom_14 (by decide) ?_
    refine lv_icmp_lt (tgt := 68) hx hb dX9_atom_17 (by decide) (fun c17 => ?_) (fun c17 => ?_)
    · have g18 := z_f_lt rfl z_l314 c17
      refine lv_aload_n hx hb dX9_atom_68 rfl (lv_at hl 0 rfl) ?_
      refine z_get (T := TX9) (N := 14) (ci := 9) (i := 12) (v := .int (I 12 7)) hx hb hts zj_X9_atom_X9 hown hK hW rfl rfl 7 (by decide) (hts (.fieldLink RX9 62 "PetrolBoard$Reader" "token" "I") (me_s (me_l (me_l (List.mem_of_getElem? (i := 0) rfl))))) (fun _ h => h) rfl dX9_atom_69 ?_
      refine lv_istore_n (lv' := [(2, .int (I 12 7)), (0, .ref (ad 12)), (1, .int 8)]) hx hb dX9_atom_72 rfl hl (by decide) rfl (fun ls hl => ?_)
      refine lv_iload_n hx hb dX9_atom_73 rfl (lv_at hl 0 rfl) ?_
      refine lv_bipush (v := 40) hx hb dX9_atom_74 (by decide) ?_
      refine lv_icmp_eq (tgt := 93) hx hb dX9_atom_76 (by decide) (fun c19 => ?_) (fun c19 => ?_)
      · have g20 := z_f_eq rfl z_l40 c19
        refine lv_iload_n hx hb dX9_atom_93 rfl (lv_at hl 2 rfl) ?_
        refine lv_bipush (v := 9) hx hb dX9_atom_94 (by decide) ?_
        refine lv_icmp_lt (tgt := 101) hx hb dX9_atom_96 (by decide) (fun c21 => ?_) (fun c21 => absurd (by decide) c21)
        refine lv_aload_n hx hb dX9_atom_101 rfl (lv_at hl 1 rfl) ?_
        refine z_cv hW hS hA (va_runV (As := []) (rest := []) ⟨hx, hb, hml, hown, hts⟩ (sx_X9_step l G ad c I ⟨(by show 0 ≤ (I 12 1).toInt ∧ (I 12 1).toInt ≤ 500; exact hR.1), (by show 0 ≤ (I 12 5).toInt ∧ (I 12 5).toInt ≤ 501; exact hR.2.1), (by show (-1) ≤ (I 12 6).toInt ∧ (I 12 6).toInt ≤ 1000000; exact hR.2.2.1), (by show 0 ≤ (I 12 9).toInt ∧ (I 12 9).toInt ≤ 500; exact hR.2.2.2.1), (by show 0 ≤ (I 12 13).toInt ∧ (I 12 13).toInt ≤ 24; exact hR.2.2.2.2)⟩   (by show (I 12 6).toInt ≤ 500; first | omega | decide) _) (cwV 0 hts gX9_atom_X9_step rfl rfl rfl hy_X9_step ⟨Nat.le_of_ble_eq_true rfl, Nat.le_of_ble_eq_true rfl⟩) (z_preV (i := 12) hK hW rfl rfl) rfl rfl hl.1 rfl (lv_room (Nat.le_of_ble_eq_true rfl)) dX9_atom_102 ⟨Nat.le_of_ble_eq_true rfl, Nat.le_of_ble_eq_true rfl⟩) (fun u1 H locs hp hW hS => ?_)
        obtain ⟨I22, e9, hI22R, hI22T, fI22⟩ := hp
        rw [e9] at hW
        have f23 := z_fr_sub (L := L_X9_atom_8) z_fr_0 fI22 (by decide)
        have k24 : (I22 12 6).toInt ≤ 501 ∧ ((I22 12 7).toInt = 401 ∨ (I22 12 6).toInt ≤ 500) := hI22T
        refine lv_iload_n hx hb dX9_atom_105 rfl (lv_at hl 0 rfl) ?_
        refine lv_bipush (v := 40) hx hb dX9_atom_106 (by decide) ?_
        refine lv_icmp_ne (tgt := 136) hx hb dX9_atom_108 (by decide) (fun c25 => (by have g := z_f_ne rfl z_l40 c25; omega)) (fun c25 => ?_)
        have g26 := z_f_eq rfl z_l40 c25
        refine lv_aload_n hx hb dX9_atom_111 rfl (lv_at hl 1 rfl) ?_
        refine lv_iload_n hx hb dX9_atom_112 rfl (lv_at hl 2 rfl) ?_
        refine lv_iconst (v := 1) hx hb dX9_atom_113 (by decide) ?_
        refine lv_iadd hx hb dX9_atom_114 ?_
        refine z_topi (v := 9) (by decide) ?_
        refine z_ci hW hS hA (va_runV (As := [.int 9]) (rest := []) ⟨hx, hb, hml, hown, hts⟩ (sx_X9_sum_9 l G ad c I22 ⟨(by show 0 ≤ (I22 12 1).toInt ∧ (I22 12 1).toInt ≤ 500; exact hI22R.1), (by show 0 ≤ (I22 12 5).toInt ∧ (I22 12 5).toInt ≤ 501; exact hI22R.2.1), (by show (-1) ≤ (I22 12 6).toInt ∧ (I22 12 6).toInt ≤ 1000000; exact hI22R.2.2.1), (by show 0 ≤ (I22 12 9).toInt ∧ (I22 12 9).toInt ≤ 500; exact hI22R.2.2.2.1), (by show 0 ≤ (I22 12 13).toInt ∧ (I22 12 13).toInt ≤ 24; exact hI22R.2.2.2.2)⟩ (by show (I22 12 6).toInt ≤ 501 ∧ ((I22 12 7).toInt = 401 ∨ (I22 12 6).toInt ≤ 500); first | omega | decide) _) (cwV 1 hts gX9_atom_X9_sum rfl rfl rfl hy_X9_sum ⟨Nat.le_of_ble_eq_true rfl, Nat.le_of_ble_eq_true rfl⟩) (z_preV (i := 12) hK hW rfl rfl) rfl rfl hl.1 rfl (lv_room (Nat.le_of_ble_eq_true rfl)) dX9_atom_115 ⟨Nat.le_of_ble_eq_true rfl, Nat.le_of_ble_eq_true rfl⟩) (fun r u1 H locs hp hW hS => ?_)
        obtain ⟨I27, e9, hI27R, hI27T, fI27, hp⟩ := hp
        rw [e9] at hW
        have f28 := z_fr_sub (L := L_X9_atom_8) f23 fI27 (by decide)
        have k29 : (I27 12 6).toInt ≤ 501 ∧ ((I27 12 7).toInt = 401 ∨ (I27 12 6).toInt ≤ 500) := hI27T
        rcases hp with rfl | rfl
        · refine lv_if_eq (tgt := 134) hx hb dX9_atom_118 (by decide) (fun c30 => absurd c30 (by decide)) (fun c30 => ?_)
          refine lv_aload_n hx hb dX9_atom_121 rfl (lv_at hl 1 rfl) ?_
          refine lv_bipush (v := 41) hx hb dX9_atom_122 (by decide) ?_
          refine z_ci hW hS hA (va_runV (As := [.int 41]) (rest := []) ⟨hx, hb, hml, hown, hts⟩ (sx_X9_taken l G ad c I27 ⟨(by show 0 ≤ (I27 12 1).toInt ∧ (I27 12 1).toInt ≤ 500; exact hI27R.1), (by show 0 ≤ (I27 12 5).toInt ∧ (I27 12 5).toInt ≤ 501; exact hI27R.2.1), (by show (-1) ≤ (I27 12 6).toInt ∧ (I27 12 6).toInt ≤ 1000000; exact hI27R.2.2.1), (by show 0 ≤ (I27 12 9).toInt ∧ (I27 12 9).toInt ≤ 500; exact hI27R.2.2.2.1), (by show 0 ≤ (I27 12 13).toInt ∧ (I27 12 13).toInt ≤ 24; exact hI27R.2.2.2.2)⟩ (by show (I27 12 6).toInt ≤ 501 ∧ ((I27 12 7).toInt = 401 ∨ (I27 12 6).toInt ≤ 500); first | omega | decide) 41 (by first | omega | decide) _) (cwV 1 hts gX9_atom_X9_taken rfl rfl rfl hy_X9_taken ⟨Nat.le_of_ble_eq_true rfl, Nat.le_of_ble_eq_true rfl⟩) (z_preV (i := 12) hK hW rfl rfl) rfl rfl hl.1 rfl (lv_room (Nat.le_of_ble_eq_true rfl)) dX9_atom_124 ⟨Nat.le_of_ble_eq_true rfl, Nat.le_of_ble_eq_true rfl⟩) (fun r u1 H locs hp hW hS => ?_)
          obtain ⟨I31, e9, hI31R, hI31T, fI31, hp⟩ := hp
          rw [e9] at hW
          have f32 := z_fr_sub (L := L_X9_atom_8) f28 fI31 (by decide)
          have k33 : (I31 12 6).toInt ≤ 501 ∧ ((I31 12 7).toInt = 401 ∨ (I31 12 6).toInt ≤ 500) := hI31T
          rcases hp with rfl | rfl
          · refine lv_if_eq (tgt := 134) hx hb dX9_atom_127 (by decide) (fun c34 => absurd c34 (by decide)) (fun c34 => ?_)
            refine lv_iconst (v := 1) hx hb dX9_atom_130 (by decide) ?_
            refine lv_goto (tgt := 135) hx hb dX9_atom_131 (by decide) ?_
            exact z_zret hx hb hr (by decide) hK hS (Nat.le_of_ble_eq_true rfl) (Nat.le_of_ble_eq_true rfl) hlocks dX9_atom_135 (shC c, ad, I31, JX, PC c ad) hW ⟨I31, rfl, ⟨(by show 0 ≤ (I31 12 1).toInt ∧ (I31 12 1).toInt ≤ 500; exact hI31R.1), (by show 0 ≤ (I31 12 5).toInt ∧ (I31 12 5).toInt ≤ 501; exact hI31R.2.1), (by show (-1) ≤ (I31 12 6).toInt ∧ (I31 12 6).toInt ≤ 1000000; exact hI31R.2.2.1), (by show 0 ≤ (I31 12 9).toInt ∧ (I31 12 9).toInt ≤ 500; exact hI31R.2.2.2.1), (by show 0 ≤ (I31 12 13).toInt ∧ (I31 12 13).toInt ≤ 24; exact hI31R.2.2.2.2)⟩, (by show (I31 12 6).toInt ≤ 501 ∧ ((I31 12 7).toInt = 401 ∨ (I31 12 6).toInt ≤ 500); first | omega | decide), f32, Or.inl rfl⟩
          · refine lv_if_eq (tgt := 134) hx hb dX9_atom_127 (by decide) (fun c35 => ?_) (fun c35 => absurd (by decide) c35)
            refine lv_iconst (v := 0) hx hb dX9_atom_134 (by decide) ?_
            exact z_zret hx hb hr (by decide) hK hS (Nat.le_of_ble_eq_true rfl) (Nat.le_of_ble_eq_true rfl) hlocks dX9_atom_135 (shC c, ad, I31, JX, PC c ad) hW ⟨I31, rfl, ⟨(by show 0 ≤ (I31 12 1).toInt ∧ (I31 12 1).toInt ≤ 500; exact hI31R.1), (by show 0 ≤ (I31 12 5).toInt ∧ (I31 12 5).toInt ≤ 501; exact hI31R.2.1), (by show (-1) ≤ (I31 12 6).toInt ∧ (I31 12 6).toInt ≤ 1000000; exact hI31R.2.2.1), (by show 0 ≤ (I31 12 9).toInt ∧ (I31 12 9).toInt ≤ 500; exact hI31R.2.2.2.1), (by show 0 ≤ (I31 12 13).toInt ∧ (I31 12 13).toInt ≤ 24; exact hI31R.2.2.2.2)⟩, (by show (I31 12 6).toInt ≤ 501 ∧ ((I31 12 7).toInt = 401 ∨ (I31 12 6).toInt ≤ 500); first | omega | decide), f32, Or.inr rfl⟩
        · refine lv_if_eq (tgt := 134) hx hb dX9_atom_118 (by decide) (fun c36 => ?_) (fun c36 => absurd (by decide) c36)
          refine lv_iconst (v := 0) hx hb dX9_atom_134 (by decide) ?_
          exact z_zret hx hb hr (by decide) hK hS (Nat.le_of_ble_eq_true rfl) (Nat.le_of_ble_eq_true rfl) hlocks dX9_atom_135 (shC c, ad, I27, JX, PC c ad) hW ⟨I27, rfl, ⟨(by show 0 ≤ (I27 12 1).toInt ∧ (I27 12 1).toInt ≤ 500; exact hI27R.1), (by show 0 ≤ (I27 12 5).toInt ∧ (I27 12 5).toInt ≤ 501; exact hI27R.2.1), (by show (-1) ≤ (I27 12 6).toInt ∧ (I27 12 6).toInt ≤ 1000000; exact hI27R.2.2.1), (by show 0 ≤ (I27 12 9).toInt ∧ (I27 12 9).toInt ≤ 500; exact hI27R.2.2.2.1), (by show 0 ≤ (I27 12 13).toInt ∧ (I27 12 13).toInt ≤ 24; exact hI27R.2.2.2.2)⟩, (by show (I27 12 6).toInt ≤ 501 ∧ ((I27 12 7).toInt = 401 ∨ (I27 12 6).toInt ≤ 500); first | omega | decide), f28, Or.inr rfl⟩
      · have g37 := z_f_ne rfl z_l40 c19
        refine lv_iload_n hx hb dX9_atom_79 rfl (lv_at hl 0 rfl) ?_
        refine lv_sipush (v := 312) hx hb dX9_atom_80 (by decide) ?_
        refine lv_icmp_eq (tgt := 93) hx hb dX9_atom_83 (by decide) (fun c38 => ?_) (fun c38 => ?_)
        · have g39 := z_f_eq rfl z_l312 c38
          refine lv_iload_n hx hb dX9_atom_93 rfl (lv_at hl 2 rfl) ?_
          refine lv_bipush (v := 9) hx hb dX9_atom_94 (by decide) ?_
          refine lv_icmp_lt (tgt := 101) hx hb dX9_atom_96 (by decide) (fun c40 => ?_) (fun c40 => absurd (by decide) c40)
          refine lv_aload_n hx hb dX9_atom_101 rfl (lv_at hl 1 rfl) ?_
          refine z_cv hW hS hA (va_runV (As := []) (rest := []) ⟨hx, hb, hml, hown, hts⟩ (sx_X9_step l G ad c I ⟨(by show 0 ≤ (I 12 1).toInt ∧ (I 12 1).toInt ≤ 500; exact hR.1), (by show 0 ≤ (I 12 5).toInt ∧ (I 12 5).toInt ≤ 501; exact hR.2.1), (by show (-1) ≤ (I 12 6).toInt ∧ (I 12 6).toInt ≤ 1000000; exact hR.2.2.1), (by show 0 ≤ (I 12 9).toInt ∧ (I 12 9).toInt ≤ 500; exact hR.2.2.2.1), (by show 0 ≤ (I 12 13).toInt ∧ (I 12 13).toInt ≤ 24; exact hR.2.2.2.2)⟩   (by show (I 12 6).toInt ≤ 500; first | omega | decide) _) (cwV 0 hts gX9_atom_X9_step rfl rfl rfl hy_X9_step ⟨Nat.le_of_ble_eq_true rfl, Nat.le_of_ble_eq_true rfl⟩) (z_preV (i := 12) hK hW rfl rfl) rfl rfl hl.1 rfl (lv_room (Nat.le_of_ble_eq_true rfl)) dX9_atom_102 ⟨Nat.le_of_ble_eq_true rfl, Nat.le_of_ble_eq_true rfl⟩) (fun u1 H locs hp hW hS => ?_)
          obtain ⟨I41, e9, hI41R, hI41T, fI41⟩ := hp
          rw [e9] at hW
          have f42 := z_fr_sub (L := L_X9_atom_8) z_fr_0 fI41 (by decide)
          have k43 : (I41 12 6).toInt ≤ 501 ∧ ((I41 12 7).toInt = 401 ∨ (I41 12 6).toInt ≤ 500) := hI41T
          refine lv_iload_n hx hb dX9_atom_105 rfl (lv_at hl 0 rfl) ?_
          refine lv_bipush (v := 40) hx hb dX9_atom_106 (by decide) ?_
          refine lv_icmp_ne (tgt := 136) hx hb dX9_atom_108 (by decide) (fun c44 => ?_) (fun c44 => (by have g := z_f_eq rfl z_l40 c44; omega))
          have g45 := z_f_ne rfl z_l40 c44
          refine lv_aload_n hx hb dX9_atom_136 rfl (lv_at hl 1 rfl) ?_
          refine lv_bipush (v := 40) hx hb dX9_atom_137 (by decide) ?_
          refine z_ci hW hS hA (va_runV (As := [.int 40]) (rest := []) ⟨hx, hb, hml, hown, hts⟩ (sx_X9_taken l G ad c I41 ⟨(by show 0 ≤ (I41 12 1).toInt ∧ (I41 12 1).toInt ≤ 500; exact hI41R.1), (by show 0 ≤ (I41 12 5).toInt ∧ (I41 12 5).toInt ≤ 501; exact hI41R.2.1), (by show (-1) ≤ (I41 12 6).toInt ∧ (I41 12 6).toInt ≤ 1000000; exact hI41R.2.2.1), (by show 0 ≤ (I41 12 9).toInt ∧ (I41 12 9).toInt ≤ 500; exact hI41R.2.2.2.1), (by show 0 ≤ (I41 12 13).toInt ∧ (I41 12 13).toInt ≤ 24; exact hI41R.2.2.2.2)⟩ (by show (I41 12 6).toInt ≤ 501 ∧ ((I41 12 7).toInt = 401 ∨ (I41 12 6).toInt ≤ 500); first | omega | decide) 40 (by first | omega | decide) _) (cwV 1 hts gX9_atom_X9_taken rfl rfl rfl hy_X9_taken ⟨Nat.le_of_ble_eq_true rfl, Nat.le_of_ble_eq_true rfl⟩) (z_preV (i := 12) hK hW rfl rfl) rfl rfl hl.1 rfl (lv_room (Nat.le_of_ble_eq_true rfl)) dX9_atom_139 ⟨Nat.le_of_ble_eq_true rfl, Nat.le_of_ble_eq_true rfl⟩) (fun r u1 H locs hp hW hS => ?_)
          obtain ⟨I46, e9, hI46R, hI46T, fI46, hp⟩ := hp
          rw [e9] at hW
          have f47 := z_fr_sub (L := L_X9_atom_8) f42 fI46 (by decide)
          have k48 : (I46 12 6).toInt ≤ 501 ∧ ((I46 12 7).toInt = 401 ∨ (I46 12 6).toInt ≤ 500) := hI46T
          rcases hp with rfl | rfl
          · refine lv_if_eq (tgt := 183) hx hb dX9_atom_142 (by decide) (fun c49 => absurd c49 (by decide)) (fun c49 => ?_)
            refine lv_aload_n hx hb dX9_atom_145 rfl (lv_at hl 1 rfl) ?_
            refine lv_iload_n hx hb dX9_atom_146 rfl (lv_at hl 2 rfl) ?_
            refine lv_iconst (v := 1) hx hb dX9_atom_147 (by decide) ?_
            refine lv_iadd hx hb dX9_atom_148 ?_
            refine z_topi (v := 9) (by decide) ?_
            refine z_ci hW hS hA (va_runV (As := [.int 9]) (rest := []) ⟨hx, hb, hml, hown, hts⟩ (sx_X9_sum_9 l G ad c I46 ⟨(by show 0 ≤ (I46 12 1).toInt ∧ (I46 12 1).toInt ≤ 500; exact hI46R.1), (by show 0 ≤ (I46 12 5).toInt ∧ (I46 12 5).toInt ≤ 501; exact hI46R.2.1), (by show (-1) ≤ (I46 12 6).toInt ∧ (I46 12 6).toInt ≤ 1000000; exact hI46R.2.2.1), (by show 0 ≤ (I46 12 9).toInt ∧ (I46 12 9).toInt ≤ 500; exact hI46R.2.2.2.1), (by show 0 ≤ (I46 12 13).toInt ∧ (I46 12 13).toInt ≤ 24; exact hI46R.2.2.2.2)⟩ (by show (I46 12 6).toInt ≤ 501 ∧ ((I46 12 7).toInt = 401 ∨ (I46 12 6).toInt ≤ 500); first | omega | decide) _) (cwV 1 hts gX9_atom_X9_sum rfl rfl rfl hy_X9_sum ⟨Nat.le_of_ble_eq_true rfl, Nat.le_of_ble_eq_true rfl⟩) (z_preV (i := 12) hK hW rfl rfl) rfl rfl hl.1 rfl (lv_room (Nat.le_of_ble_eq_true rfl)) dX9_atom_149 ⟨Nat.le_of_ble_eq_true rfl, Nat.le_of_ble_eq_true rfl⟩) (fun r u1 H locs hp hW hS => ?_)
            obtain ⟨I50, e9, hI50R, hI50T, fI50, hp⟩ := hp
            rw [e9] at hW
            have f51 := z_fr_sub (L := L_X9_atom_8) f47 fI50 (by decide)
            have k52 : (I50 12 6).toInt ≤ 501 ∧ ((I50 12 7).toInt = 401 ∨ (I50 12 6).toInt ≤ 500) := hI50T
            rcases hp with rfl | rfl
            · refine lv_if_eq (tgt := 183) hx hb dX9_atom_152 (by decide) (fun c53 => absurd c53 (by decide)) (fun c53 => ?_)
              refine lv_aload_n hx hb dX9_atom_155 rfl (lv_at hl 1 rfl) ?_
              refine lv_bipush (v := 44) hx hb dX9_atom_156 (by decide) ?_
              refine z_ci hW hS hA (va_runV (As := [.int 44]) (rest := []) ⟨hx, hb, hml, hown, hts⟩ (sx_X9_taken l G ad c I50 ⟨(by show 0 ≤ (I50 12 1).toInt ∧ (I50 12 1).toInt ≤ 500; exact hI50R.1), (by show 0 ≤ (I50 12 5).toInt ∧ (I50 12 5).toInt ≤ 501; exact hI50R.2.1), (by show (-1) ≤ (I50 12 6).toInt ∧ (I50 12 6).toInt ≤ 1000000; exact hI50R.2.2.1), (by show 0 ≤ (I50 12 9).toInt ∧ (I50 12 9).toInt ≤ 500; exact hI50R.2.2.2.1), (by show 0 ≤ (I50 12 13).toInt ∧ (I50 12 13).toInt ≤ 24; exact hI50R.2.2.2.2)⟩ (by show (I50 12 6).toInt ≤ 501 ∧ ((I50 12 7).toInt = 401 ∨ (I50 12 6).toInt ≤ 500); first | omega | decide) 44 (by first | omega | decide) _) (cwV 1 hts gX9_atom_X9_taken rfl rfl rfl hy_X9_taken ⟨Nat.le_of_ble_eq_true rfl, Nat.le_of_ble_eq_true rfl⟩) (z_preV (i := 12) hK hW rfl rfl) rfl rfl hl.1 rfl (lv_room (Nat.le_of_ble_eq_true rfl)) dX9_atom_158 ⟨Nat.le_of_ble_eq_true rfl, Nat.le_of_ble_eq_true rfl⟩) (fun r u1 H locs hp hW hS => ?_)
              obtain ⟨I54, e9, hI54R, hI54T, fI54, hp⟩ := hp
              rw [e9] at hW
              have f55 := z_fr_sub (L := L_X9_atom_8) f51 fI54 (by decide)
              have k56 : (I54 12 6).toInt ≤ 501 ∧ ((I54 12 7).toInt = 401 ∨ (I54 12 6).toInt ≤ 500) := hI54T
              rcases hp with rfl | rfl
              · refine lv_if_eq (tgt := 183) hx hb dX9_atom_161 (by decide) (fun c57 => absurd c57 (by decide)) (fun c57 => ?_)
                refine lv_aload_n hx hb dX9_atom_164 rfl (lv_at hl 1 rfl) ?_
                refine lv_iload_n hx hb dX9_atom_165 rfl (lv_at hl 2 rfl) ?_
                refine lv_iconst (v := 1) hx hb dX9_atom_166 (by decide) ?_
                refine lv_iadd hx hb dX9_atom_167 ?_
                refine z_topi (v := 9) (by decide) ?_
                refine z_ci hW hS hA (va_runV (As := [.int 9]) (rest := []) ⟨hx, hb, hml, hown, hts⟩ (sx_X9_sum_9 l G ad c I54 ⟨(by show 0 ≤ (I54 12 1).toInt ∧ (I54 12 1).toInt ≤ 500; exact hI54R.1), (by show 0 ≤ (I54 12 5).toInt ∧ (I54 12 5).toInt ≤ 501; exact hI54R.2.1), (by show (-1) ≤ (I54 12 6).toInt ∧ (I54 12 6).toInt ≤ 1000000; exact hI54R.2.2.1), (by show 0 ≤ (I54 12 9).toInt ∧ (I54 12 9).toInt ≤ 500; exact hI54R.2.2.2.1), (by show 0 ≤ (I54 12 13).toInt ∧ (I54 12 13).toInt ≤ 24; exact hI54R.2.2.2.2)⟩ (by show (I54 12 6).toInt ≤ 501 ∧ ((I54 12 7).toInt = 401 ∨ (I54 12 6).toInt ≤ 500); first | omega | decide) _) (cwV 1 hts gX9_atom_X9_sum rfl rfl rfl hy_X9_sum ⟨Nat.le_of_ble_eq_true rfl, Nat.le_of_ble_eq_true rfl⟩) (z_preV (i := 12) hK hW rfl rfl) rfl rfl hl.1 rfl (lv_room (Nat.le_of_ble_eq_true rfl)) dX9_atom_168 ⟨Nat.le_of_ble_eq_true rfl, Nat.le_of_ble_eq_true rfl⟩) (fun r u1 H locs hp hW hS => ?_)
                obtain ⟨I58, e9, hI58R, hI58T, fI58, hp⟩ := hp
                rw [e9] at hW
                have f59 := z_fr_sub (L := L_X9_atom_8) f55 fI58 (by decide)
                have k60 : (I58 12 6).toInt ≤ 501 ∧ ((I58 12 7).toInt = 401 ∨ (I58 12 6).toInt ≤ 500) := hI58T
                rcases hp with rfl | rfl
                · refine lv_if_eq (tgt := 183) hx hb dX9_atom_171 (by decide) (fun c61 => absurd c61 (by decide)) (fun c61 => ?_)
                  refine lv_aload_n hx hb dX9_atom_174 rfl (lv_at hl 1 rfl) ?_
                  refine lv_bipush (v := 41) hx hb dX9_atom_175 (by decide) ?_
                  refine z_ci hW hS hA (va_runV (As := [.int 41]) (rest := []) ⟨hx, hb, hml, hown, hts⟩ (sx_X9_taken l G ad c I58 ⟨(by show 0 ≤ (I58 12 1).toInt ∧ (I58 12 1).toInt ≤ 500; exact hI58R.1), (by show 0 ≤ (I58 12 5).toInt ∧ (I58 12 5).toInt ≤ 501; exact hI58R.2.1), (by show (-1) ≤ (I58 12 6).toInt ∧ (I58 12 6).toInt ≤ 1000000; exact hI58R.2.2.1), (by show 0 ≤ (I58 12 9).toInt ∧ (I58 12 9).toInt ≤ 500; exact hI58R.2.2.2.1), (by show 0 ≤ (I58 12 13).toInt ∧ (I58 12 13).toInt ≤ 24; exact hI58R.2.2.2.2)⟩ (by show (I58 12 6).toInt ≤ 501 ∧ ((I58 12 7).toInt = 401 ∨ (I58 12 6).toInt ≤ 500); first | omega | decide) 41 (by first | omega | decide) _) (cwV 1 hts gX9_atom_X9_taken rfl rfl rfl hy_X9_taken ⟨Nat.le_of_ble_eq_true rfl, Nat.le_of_ble_eq_true rfl⟩) (z_preV (i := 12) hK hW rfl rfl) rfl rfl hl.1 rfl (lv_room (Nat.le_of_ble_eq_true rfl)) dX9_atom_177 ⟨Nat.le_of_ble_eq_true rfl, Nat.le_of_ble_eq_true rfl⟩) (fun r u1 H locs hp hW hS => ?_)
                  obtain ⟨I62, e9, hI62R, hI62T, fI62, hp⟩ := hp
                  rw [e9] at hW
                  have f63 := z_fr_sub (L := L_X9_atom_8) f59 fI62 (by decide)
                  have k64 : (I62 12 6).toInt ≤ 501 ∧ ((I62 12 7).toInt = 401 ∨ (I62 12 6).toInt ≤ 500) := hI62T
                  rcases hp with rfl | rfl
                  · refine lv_if_ne (tgt := 185) hx hb dX9_atom_180 (by decide) (fun c65 => ?_) (fun c65 => absurd c65 (by decide))
                    refine lv_aload_n hx hb dX9_atom_185 rfl (lv_at hl 1 rfl) ?_
                    refine lv_iload_n hx hb dX9_atom_186 rfl (lv_at hl 0 rfl) ?_
                    refine lv_sipush (v := 312) hx hb dX9_atom_187 (by decide) ?_
                    refine lv_icmp_ne (tgt := 198) hx hb dX9_atom_190 (by decide) (fun c66 => (by have g := z_f_ne rfl z_l312 c66; omega)) (fun c66 => ?_)
                    have g67 := z_f_eq rfl z_l312 c66
                    refine lv_bipush (v := (-5)) hx hb dX9_atom_193 (by decide) ?_
                    refine lv_goto (tgt := 200) hx hb dX9_atom_195 (by decide) ?_
                    refine z_cv hW hS hA (va_runV (As := [.int (-5)]) (rest := []) ⟨hx, hb, hml, hown, hts⟩ (sx_X9_emit l G ad c I62 ⟨(by show 0 ≤ (I62 12 1).toInt ∧ (I62 12 1).toInt ≤ 500; exact hI62R.1), (by show 0 ≤ (I62 12 5).toInt ∧ (I62 12 5).toInt ≤ 501; exact hI62R.2.1), (by show (-1) ≤ (I62 12 6).toInt ∧ (I62 12 6).toInt ≤ 1000000; exact hI62R.2.2.1), (by show 0 ≤ (I62 12 9).toInt ∧ (I62 12 9).toInt ≤ 500; exact hI62R.2.2.2.1), (by show 0 ≤ (I62 12 13).toInt ∧ (I62 12 13).toInt ≤ 24; exact hI62R.2.2.2.2)⟩ (-5) _) (cwV 1 hts gX9_atom_X9_emit rfl rfl rfl hy_X9_emit ⟨Nat.le_of_ble_eq_true rfl, Nat.le_of_ble_eq_true rfl⟩) (z_preV (i := 12) hK hW rfl rfl) rfl rfl hl.1 rfl (lv_room (Nat.le_of_ble_eq_true rfl)) dX9_atom_200 ⟨Nat.le_of_ble_eq_true rfl, Nat.le_of_ble_eq_true rfl⟩) (fun u1 H locs hp hW hS => ?_)
                    obtain ⟨I68, e9, hI68R, fI68⟩ := hp
                    rw [e9] at hW
                    have f69 := z_fr_sub (L := L_X9_atom_8) f63 fI68 (by decide)
                    have k70 : (I68 12 6).toInt ≤ 501 ∧ ((I68 12 7).toInt = 401 ∨ (I68 12 6).toInt ≤ 500) := (by have q0 : (I68 12 6) = (I62 12 6) := (by rw [fI68 12 6 (by decide)]); have q1 : (I68 12 7) = (I62 12 7) := (by rw [fI68 12 7 (by decide)]); show (I68 12 6).toInt ≤ 501 ∧ ((I68 12 7).toInt = 401 ∨ (I68 12 6).toInt ≤ 500); rw [q0, q1]; first | omega | decide)
                    have k71 : (I68 12 6).toInt = (I62 12 6).toInt := by rw [fI68 12 6 (by decide)]
                    have k72 : (I68 12 7).toInt = (I62 12 7).toInt := by rw [fI68 12 7 (by decide)]
                    refine lv_iconst (v := 1) hx hb dX9_atom_203 (by decide) ?_
                    exact z_zret hx hb hr (by decide) hK hS (Nat.le_of_ble_eq_true rfl) (Nat.le_of_ble_eq_true rfl) hlocks dX9_atom_204 (shC c, ad, I68, JX, PC c ad) hW ⟨I68, rfl, ⟨(by show 0 ≤ (I68 12 1).toInt ∧ (I68 12 1).toInt ≤ 500; exact hI68R.1), (by show 0 ≤ (I68 12 5).toInt ∧ (I68 12 5).toInt ≤ 501; exact hI68R.2.1), (by show (-1) ≤ (I68 12 6).toInt ∧ (I68 12 6).toInt ≤ 1000000; exact hI68R.2.2.1), (by show 0 ≤ (I68 12 9).toInt ∧ (I68 12 9).toInt ≤ 500; exact hI68R.2.2.2.1), (by show 0 ≤ (I68 12 13).toInt ∧ (I68 12 13).toInt ≤ 24; exact hI68R.2.2.2.2)⟩, (by show (I68 12 6).toInt ≤ 501 ∧ ((I68 12 7).toInt = 401 ∨ (I68 12 6).toInt ≤ 500); first | omega | decide), f69, Or.inl rfl⟩
                  · refine lv_if_ne (tgt := 185) hx hb dX9_atom_180 (by decide) (fun c73 => absurd (by decide) c73) (fun c73 => ?_)
                    refine lv_iconst (v := 0) hx hb dX9_atom_183 (by decide) ?_
                    exact z_zret hx hb hr (by decide) hK hS (Nat.le_of_ble_eq_true rfl) (Nat.le_of_ble_eq_true rfl) hlocks dX9_atom_184 (shC c, ad, I62, JX, PC c ad) hW ⟨I62, rfl, ⟨(by show 0 ≤ (I62 12 1).toInt ∧ (I62 12 1).toInt ≤ 500; exact hI62R.1), (by show 0 ≤ (I62 12 5).toInt ∧ (I62 12 5).toInt ≤ 501; exact hI62R.2.1), (by show (-1) ≤ (I62 12 6).toInt ∧ (I62 12 6).toInt ≤ 1000000; exact hI62R.2.2.1), (by show 0 ≤ (I62 12 9).toInt ∧ (I62 12 9).toInt ≤ 500; exact hI62R.2.2.2.1), (by show 0 ≤ (I62 12 13).toInt ∧ (I62 12 13).toInt ≤ 24; exact hI62R.2.2.2.2)⟩, (by show (I62 12 6).toInt ≤ 501 ∧ ((I62 12 7).toInt = 401 ∨ (I62 12 6).toInt ≤ 500); first | omega | decide), f63, Or.inr rfl⟩
                · refine lv_if_eq (tgt := 183) hx hb dX9_atom_171 (by decide) (fun c74 => ?_) (fun c74 => absurd (by decide) c74)
                  refine lv_iconst (v := 0) hx hb dX9_atom_183 (by decide) ?_
                  exact z_zret hx hb hr (by decide) hK hS (Nat.le_of_ble_eq_true rfl) (Nat.le_of_ble_eq_true rfl) hlocks dX9_atom_184 (shC c, ad, I58, JX, PC c ad) hW ⟨I58, rfl, ⟨(by show 0 ≤ (I58 12 1).toInt ∧ (I58 12 1).toInt ≤ 500; exact hI58R.1), (by show 0 ≤ (I58 12 5).toInt ∧ (I58 12 5).toInt ≤ 501; exact hI58R.2.1), (by show (-1) ≤ (I58 12 6).toInt ∧ (I58 12 6).toInt ≤ 1000000; exact hI58R.2.2.1), (by show 0 ≤ (I58 12 9).toInt ∧ (I58 12 9).toInt ≤ 500; exact hI58R.2.2.2.1), (by show 0 ≤ (I58 12 13).toInt ∧ (I58 12 13).toInt ≤ 24; exact hI58R.2.2.2.2)⟩, (by show (I58 12 6).toInt ≤ 501 ∧ ((I58 12 7).toInt = 401 ∨ (I58 12 6).toInt ≤ 500); first | omega | decide), f59, Or.inr rfl⟩
              · refine lv_if_eq (tgt := 183) hx hb dX9_atom_161 (by decide) (fun c75 => ?_) (fun c75 => absurd (by decide) c75)
                refine lv_iconst (v := 0) hx hb dX9_atom_183 (by decide) ?_
                exact z_zret hx hb hr (by decide) hK hS (Nat.le_of_ble_eq_true rfl) (Nat.le_of_ble_eq_true rfl) hlocks dX9_atom_184 (shC c, ad, I54, JX, PC c ad) hW ⟨I54, rfl, ⟨(by show 0 ≤ (I54 12 1).toInt ∧ (I54 12 1).toInt ≤ 500; exact hI54R.1), (by show 0 ≤ (I54 12 5).toInt ∧ (I54 12 5).toInt ≤ 501; exact hI54R.2.1), (by show (-1) ≤ (I54 12 6).toInt ∧ (I54 12 6).toInt ≤ 1000000; exact hI54R.2.2.1), (by show 0 ≤ (I54 12 9).toInt ∧ (I54 12 9).toInt ≤ 500; exact hI54R.2.2.2.1), (by show 0 ≤ (I54 12 13).toInt ∧ (I54 12 13).toInt ≤ 24; exact hI54R.2.2.2.2)⟩, (by show (I54 12 6).toInt ≤ 501 ∧ ((I54 12 7).toInt = 401 ∨ (I54 12 6).toInt ≤ 500); first | omega | decide), f55, Or.inr rfl⟩
            · refine lv_if_eq (tgt := 183) hx hb dX9_atom_152 (by decide) (fun c76 => ?_) (fun c76 => absurd (by decide) c76)
              refine lv_iconst (v := 0) hx hb dX9_atom_183 (by decide) ?_
              exact z_zret hx hb hr (by decide) hK hS (Nat.le_of_ble_eq_true rfl) (Nat.le_of_ble_eq_true rfl) hlocks dX9_atom_184 (shC c, ad, I50, JX, PC c ad) hW ⟨I50, rfl, ⟨(by show 0 ≤ (I50 12 1).toInt ∧ (I50 12 1).toInt ≤ 500; exact hI50R.1), (by show 0 ≤ (I50 12 5).toInt ∧ (I50 12 5).toInt ≤ 501; exact hI50R.2.1), (by show (-1) ≤ (I50 12 6).toInt ∧ (I50 12 6).toInt ≤ 1000000; exact hI50R.2.2.1), (by show 0 ≤ (I50 12 9).toInt ∧ (I50 12 9).toInt ≤ 500; exact hI50R.2.2.2.1), (by show 0 ≤ (I50 12 13).toInt ∧ (I50 12 13).toInt ≤ 24; exact hI50R.2.2.2.2)⟩, (by show (I50 12 6).toInt ≤ 501 ∧ ((I50 12 7).toInt = 401 ∨ (I50 12 6).toInt ≤ 500); first | omega | decide), f51, Or.inr rfl⟩
          · refine lv_if_eq (tgt := 183) hx hb dX9_atom_142 (by decide) (fun c77 => ?_) (fun c77 => absurd (by decide) c77)
            refine lv_iconst (v := 0) hx hb dX9_atom_183 (by decide) ?_
            exact z_zret hx hb hr (by decide) hK hS (Nat.le_of_ble_eq_true rfl) (Nat.le_of_ble_eq_true rfl) hlocks dX9_atom_184 (shC c, ad, I46, JX, PC c ad) hW ⟨I46, rfl, ⟨(by show 0 ≤ (I46 12 1).toInt ∧ (I46 12 1).toInt ≤ 500; exact hI46R.1), (by show 0 ≤ (I46 12 5).toInt ∧ (I46 12 5).toInt ≤ 501; exact hI46R.2.1), (by show (-1) ≤ (I46 12 6).toInt ∧ (I46 12 6).toInt ≤ 1000000; exact hI46R.2.2.1), (by show 0 ≤ (I46 12 9).toInt ∧ (I46 12 9).toInt ≤ 500; exact hI46R.2.2.2.1), (by show 0 ≤ (I46 12 13).toInt ∧ (I46 12 13).toInt ≤ 24; exact hI46R.2.2.2.2)⟩, (by show (I46 12 6).toInt ≤ 501 ∧ ((I46 12 7).toInt = 401 ∨ (I46 12 6).toInt ≤ 500); first | omega | decide), f47, Or.inr rfl⟩
        · have g78 := z_f_ne rfl z_l312 c38
          refine lv_iload_n hx hb dX9_atom_86 rfl (lv_at hl 0 rfl) ?_
          refine lv_sipush (v := 313) hx hb dX9_atom_87 (by decide) ?_
          refine lv_icmp_ne (tgt := 99) hx hb dX9_atom_90 (by decide) (fun c79 => ?_) (fun c79 => ?_)
          · have g80 := z_f_ne rfl z_l313 c79
            refine lv_iconst (v := 0) hx hb dX9_atom_99 (by decide) ?_
            exact z_zret hx hb hr (by decide) hK hS (Nat.le_of_ble_eq_true rfl) (Nat.le_of_ble_eq_true rfl) hlocks dX9_atom_100 (shC c, ad, I, JX, PC c ad) hW ⟨I, rfl, ⟨(by show 0 ≤ (I 12 1).toInt ∧ (I 12 1).toInt ≤ 500; exact hR.1), (by show 0 ≤ (I 12 5).toInt ∧ (I 12 5).toInt ≤ 501; exact hR.2.1), (by show (-1) ≤ (I 12 6).toInt ∧ (I 12 6).toInt ≤ 1000000; exact hR.2.2.1), (by show 0 ≤ (I 12 9).toInt ∧ (I 12 9).toInt ≤ 500; exact hR.2.2.2.1), (by show 0 ≤ (I 12 13).toInt ∧ (I 12 13).toInt ≤ 24; exact hR.2.2.2.2)⟩, (by show (I 12 6).toInt ≤ 501 ∧ ((I 12 7).toInt = 401 ∨ (I 12 6).toInt ≤ 500); first | omega | decide), z_fr_0, Or.inr rfl⟩
          · have g81 := z_f_eq rfl z_l313 c79
            refine lv_iload_n hx hb dX9_atom_93 rfl (lv_at hl 2 rfl) ?_
            refine lv_bipush (v := 9) hx hb dX9_atom_94 (by decide) ?_
            refine lv_icmp_lt (tgt := 101) hx hb dX9_atom_96 (by decide) (fun c82 => ?_) (fun c82 => absurd (by decide) c82)
            refine lv_aload_n hx hb dX9_atom_101 rfl (lv_at hl 1 rfl) ?_
            refine z_cv hW hS hA (va_runV (As := []) (rest := []) ⟨hx, hb, hml, hown, hts⟩ (sx_X9_step l G ad c I ⟨(by show 0 ≤ (I 12 1).toInt ∧ (I 12 1).toInt ≤ 500; exact hR.1), (by show 0 ≤ (I 12 5).toInt ∧ (I 12 5).toInt ≤ 501; exact hR.2.1), (by show (-1) ≤ (I 12 6).toInt ∧ (I 12 6).toInt ≤ 1000000; exact hR.2.2.1), (by show 0 ≤ (I 12 9).toInt ∧ (I 12 9).toInt ≤ 500; exact hR.2.2.2.1), (by show 0 ≤ (I 12 13).toInt ∧ (I 12 13).toInt ≤ 24; exact hR.2.2.2.2)⟩   (by show (I 12 6).toInt ≤ 500; first | omega | decide) _) (cwV 0 hts gX9_atom_X9_step rfl rfl rfl hy_X9_step ⟨Nat.le_of_ble_eq_true rfl, Nat.le_of_ble_eq_true rfl⟩) (z_preV (i := 12) hK hW rfl rfl) rfl rfl hl.1 rfl (lv_room (Nat.le_of_ble_eq_true rfl)) dX9_atom_102 ⟨Nat.le_of_ble_eq_true rfl, Nat.le_of_ble_eq_true rfl⟩) (fun u1 H locs hp hW hS => ?_)
            obtain ⟨I83, e9, hI83R, hI83T, fI83⟩ := hp
            rw [e9] at hW
            have f84 := z_fr_sub (L := L_X9_atom_8) z_fr_0 fI83 (by decide)
            have k85 : (I83 12 6).toInt ≤ 501 ∧ ((I83 12 7).toInt = 401 ∨ (I83 12 6).toInt ≤ 500) := hI83T
            refine lv_iload_n hx hb dX9_atom_105 rfl (lv_at hl 0 rfl) ?_
            refine lv_bipush (v := 40) hx hb dX9_atom_106 (by decide) ?_
            refine lv_icmp_ne (tgt := 136) hx hb dX9_atom_108 (by decide) (fun c86 => ?_) (fun c86 => (by have g := z_f_eq rfl z_l40 c86; omega))
            have g87 := z_f_ne rfl z_l40 c86
            refine lv_aload_n hx hb dX9_atom_136 rfl (lv_at hl 1 rfl) ?_
            refine lv_bipush (v := 40) hx hb dX9_atom_137 (by decide) ?_
            refine z_ci hW hS hA (va_runV (As := [.int 40]) (rest := []) ⟨hx, hb, hml, hown, hts⟩ (sx_X9_taken l G ad c I83 ⟨(by show 0 ≤ (I83 12 1).toInt ∧ (I83 12 1).toInt ≤ 500; exact hI83R.1), (by show 0 ≤ (I83 12 5).toInt ∧ (I83 12 5).toInt ≤ 501; exact hI83R.2.1), (by show (-1) ≤ (I83 12 6).toInt ∧ (I83 12 6).toInt ≤ 1000000; exact hI83R.2.2.1), (by show 0 ≤ (I83 12 9).toInt ∧ (I83 12 9).toInt ≤ 500; exact hI83R.2.2.2.1), (by show 0 ≤ (I83 12 13).toInt ∧ (I83 12 13).toInt ≤ 24; exact hI83R.2.2.2.2)⟩ (by show (I83 12 6).toInt ≤ 501 ∧ ((I83 12 7).toInt = 401 ∨ (I83 12 6).toInt ≤ 500); first | omega | decide) 40 (by first | omega | decide) _) (cwV 1 hts gX9_atom_X9_taken rfl rfl rfl hy_X9_taken ⟨Nat.le_of_ble_eq_true rfl, Nat.le_of_ble_eq_true rfl⟩) (z_preV (i := 12) hK hW rfl rfl) rfl rfl hl.1 rfl (lv_room (Nat.le_of_ble_eq_true rfl)) dX9_atom_139 ⟨Nat.le_of_ble_eq_true rfl, Nat.le_of_ble_eq_true rfl⟩) (fun r u1 H locs hp hW hS => ?_)
            obtain ⟨I88, e9, hI88R, hI88T, fI88, hp⟩ := hp
            rw [e9] at hW
            have f89 := z_fr_sub (L := L_X9_atom_8) f84 fI88 (by decide)
            have k90 : (I88 12 6).toInt ≤ 501 ∧ ((I88 12 7).toInt = 401 ∨ (I88 12 6).toInt ≤ 500) := hI88T
            rcases hp with rfl | rfl
            · refine lv_if_eq (tgt := 183) hx hb dX9_atom_142 (by decide) (fun c91 => absurd c91 (by decide)) (fun c91 => ?_)
              refine lv_aload_n hx hb dX9_atom_145 rfl (lv_at hl 1 rfl) ?_
              refine lv_iload_n hx hb dX9_atom_146 rfl (lv_at hl 2 rfl) ?_
              refine lv_iconst (v := 1) hx hb dX9_atom_147 (by decide) ?_
              refine lv_iadd hx hb dX9_atom_148 ?_
              refine z_topi (v := 9) (by decide) ?_
              refine z_ci hW hS hA (va_runV (As := [.int 9]) (rest := []) ⟨hx, hb, hml, hown, hts⟩ (sx_X9_sum_9 l G ad c I88 ⟨(by show 0 ≤ (I88 12 1).toInt ∧ (I88 12 1).toInt ≤ 500; exact hI88R.1), (by show 0 ≤ (I88 12 5).toInt ∧ (I88 12 5).toInt ≤ 501; exact hI88R.2.1), (by show (-1) ≤ (I88 12 6).toInt ∧ (I88 12 6).toInt ≤ 1000000; exact hI88R.2.2.1), (by show 0 ≤ (I88 12 9).toInt ∧ (I88 12 9).toInt ≤ 500; exact hI88R.2.2.2.1), (by show 0 ≤ (I88 12 13).toInt ∧ (I88 12 13).toInt ≤ 24; exact hI88R.2.2.2.2)⟩ (by show (I88 12 6).toInt ≤ 501 ∧ ((I88 12 7).toInt = 401 ∨ (I88 12 6).toInt ≤ 500); first | omega | decide) _) (cwV 1 hts gX9_atom_X9_sum rfl rfl rfl hy_X9_sum ⟨Nat.le_of_ble_eq_true rfl, Nat.le_of_ble_eq_true rfl⟩) (z_preV (i := 12) hK hW rfl rfl) rfl rfl hl.1 rfl (lv_room (Nat.le_of_ble_eq_true rfl)) dX9_atom_149 ⟨Nat.le_of_ble_eq_true rfl, Nat.le_of_ble_eq_true rfl⟩) (fun r u1 H locs hp hW hS => ?_)
              obtain ⟨I92, e9, hI92R, hI92T, fI92, hp⟩ := hp
              rw [e9] at hW
              have f93 := z_fr_sub (L := L_X9_atom_8) f89 fI92 (by decide)
              have k94 : (I92 12 6).toInt ≤ 501 ∧ ((I92 12 7).toInt = 401 ∨ (I92 12 6).toInt ≤ 500) := hI92T
              rcases hp with rfl | rfl
              · refine lv_if_eq (tgt := 183) hx hb dX9_atom_152 (by decide) (fun c95 => absurd c95 (by decide)) (fun c95 => ?_)
                refine lv_aload_n hx hb dX9_atom_155 rfl (lv_at hl 1 rfl) ?_
                refine lv_bipush (v := 44) hx hb dX9_atom_156 (by decide) ?_
                refine z_ci hW hS hA (va_runV (As := [.int 44]) (rest := []) ⟨hx, hb, hml, hown, hts⟩ (sx_X9_taken l G ad c I92 ⟨(by show 0 ≤ (I92 12 1).toInt ∧ (I92 12 1).toInt ≤ 500; exact hI92R.1), (by show 0 ≤ (I92 12 5).toInt ∧ (I92 12 5).toInt ≤ 501; exact hI92R.2.1), (by show (-1) ≤ (I92 12 6).toInt ∧ (I92 12 6).toInt ≤ 1000000; exact hI92R.2.2.1), (by show 0 ≤ (I92 12 9).toInt ∧ (I92 12 9).toInt ≤ 500; exact hI92R.2.2.2.1), (by show 0 ≤ (I92 12 13).toInt ∧ (I92 12 13).toInt ≤ 24; exact hI92R.2.2.2.2)⟩ (by show (I92 12 6).toInt ≤ 501 ∧ ((I92 12 7).toInt = 401 ∨ (I92 12 6).toInt ≤ 500); first | omega | decide) 44 (by first | omega | decide) _) (cwV 1 hts gX9_atom_X9_taken rfl rfl rfl hy_X9_taken ⟨Nat.le_of_ble_eq_true rfl, Nat.le_of_ble_eq_true rfl⟩) (z_preV (i := 12) hK hW rfl rfl) rfl rfl hl.1 rfl (lv_room (Nat.le_of_ble_eq_true rfl)) dX9_atom_158 ⟨Nat.le_of_ble_eq_true rfl, Nat.le_of_ble_eq_true rfl⟩) (fun r u1 H locs hp hW hS => ?_)
                obtain ⟨I96, e9, hI96R, hI96T, fI96, hp⟩ := hp
                rw [e9] at hW
                have f97 := z_fr_sub (L := L_X9_atom_8) f93 fI96 (by decide)
                have k98 : (I96 12 6).toInt ≤ 501 ∧ ((I96 12 7).toInt = 401 ∨ (I96 12 6).toInt ≤ 500) := hI96T
                rcases hp with rfl | rfl
                · refine lv_if_eq (tgt := 183) hx hb dX9_atom_161 (by decide) (fun c99 => absurd c99 (by decide)) (fun c99 => ?_)
                  refine lv_aload_n hx hb dX9_atom_164 rfl (lv_at hl 1 rfl) ?_
                  refine lv_iload_n hx hb dX9_atom_165 rfl (lv_at hl 2 rfl) ?_
                  refine lv_iconst (v := 1) hx hb dX9_atom_166 (by decide) ?_
                  refine lv_iadd hx hb dX9_atom_167 ?_
                  refine z_topi (v := 9) (by decide) ?_
                  refine z_ci hW hS hA (va_runV (As := [.int 9]) (rest := []) ⟨hx, hb, hml, hown, hts⟩ (sx_X9_sum_9 l G ad c I96 ⟨(by show 0 ≤ (I96 12 1).toInt ∧ (I96 12 1).toInt ≤ 500; exact hI96R.1), (by show 0 ≤ (I96 12 5).toInt ∧ (I96 12 5).toInt ≤ 501; exact hI96R.2.1), (by show (-1) ≤ (I96 12 6).toInt ∧ (I96 12 6).toInt ≤ 1000000; exact hI96R.2.2.1), (by show 0 ≤ (I96 12 9).toInt ∧ (I96 12 9).toInt ≤ 500; exact hI96R.2.2.2.1), (by show 0 ≤ (I96 12 13).toInt ∧ (I96 12 13).toInt ≤ 24; exact hI96R.2.2.2.2)⟩ (by show (I96 12 6).toInt ≤ 501 ∧ ((I96 12 7).toInt = 401 ∨ (I96 12 6).toInt ≤ 500); first | omega | decide) _) (cwV 1 hts gX9_atom_X9_sum rfl rfl rfl hy_X9_sum ⟨Nat.le_of_ble_eq_true rfl, Nat.le_of_ble_eq_true rfl⟩) (z_preV (i := 12) hK hW rfl rfl) rfl rfl hl.1 rfl (lv_room (Nat.le_of_ble_eq_true rfl)) dX9_atom_168 ⟨Nat.le_of_ble_eq_true rfl, Nat.le_of_ble_eq_true rfl⟩) (fun r u1 H locs hp hW hS => ?_)
                  obtain ⟨I100, e9, hI100R, hI100T, fI100, hp⟩ := hp
                  rw [e9] at hW
                  have f101 := z_fr_sub (L := L_X9_atom_8) f97 fI100 (by decide)
                  have k102 : (I100 12 6).toInt ≤ 501 ∧ ((I100 12 7).toInt = 401 ∨ (I100 12 6).toInt ≤ 500) := hI100T
                  rcases hp with rfl | rfl
                  · refine lv_if_eq (tgt := 183) hx hb dX9_atom_171 (by decide) (fun c103 => absurd c103 (by decide)) (fun c103 => ?_)
                    refine lv_aload_n hx hb dX9_atom_174 rfl (lv_at hl 1 rfl) ?_
                    refine lv_bipush (v := 41) hx hb dX9_atom_175 (by decide) ?_
                    refine z_ci hW hS hA (va_runV (As := [.int 41]) (rest := []) ⟨hx, hb, hml, hown, hts⟩ (sx_X9_taken l G ad c I100 ⟨(by show 0 ≤ (I100 12 1).toInt ∧ (I100 12 1).toInt ≤ 500; exact hI100R.1), (by show 0 ≤ (I100 12 5).toInt ∧ (I100 12 5).toInt ≤ 501; exact hI100R.2.1), (by show (-1) ≤ (I100 12 6).toInt ∧ (I100 12 6).toInt ≤ 1000000; exact hI100R.2.2.1), (by show 0 ≤ (I100 12 9).toInt ∧ (I100 12 9).toInt ≤ 500; exact hI100R.2.2.2.1), (by show 0 ≤ (I100 12 13).toInt ∧ (I100 12 13).toInt ≤ 24; exact hI100R.2.2.2.2)⟩ (by show (I100 12 6).toInt ≤ 501 ∧ ((I100 12 7).toInt = 401 ∨ (I100 12 6).toInt ≤ 500); first | omega | decide) 41 (by first | omega | decide) _) (cwV 1 hts gX9_atom_X9_taken rfl rfl rfl hy_X9_taken ⟨Nat.le_of_ble_eq_true rfl, Nat.le_of_ble_eq_true rfl⟩) (z_preV (i := 12) hK hW rfl rfl) rfl rfl hl.1 rfl (lv_room (Nat.le_of_ble_eq_true rfl)) dX9_atom_177 ⟨Nat.le_of_ble_eq_true rfl, Nat.le_of_ble_eq_true rfl⟩) (fun r u1 H locs hp hW hS => ?_)
                    obtain ⟨I104, e9, hI104R, hI104T, fI104, hp⟩ := hp
                    rw [e9] at hW
                    have f105 := z_fr_sub (L := L_X9_atom_8) f101 fI104 (by decide)
                    have k106 : (I104 12 6).toInt ≤ 501 ∧ ((I104 12 7).toInt = 401 ∨ (I104 12 6).toInt ≤ 500) := hI104T
                    rcases hp with rfl | rfl
                    · refine lv_if_ne (tgt := 185) hx hb dX9_atom_180 (by decide) (fun c107 => ?_) (fun c107 => absurd c107 (by decide))
                      refine lv_aload_n hx hb dX9_atom_185 rfl (lv_at hl 1 rfl) ?_
                      refine lv_iload_n hx hb dX9_atom_186 rfl (lv_at hl 0 rfl) ?_
                      refine lv_sipush (v := 312) hx hb dX9_atom_187 (by decide) ?_
                      refine lv_icmp_ne (tgt := 198) hx hb dX9_atom_190 (by decide) (fun c108 => ?_) (fun c108 => (by have g := z_f_eq rfl z_l312 c108; omega))
                      have g109 := z_f_ne rfl z_l312 c108
                      refine lv_bipush (v := (-6)) hx hb dX9_atom_198 (by decide) ?_
                      refine z_cv hW hS hA (va_runV (As := [.int (-6)]) (rest := []) ⟨hx, hb, hml, hown, hts⟩ (sx_X9_emit l G ad c I104 ⟨(by show 0 ≤ (I104 12 1).toInt ∧ (I104 12 1).toInt ≤ 500; exact hI104R.1), (by show 0 ≤ (I104 12 5).toInt ∧ (I104 12 5).toInt ≤ 501; exact hI104R.2.1), (by show (-1) ≤ (I104 12 6).toInt ∧ (I104 12 6).toInt ≤ 1000000; exact hI104R.2.2.1), (by show 0 ≤ (I104 12 9).toInt ∧ (I104 12 9).toInt ≤ 500; exact hI104R.2.2.2.1), (by show 0 ≤ (I104 12 13).toInt ∧ (I104 12 13).toInt ≤ 24; exact hI104R.2.2.2.2)⟩ (-6) _) (cwV 1 hts gX9_atom_X9_emit rfl rfl rfl hy_X9_emit ⟨Nat.le_of_ble_eq_true rfl, Nat.le_of_ble_eq_true rfl⟩) (z_preV (i := 12) hK hW rfl rfl) rfl rfl hl.1 rfl (lv_room (Nat.le_of_ble_eq_true rfl)) dX9_atom_200 ⟨Nat.le_of_ble_eq_true rfl, Nat.le_of_ble_eq_true rfl⟩) (fun u1 H locs hp hW hS => ?_)
                      obtain ⟨I110, e9, hI110R, fI110⟩ := hp
                      rw [e9] at hW
                      have f111 := z_fr_sub (L := L_X9_atom_8) f105 fI110 (by decide)
                      have k112 : (I110 12 6).toInt ≤ 501 ∧ ((I110 12 7).toInt = 401 ∨ (I110 12 6).toInt ≤ 500) := (by have q0 : (I110 12 6) = (I104 12 6) := (by rw [fI110 12 6 (by decide)]); have q1 : (I110 12 7) = (I104 12 7) := (by rw [fI110 12 7 (by decide)]); show (I110 12 6).toInt ≤ 501 ∧ ((I110 12 7).toInt = 401 ∨ (I110 12 6).toInt ≤ 500); rw [q0, q1]; first | omega | decide)
                      have k113 : (I110 12 6).toInt = (I104 12 6).toInt := by rw [fI110 12 6 (by decide)]
                      have k114 : (I110 12 7).toInt = (I104 12 7).toInt := by rw [fI110 12 7 (by decide)]
                      refine lv_iconst (v := 1) hx hb dX9_atom_203 (by decide) ?_
                      exact z_zret hx hb hr (by decide) hK hS (Nat.le_of_ble_eq_true rfl) (Nat.le_of_ble_eq_true rfl) hlocks dX9_atom_204 (shC c, ad, I110, JX, PC c ad) hW ⟨I110, rfl, ⟨(by show 0 ≤ (I110 12 1).toInt ∧ (I110 12 1).toInt ≤ 500; exact hI110R.1), (by show 0 ≤ (I110 12 5).toInt ∧ (I110 12 5).toInt ≤ 501; exact hI110R.2.1), (by show (-1) ≤ (I110 12 6).toInt ∧ (I110 12 6).toInt ≤ 1000000; exact hI110R.2.2.1), (by show 0 ≤ (I110 12 9).toInt ∧ (I110 12 9).toInt ≤ 500; exact hI110R.2.2.2.1), (by show 0 ≤ (I110 12 13).toInt ∧ (I110 12 13).toInt ≤ 24; exact hI110R.2.2.2.2)⟩, (by show (I110 12 6).toInt ≤ 501 ∧ ((I110 12 7).toInt = 401 ∨ (I110 12 6).toInt ≤ 500); first | omega | decide), f111, Or.inl rfl⟩
                    · refine lv_if_ne (tgt := 185) hx hb dX9_atom_180 (by decide) (fun c115 => absurd (by decide) c115) (fun c115 => ?_)
                      refine lv_iconst (v := 0) hx hb dX9_atom_183 (by decide) ?_
                      exact z_zret hx hb hr (by decide) hK hS (Nat.le_of_ble_eq_true rfl) (Nat.le_of_ble_eq_true rfl) hlocks dX9_atom_184 (shC c, ad, I104, JX, PC c ad) hW ⟨I104, rfl, ⟨(by show 0 ≤ (I104 12 1).toInt ∧ (I104 12 1).toInt ≤ 500; exact hI104R.1), (by show 0 ≤ (I104 12 5).toInt ∧ (I104 12 5).toInt ≤ 501; exact hI104R.2.1), (by show (-1) ≤ (I104 12 6).toInt ∧ (I104 12 6).toInt ≤ 1000000; exact hI104R.2.2.1), (by show 0 ≤ (I104 12 9).toInt ∧ (I104 12 9).toInt ≤ 500; exact hI104R.2.2.2.1), (by show 0 ≤ (I104 12 13).toInt ∧ (I104 12 13).toInt ≤ 24; exact hI104R.2.2.2.2)⟩, (by show (I104 12 6).toInt ≤ 501 ∧ ((I104 12 7).toInt = 401 ∨ (I104 12 6).toInt ≤ 500); first | omega | decide), f105, Or.inr rfl⟩
                  · refine lv_if_eq (tgt := 183) hx hb dX9_atom_171 (by decide) (fun c116 => ?_) (fun c116 => absurd (by decide) c116)
                    refine lv_iconst (v := 0) hx hb dX9_atom_183 (by decide) ?_
                    exact z_zret hx hb hr (by decide) hK hS (Nat.le_of_ble_eq_true rfl) (Nat.le_of_ble_eq_true rfl) hlocks dX9_atom_184 (shC c, ad, I100, JX, PC c ad) hW ⟨I100, rfl, ⟨(by show 0 ≤ (I100 12 1).toInt ∧ (I100 12 1).toInt ≤ 500; exact hI100R.1), (by show 0 ≤ (I100 12 5).toInt ∧ (I100 12 5).toInt ≤ 501; exact hI100R.2.1), (by show (-1) ≤ (I100 12 6).toInt ∧ (I100 12 6).toInt ≤ 1000000; exact hI100R.2.2.1), (by show 0 ≤ (I100 12 9).toInt ∧ (I100 12 9).toInt ≤ 500; exact hI100R.2.2.2.1), (by show 0 ≤ (I100 12 13).toInt ∧ (I100 12 13).toInt ≤ 24; exact hI100R.2.2.2.2)⟩, (by show (I100 12 6).toInt ≤ 501 ∧ ((I100 12 7).toInt = 401 ∨ (I100 12 6).toInt ≤ 500); first | omega | decide), f101, Or.inr rfl⟩
                · refine lv_if_eq (tgt := 183) hx hb dX9_atom_161 (by decide) (fun c117 => ?_) (fun c117 => absurd (by decide) c117)
                  refine lv_iconst (v := 0) hx hb dX9_atom_183 (by decide) ?_
                  exact z_zret hx hb hr (by decide) hK hS (Nat.le_of_ble_eq_true rfl) (Nat.le_of_ble_eq_true rfl) hlocks dX9_atom_184 (shC c, ad, I96, JX, PC c ad) hW ⟨I96, rfl, ⟨(by show 0 ≤ (I96 12 1).toInt ∧ (I96 12 1).toInt ≤ 500; exact hI96R.1), (by show 0 ≤ (I96 12 5).toInt ∧ (I96 12 5).toInt ≤ 501; exact hI96R.2.1), (by show (-1) ≤ (I96 12 6).toInt ∧ (I96 12 6).toInt ≤ 1000000; exact hI96R.2.2.1), (by show 0 ≤ (I96 12 9).toInt ∧ (I96 12 9).toInt ≤ 500; exact hI96R.2.2.2.1), (by show 0 ≤ (I96 12 13).toInt ∧ (I96 12 13).toInt ≤ 24; exact hI96R.2.2.2.2)⟩, (by show (I96 12 6).toInt ≤ 501 ∧ ((I96 12 7).toInt = 401 ∨ (I96 12 6).toInt ≤ 500); first | omega | decide), f97, Or.inr rfl⟩
              · refine lv_if_eq (tgt := 183) hx hb dX9_atom_152 (by decide) (fun c118 => ?_) (fun c118 => absurd (by decide) c118)
                refine lv_iconst (v := 0) hx hb dX9_atom_183 (by decide) ?_
                exact z_zret hx hb hr (by decide) hK hS (Nat.le_of_ble_eq_true rfl) (Nat.le_of_ble_eq_true rfl) hlocks dX9_atom_184 (shC c, ad, I92, JX, PC c ad) hW ⟨I92, rfl, ⟨(by show 0 ≤ (I92 12 1).toInt ∧ (I92 12 1).toInt ≤ 500; exact hI92R.1), (by show 0 ≤ (I92 12 5).toInt ∧ (I92 12 5).toInt ≤ 501; exact hI92R.2.1), (by show (-1) ≤ (I92 12 6).toInt ∧ (I92 12 6).toInt ≤ 1000000; exact hI92R.2.2.1), (by show 0 ≤ (I92 12 9).toInt ∧ (I92 12 9).toInt ≤ 500; exact hI92R.2.2.2.1), (by show 0 ≤ (I92 12 13).toInt ∧ (I92 12 13).toInt ≤ 24; exact hI92R.2.2.2.2)⟩, (by show (I92 12 6).toInt ≤ 501 ∧ ((I92 12 7).toInt = 401 ∨ (I92 12 6).toInt ≤ 500); first | omega | decide), f93, Or.inr rfl⟩
            · refine lv_if_eq (tgt := 183) hx hb dX9_atom_142 (by decide) (fun c119 => ?_) (fun c119 => absurd (by decide) c119)
              refine lv_iconst (v := 0) hx hb dX9_atom_183 (by decide) ?_
              exact z_zret hx hb hr (by decide) hK hS (Nat.le_of_ble_eq_true rfl) (Nat.le_of_ble_eq_true rfl) hlocks dX9_atom_184 (shC c, ad, I88, JX, PC c ad) hW ⟨I88, rfl, ⟨(by show 0 ≤ (I88 12 1).toInt ∧ (I88 12 1).toInt ≤ 500; exact hI88R.1), (by show 0 ≤ (I88 12 5).toInt ∧ (I88 12 5).toInt ≤ 501; exact hI88R.2.1), (by show (-1) ≤ (I88 12 6).toInt ∧ (I88 12 6).toInt ≤ 1000000; exact hI88R.2.2.1), (by show 0 ≤ (I88 12 9).toInt ∧ (I88 12 9).toInt ≤ 500; exact hI88R.2.2.2.1), (by show 0 ≤ (I88 12 13).toInt ∧ (I88 12 13).toInt ≤ 24; exact hI88R.2.2.2.2)⟩, (by show (I88 12 6).toInt ≤ 501 ∧ ((I88 12 7).toInt = 401 ∨ (I88 12 6).toInt ≤ 500); first | omega | decide), f89, Or.inr rfl⟩
    · have g120 := z_f_nlt rfl z_l314 c17
      refine lv_aload_n hx hb dX9_atom_20 rfl (lv_at hl 0 rfl) ?_
      refine z_get (T := TX9) (N := 14) (ci := 9) (i := 12) (v := .int (I 12 7)) hx hb hts zj_X9_atom_X9 hown hK hW rfl rfl 7 (by decide) (hts (.fieldLink RX9 62 "PetrolBoard$Reader" "token" "I") (me_s (me_l (me_l (List.mem_of_getElem? (i := 0) rfl))))) (fun _ h => h) rfl dX9_atom_21 ?_
      refine lv_sipush (v := 320) hx hb dX9_atom_24 (by decide) ?_
      refine lv_icmp_gt (tgt := 68) hx hb dX9_atom_27 (by decide) (fun c121 => ?_) (fun c121 => ?_)
      · have g122 := z_f_gt rfl z_l320 c121
        refine lv_aload_n hx hb dX9_atom_68 rfl (lv_at hl 0 rfl) ?_
        refine z_get (T := TX9) (N := 14) (ci := 9) (i := 12) (v := .int (I 12 7)) hx hb hts zj_X9_atom_X9 hown hK hW rfl rfl 7 (by decide) (hts (.fieldLink RX9 62 "PetrolBoard$Reader" "token" "I") (me_s (me_l (me_l (List.mem_of_getElem? (i := 0) rfl))))) (fun _ h => h) rfl dX9_atom_69 ?_
        refine lv_istore_n (lv' := [(2, .int (I 12 7)), (0, .ref (ad 12)), (1, .int 8)]) hx hb dX9_atom_72 rfl hl (by decide) rfl (fun ls hl => ?_)
        refine lv_iload_n hx hb dX9_atom_73 rfl (lv_at hl 0 rfl) ?_
        refine lv_bipush (v := 40) hx hb dX9_atom_74 (by decide) ?_
        refine lv_icmp_eq (tgt := 93) hx hb dX9_atom_76 (by decide) (fun c123 => (by have g := z_f_eq rfl z_l40 c123; omega)) (fun c123 => ?_)
        have g124 := z_f_ne rfl z_l40 c123
        refine lv_iload_n hx hb dX9_atom_79 rfl (lv_at hl 0 rfl) ?_
        refine lv_sipush (v := 312) hx hb dX9_atom_80 (by decide) ?_
        refine lv_icmp_eq (tgt := 93) hx hb dX9_atom_83 (by decide) (fun c125 => (by have g := z_f_eq rfl z_l312 c125; omega)) (fun c125 => ?_)
        have g126 := z_f_ne rfl z_l312 c125
        refine lv_iload_n hx hb dX9_atom_86 rfl (lv_at hl 0 rfl) ?_
        refine lv_sipush (v := 313) hx hb dX9_atom_87 (by decide) ?_
        refine lv_icmp_ne (tgt := 99) hx hb dX9_atom_90 (by decide) (fun c127 => ?_) (fun c127 => (by have g := z_f_eq rfl z_l313 c127; omega))
        have g128 := z_f_ne rfl z_l313 c127
        refine lv_iconst (v := 0) hx hb dX9_atom_99 (by decide) ?_
        exact z_zret hx hb hr (by decide) hK hS (Nat.le_of_ble_eq_true rfl) (Nat.le_of_ble_eq_true rfl) hlocks dX9_atom_100 (shC c, ad, I, JX, PC c ad) hW ⟨I, rfl, ⟨(by show 0 ≤ (I 12 1).toInt ∧ (I 12 1).toInt ≤ 500; exact hR.1), (by show 0 ≤ (I 12 5).toInt ∧ (I 12 5).toInt ≤ 501; exact hR.2.1), (by show (-1) ≤ (I 12 6).toInt ∧ (I 12 6).toInt ≤ 1000000; exact hR.2.2.1), (by show 0 ≤ (I 12 9).toInt ∧ (I 12 9).toInt ≤ 500; exact hR.2.2.2.1), (by show 0 ≤ (I 12 13).toInt ∧ (I 12 13).toInt ≤ 24; exact hR.2.2.2.2)⟩, (by show (I 12 6).toInt ≤ 501 ∧ ((I 12 7).toInt = 401 ∨ (I 12 6).toInt ≤ 500); first | omega | decide), z_fr_0, Or.inr rfl⟩
      · have g129 := z_f_ngt rfl z_l320 c121
        refine lv_aload_n hx hb dX9_atom_30 rfl (lv_at hl 0 rfl) ?_
        refine lv_aload_n hx hb dX9_atom_31 rfl (lv_at hl 0 rfl) ?_
        refine z_get (T := TX9) (N := 14) (ci := 9) (i := 12) (v := .int (I 12 7)) hx hb hts zj_X9_atom_X9 hown hK hW rfl rfl 7 (by decide) (hts (.fieldLink RX9 62 "PetrolBoard$Reader" "token" "I") (me_s (me_l (me_l (List.mem_of_getElem? (i := 0) rfl))))) (fun _ h => h) rfl dX9_atom_32 ?_
        refine lv_sipush (v := 400) hx hb dX9_atom_35 (by decide) ?_
        refine lv_icmp_ne (tgt := 48) hx hb dX9_atom_38 (by decide) (fun c130 => ?_) (fun c130 => (by have g := z_f_eq rfl z_l400 c130; omega))
        have g131 := z_f_ne rfl z_l400 c130
        refine lv_bipush (v := (-20)) hx hb dX9_atom_48 (by decide) ?_
        refine lv_aload_n hx hb dX9_atom_50 rfl (lv_at hl 0 rfl) ?_
        refine z_get (T := TX9) (N := 14) (ci := 9) (i := 12) (v := .int (I 12 7)) hx hb hts zj_X9_atom_X9 hown hK hW rfl rfl 7 (by decide) (hts (.fieldLink RX9 62 "PetrolBoard$Reader" "token" "I") (me_s (me_l (me_l (List.mem_of_getElem? (i := 0) rfl))))) (fun _ h => h) rfl dX9_atom_51 ?_
        refine lv_sipush (v := 314) hx hb dX9_atom_54 (by decide) ?_
        refine lv_isub hx hb dX9_atom_57 ?_
        refine lv_topi (fun x132 ex132 => ?_)
        have tx132 : x132.toInt = (I 12 7).toInt - 314 := z_tsub ex132 rfl z_l314 (by omega) (by omega)
        refine lv_isub hx hb dX9_atom_58 ?_
        refine lv_topi (fun x133 ex133 => ?_)
        have tx133 : x133.toInt = (-20) - x132.toInt := z_tsub ex133 z_lm20 rfl (by omega) (by omega)
        refine z_cv hW hS hA (va_runV (As := [.int x133]) (rest := []) ⟨hx, hb, hml, hown, hts⟩ (sx_X9_emit l G ad c I ⟨(by show 0 ≤ (I 12 1).toInt ∧ (I 12 1).toInt ≤ 500; exact hR.1), (by show 0 ≤ (I 12 5).toInt ∧ (I 12 5).toInt ≤ 501; exact hR.2.1), (by show (-1) ≤ (I 12 6).toInt ∧ (I 12 6).toInt ≤ 1000000; exact hR.2.2.1), (by show 0 ≤ (I 12 9).toInt ∧ (I 12 9).toInt ≤ 500; exact hR.2.2.2.1), (by show 0 ≤ (I 12 13).toInt ∧ (I 12 13).toInt ≤ 24; exact hR.2.2.2.2)⟩ x133 _) (cwV 1 hts gX9_atom_X9_emit rfl rfl rfl hy_X9_emit ⟨Nat.le_of_ble_eq_true rfl, Nat.le_of_ble_eq_true rfl⟩) (z_preV (i := 12) hK hW rfl rfl) rfl rfl hl.1 rfl (lv_room (Nat.le_of_ble_eq_true rfl)) dX9_atom_59 ⟨Nat.le_of_ble_eq_true rfl, Nat.le_of_ble_eq_true rfl⟩) (fun u1 H locs hp hW hS => ?_)
        obtain ⟨I134, e9, hI134R, fI134⟩ := hp
        rw [e9] at hW
        have f135 := z_fr_sub (L := L_X9_atom_8) z_fr_0 fI134 (by decide)
        have k136 : (I134 12 6).toInt ≤ 501 ∧ ((I134 12 7).toInt = 401 ∨ (I134 12 6).toInt ≤ 500) := (by have q0 : (I134 12 6) = (I 12 6) := (by rw [fI134 12 6 (by decide)]); have q1 : (I134 12 7) = (I 12 7) := (by rw [fI134 12 7 (by decide)]); show (I134 12 6).toInt ≤ 501 ∧ ((I134 12 7).toInt = 401 ∨ (I134 12 6).toInt ≤ 500); rw [q0, q1]; first | omega | decide)
        have k137 : (I134 12 6).toInt = (I 12 6).toInt := by rw [fI134 12 6 (by decide)]
        have k138 : (I134 12 7).toInt = (I 12 7).toInt := by rw [fI134 12 7 (by decide)]
        refine lv_aload_n hx hb dX9_atom_62 rfl (lv_at hl 0 rfl) ?_
        refine z_cv hW hS hA (va_runV (As := []) (rest := []) ⟨hx, hb, hml, hown, hts⟩ (sx_X9_step l G ad c I134 ⟨(by show 0 ≤ (I134 12 1).toInt ∧ (I134 12 1).toInt ≤ 500; exact hI134R.1), (by show 0 ≤ (I134 12 5).toInt ∧ (I134 12 5).toInt ≤ 501; exact hI134R.2.1), (by show (-1) ≤ (I134 12 6).toInt ∧ (I134 12 6).toInt ≤ 1000000; exact hI134R.2.2.1), (by show 0 ≤ (I134 12 9).toInt ∧ (I134 12 9).toInt ≤ 500; exact hI134R.2.2.2.1), (by show 0 ≤ (I134 12 13).toInt ∧ (I134 12 13).toInt ≤ 24; exact hI134R.2.2.2.2)⟩   (by show (I134 12 6).toInt ≤ 500; first | omega | decide) _) (cwV 0 hts gX9_atom_X9_step rfl rfl rfl hy_X9_step ⟨Nat.le_of_ble_eq_true rfl, Nat.le_of_ble_eq_true rfl⟩) (z_preV (i := 12) hK hW rfl rfl) rfl rfl hl.1 rfl (lv_room (Nat.le_of_ble_eq_true rfl)) dX9_atom_63 ⟨Nat.le_of_ble_eq_true rfl, Nat.le_of_ble_eq_true rfl⟩) (fun u1 H locs hp hW hS => ?_)
        obtain ⟨I139, e9, hI139R, hI139T, fI139⟩ := hp
        rw [e9] at hW
        have f140 := z_fr_sub (L := L_X9_atom_8) f135 fI139 (by decide)
        have k141 : (I139 12 6).toInt ≤ 501 ∧ ((I139 12 7).toInt = 401 ∨ (I139 12 6).toInt ≤ 500) := hI139T
        refine lv_iconst (v := 1) hx hb dX9_atom_66 (by decide) ?_
        exact z_zret hx hb hr (by decide) hK hS (Nat.le_of_ble_eq_true rfl) (Nat.le_of_ble_eq_true rfl) hlocks dX9_atom_67 (shC c, ad, I139, JX, PC c ad) hW ⟨I139, rfl, ⟨(by show 0 ≤ (I139 12 1).toInt ∧ (I139 12 1).toInt ≤ 500; exact hI139R.1), (by show 0 ≤ (I139 12 5).toInt ∧ (I139 12 5).toInt ≤ 501; exact hI139R.2.1), (by show (-1) ≤ (I139 12 6).toInt ∧ (I139 12 6).toInt ≤ 1000000; exact hI139R.2.2.1), (by show 0 ≤ (I139 12 9).toInt ∧ (I139 12 9).toInt ≤ 500; exact hI139R.2.2.2.1), (by show 0 ≤ (I139 12 13).toInt ∧ (I139 12 13).toInt ≤ 24; exact hI139R.2.2.2.2)⟩, (by show (I139 12 6).toInt ≤ 501 ∧ ((I139 12 7).toInt = 401 ∨ (I139 12 6).toInt ≤ 500); first | omega | decide), f140, Or.inl rfl⟩
noncomputable def L_X9_product_8 : z_L := [(12, 6), (12, 7), (17, 999), (12, 9)]
set_option maxHeartbeats 8000000 in
set_option maxRecDepth 100000 in
theorem sx_X9_product_8 (l : Launch) (G : z_G) (ad : Nat → Nat) (c : z_C) (I : z_I) (hR : z_iR I) (hT : z_iT I) : z_M l yX9_product wsX9_product { frames := 7, cells := 0, slots := 0, locals := 143 } [.ref (ad 12), .int 8] G (shC c, ad, I, JX, PC c ad) (fun r u1 => ∃ I1 : z_I, u1 = (shC c, ad, I1, JX, PC c ad) ∧ z_iR I1 ∧ z_iT I1 ∧ z_fr L_X9_product_8 I1 I ∧ (r = 1 ∨ r = 0)) 0 0 := by
  intro sz
  refine z_headQ (cc := cX9_product) (maxL := 4) (ret := (some .boolean)) (by decide) rfl (Nat.le_of_ble_eq_true rfl) ?_
  intro p e s m below meth c0 ls hIn hK hsz hW hl
  obtain ⟨hx, hb, hr, hml, hown, hts, hlocks, hname⟩ := hIn
  subst hsz
  have hown : s.vm.findClass RX9 = some m.cls := hown
  have hA : ∀ q : Nat, s.heap.size ≤ q → z_A (shC c, ad, I, JX, PC c ad) s.heap.size q := fun q h => Or.inr h
  generalize hAe : z_A (shC c, ad, I, JX, PC c ad) s.heap.size = A at *
  have hS : va_S A s.heap s.heap [] := va_S.rf
  have hl : lv_has ls 4 [(0, .ref (ad 12)), (1, .int 8)] := hl
  have kT : (I 12 6).toInt ≤ 501 ∧ ((I 12 7).toInt = 401 ∨ (I 12 6).toInt ≤ 500) := hT
  refine lv_aload_n hx hb dX9_product_0 rfl (lv_at hl 0 rfl) ?_
  refine lv_iload_n hx hb dX9_product_1 rfl (lv_at hl 1 rfl) ?_
  refine z_ci hW hS hA (va_runV (As := [.int 8]) (rest := []) ⟨hx, hb, hml, hown, hts⟩ (sx_X9_atom_8 l G ad c I ⟨(by show 0 ≤ (I 12 1).toInt ∧ (I 12 1).toInt ≤ 500; exact hR.1), (by show 0 ≤ (I 12 5).toInt ∧ (I 12 5).toInt ≤ 501; exact hR.2.1), (by show (-1) ≤ (I 12 6).toInt ∧ (I 12 6).toInt ≤ 1000000; exact hR.2.2.1), (by show 0 ≤ (I 12 9).toInt ∧ (I 12 9).toInt ≤ 500; exact hR.2.2.2.1), (by show 0 ≤ (I 12 13).toInt ∧ (I 12 13).toInt ≤ 24; exact hR.2.2.2.2)⟩ (by show (I 12 6).toInt ≤ 501 ∧ ((I 12 7).toInt = 401 ∨ (I 12 6).toInt ≤ 500); first | omega | decide) _) (cwV 1 hts gX9_product_X9_atom rfl rfl rfl hy_X9_atom ⟨Nat.le_of_ble_eq_true rfl, Nat.le_of_ble_eq_true rfl⟩) (z_preV (i := 12) hK hW rfl rfl) rfl rfl hl.1 rfl (lv_room (Nat.le_of_ble_eq_true rfl)) dX9_product_2 ⟨Nat.le_of_ble_eq_true rfl, Nat.le_of_ble_eq_true rfl⟩) (fun r u1 H locs hp hW hS => ?_)
  obtain ⟨I1, e9, hI1R, hI1T, fI1, hp⟩ := hp
  rw [e9] at hW
  have f2 := z_fr_sub (L := L_X9_product_8) z_fr_0 fI1 (by decide)
  have k3 : (I1 12 6).toInt ≤ 501 ∧ ((I1 12 7).toInt = 401 ∨ (I1 12 6).toInt ≤ 500) := hI1T
  rcases hp with rfl | rfl
  · refine lv_if_ne (tgt := 10) hx hb dX9_product_5 (by decide) (fun c4 => ?_) (fun c4 => absurd c4 (by decide))
    refine lv_iconst (v := 0) hx hb dX9_product_10 (by decide) ?_
    refine lv_istore_n (lv' := [(2, .int 0), (0, .ref (ad 12)), (1, .int 8)]) hx hb dX9_product_11 rfl hl (by decide) rfl (fun ls hl => ?_)
    have lp5 : ∀ (f : Nat) (y6 : Int32) (I7 : z_I) (H : Heap) (locs : List Loc) (ls : Array Slot), (2147483647 < y6.toInt + (f : Int)) → (0 ≤ y6.toInt) → (z_iR I7) → (z_iT I7) → (z_fr L_X9_product_8 I7 I) → z_W G A (shC c, ad, I7, JX, PC c ad) H → va_S A s.heap H locs → lv_has ls 4 [(2, .int y6), (0, .ref (ad 12)), (1, .int 8)] → W p l e (headSpec wsX9_product { frames := 7, cells := 0, slots := 0, locals := 143 }).room s m ([.ref (ad 12), .int 8] : List Value).toArray below meth c0 H locs 0 0 (MQ below (va_Qi (fun (r : Int32) (u1 : z_U) => ∃ I1 : z_I, u1 = (shC c, ad, I1, JX, PC c ad) ∧ z_iR I1 ∧ z_iT I1 ∧ z_fr L_X9_product_8 I1 I ∧ (r = 1 ∨ r = 0)) (z_B G A) A) ([.ref (ad 12), .int 8] : List Value).toArray s 0 0 A) (F0 m 12 ls []) := by
      intro f
      induction f with
      | zero => intro y6 I7  H locs ls lp5m lp5l2 lp5R lp5T lp5fr hW hS hl; exact absurd lp5m (by have := Int32.toInt_lt y6; have := Int32.le_toInt y6; omega)
      | succ f lp5ih =>
        intro y6 I7  H locs ls lp5m lp5l2 lp5R lp5T lp5fr hW hS hl
        have k8 : (I7 12 6).toInt ≤ 501 ∧ ((I7 12 7).toInt = 401 ∨ (I7 12 6).toInt ≤ 500) := lp5T
        refine lv_iload_n hx hb dX9_product_12 rfl (lv_at hl 0 rfl) ?_
        refine lv_sipush (v := 500) hx hb dX9_product_13 (by decide) ?_
        refine lv_icmp_ge (tgt := 79) hx hb dX9_product_16 (by decide) (fun c9 => ?_) (fun c9 => ?_)
        · have g10 := z_f_ge rfl z_l500 c9
          have b11 := Int32.toInt_lt y6
          refine lv_iconst (v := 1) hx hb dX9_product_79 (by decide) ?_
          exact z_zret hx hb hr (by decide) hK hS (Nat.le_of_ble_eq_true rfl) (Nat.le_of_ble_eq_true rfl) hlocks dX9_product_80 (shC c, ad, I7, JX, PC c ad) hW ⟨I7, rfl, ⟨(by show 0 ≤ (I7 12 1).toInt ∧ (I7 12 1).toInt ≤ 500; exact lp5R.1), (by show 0 ≤ (I7 12 5).toInt ∧ (I7 12 5).toInt ≤ 501; exact lp5R.2.1), (by show (-1) ≤ (I7 12 6).toInt ∧ (I7 12 6).toInt ≤ 1000000; exact lp5R.2.2.1), (by show 0 ≤ (I7 12 9).toInt ∧ (I7 12 9).toInt ≤ 500; exact lp5R.2.2.2.1), (by show 0 ≤ (I7 12 13).toInt ∧ (I7 12 13).toInt ≤ 24; exact lp5R.2.2.2.2)⟩, (by show (I7 12 6).toInt ≤ 501 ∧ ((I7 12 7).toInt = 401 ∨ (I7 12 6).toInt ≤ 500); first | omega | decide), lp5fr, Or.inl rfl⟩
        · have g12 := z_f_nge rfl z_l500 c9
          have b13 := Int32.toInt_lt y6
          refine lv_aload_n hx hb dX9_product_19 rfl (lv_at hl 1 rfl) ?_
          refine z_get (T := TX9) (N := 14) (ci := 9) (i := 12) (v := .int (I7 12 7)) hx hb hts zj_X9_product_X9 hown hK hW rfl rfl 7 (by decide) (hts (.fieldLink RX9 62 "PetrolBoard$Reader" "token" "I") (me_s (me_l (me_l (List.mem_of_getElem? (i := 0) rfl))))) (fun _ h => h) rfl dX9_product_20 ?_
          refine lv_bipush (v := 42) hx hb dX9_product_23 (by decide) ?_
          refine lv_icmp_eq (tgt := 37) hx hb dX9_product_25 (by decide) (fun c14 => ?_) (fun c14 => ?_)
          · have g15 := z_f_eq rfl z_l42 c14
            have b16 := Int32.toInt_lt (I7 12 7)
            refine lv_aload_n hx hb dX9_product_37 rfl (lv_at hl 1 rfl) ?_
            refine z_get (T := TX9) (N := 14) (ci := 9) (i := 12) (v := .int (I7 12 7)) hx hb hts zj_X9_product_X9 hown hK hW rfl rfl 7 (by decide) (hts (.fieldLink RX9 62 "PetrolBoard$Reader" "token" "I") (me_s (me_l (me_l (List.mem_of_getElem? (i := 0) rfl))))) (fun _ h => h) rfl dX9_product_38 ?_
            refine lv_istore_n (lv' := [(3, .int (I7 12 7)), (2, .int y6), (0, .ref (ad 12)), (1, .int 8)]) hx hb dX9_product_41 rfl hl (by decide) rfl (fun ls hl => ?_)
            refine lv_aload_n hx hb dX9_product_42 rfl (lv_at hl 2 rfl) ?_
            refine z_cv hW hS hA (va_runV (As := []) (rest := []) ⟨hx, hb, hml, hown, hts⟩ (sx_X9_step l G ad c I7 ⟨(by show 0 ≤ (I7 12 1).toInt ∧ (I7 12 1).toInt ≤ 500; exact lp5R.1), (by show 0 ≤ (I7 12 5).toInt ∧ (I7 12 5).toInt ≤ 501; exact lp5R.2.1), (by show (-1) ≤ (I7 12 6).toInt ∧ (I7 12 6).toInt ≤ 1000000; exact lp5R.2.2.1), (by show 0 ≤ (I7 12 9).toInt ∧ (I7 12 9).toInt ≤ 500; exact lp5R.2.2.2.1), (by show 0 ≤ (I7 12 13).toInt ∧ (I7 12 13).toInt ≤ 24; exact lp5R.2.2.2.2)⟩   (by show (I7 12 6).toInt ≤ 500; first | omega | decide) _) (cwV 0 hts gX9_product_X9_step rfl rfl rfl hy_X9_step ⟨Nat.le_of_ble_eq_true rfl, Nat.le_of_ble_eq_true rfl⟩) (z_preV (i := 12) hK hW rfl rfl) rfl rfl hl.1 rfl (lv_room (Nat.le_of_ble_eq_true rfl)) dX9_product_43 ⟨Nat.le_of_ble_eq_true rfl, Nat.le_of_ble_eq_true rfl⟩) (fun u1 H locs hp hW hS => ?_)
            obtain ⟨I17, e9, hI17R, hI17T, fI17⟩ := hp
            rw [e9] at hW
            have f18 := z_fr_sub (L := L_X9_product_8) lp5fr fI17 (by decide)
            have k19 : (I17 12 6).toInt ≤ 501 ∧ ((I17 12 7).toInt = 401 ∨ (I17 12 6).toInt ≤ 500) := hI17T
            refine lv_aload_n hx hb dX9_product_46 rfl (lv_at hl 2 rfl) ?_
            refine lv_iload_n hx hb dX9_product_47 rfl (lv_at hl 3 rfl) ?_
            refine z_ci hW hS hA (va_runV (As := [.int 8]) (rest := []) ⟨hx, hb, hml, hown, hts⟩ (sx_X9_atom_8 l G ad c I17 ⟨(by show 0 ≤ (I17 12 1).toInt ∧ (I17 12 1).toInt ≤ 500; exact hI17R.1), (by show 0 ≤ (I17 12 5).toInt ∧ (I17 12 5).toInt ≤ 501; exact hI17R.2.1), (by show (-1) ≤ (I17 12 6).toInt ∧ (I17 12 6).toInt ≤ 1000000; exact hI17R.2.2.1), (by show 0 ≤ (I17 12 9).toInt ∧ (I17 12 9).toInt ≤ 500; exact hI17R.2.2.2.1), (by show 0 ≤ (I17 12 13).toInt ∧ (I17 12 13).toInt ≤ 24; exact hI17R.2.2.2.2)⟩ (by show (I17 12 6).toInt ≤ 501 ∧ ((I17 12 7).toInt = 401 ∨ (I17 12 6).toInt ≤ 500); first | omega | decide) _) (cwV 1 hts gX9_product_X9_atom rfl rfl rfl hy_X9_atom ⟨Nat.le_of_ble_eq_true rfl, Nat.le_of_ble_eq_true rfl⟩) (z_preV (i := 12) hK hW rfl rfl) rfl rfl hl.1 rfl (lv_room (Nat.le_of_ble_eq_true rfl)) dX9_product_48 ⟨Nat.le_of_ble_eq_true rfl, Nat.le_of_ble_eq_true rfl⟩) (fun r u1 H locs hp hW hS => ?_)
            obtain ⟨I20, e9, hI20R, hI20T, fI20, hp⟩ := hp
            rw [e9] at hW
            have f21 := z_fr_sub (L := L_X9_product_8) f18 fI20 (by decide)
            have k22 : (I20 12 6).toInt ≤ 501 ∧ ((I20 12 7).toInt = 401 ∨ (I20 12 6).toInt ≤ 500) := hI20T
            rcases hp with rfl | rfl
            · refine lv_if_ne (tgt := 56) hx hb dX9_product_51 (by decide) (fun c23 => ?_) (fun c23 => absurd c23 (by decide))
              refine lv_aload_n hx hb dX9_product_56 rfl (lv_at hl 2 rfl) ?_
              refine lv_iload_n hx hb dX9_product_57 rfl (lv_at hl 0 rfl) ?_
              refine lv_bipush (v := 42) hx hb dX9_product_58 (by decide) ?_
              refine lv_icmp_ne (tgt := 68) hx hb dX9_product_60 (by decide) (fun c24 => (by have g := z_f_ne rfl z_l42 c24; omega)) (fun c24 => ?_)
              have g25 := z_f_eq rfl z_l42 c24
              refine lv_bipush (v := (-3)) hx hb dX9_product_63 (by decide) ?_
              refine lv_goto (tgt := 70) hx hb dX9_product_65 (by decide) ?_
              refine z_cv hW hS hA (va_runV (As := [.int (-3)]) (rest := []) ⟨hx, hb, hml, hown, hts⟩ (sx_X9_emit l G ad c I20 ⟨(by show 0 ≤ (I20 12 1).toInt ∧ (I20 12 1).toInt ≤ 500; exact hI20R.1), (by show 0 ≤ (I20 12 5).toInt ∧ (I20 12 5).toInt ≤ 501; exact hI20R.2.1), (by show (-1) ≤ (I20 12 6).toInt ∧ (I20 12 6).toInt ≤ 1000000; exact hI20R.2.2.1), (by show 0 ≤ (I20 12 9).toInt ∧ (I20 12 9).toInt ≤ 500; exact hI20R.2.2.2.1), (by show 0 ≤ (I20 12 13).toInt ∧ (I20 12 13).toInt ≤ 24; exact hI20R.2.2.2.2)⟩ (-3) _) (cwV 1 hts gX9_product_X9_emit rfl rfl rfl hy_X9_emit ⟨Nat.le_of_ble_eq_true rfl, Nat.le_of_ble_eq_true rfl⟩) (z_preV (i := 12) hK hW rfl rfl) rfl rfl hl.1 rfl (lv_room (Nat.le_of_ble_eq_true rfl)) dX9_product_70 ⟨Nat.le_of_ble_eq_true rfl, Nat.le_of_ble_eq_true rfl⟩) (fun u1 H locs hp hW hS => ?_)
              obtain ⟨I26, e9, hI26R, fI26⟩ := hp
              rw [e9] at hW
              have f27 := z_fr_sub (L := L_X9_product_8) f21 fI26 (by decide)
              have k28 : (I26 12 6).toInt ≤ 501 ∧ ((I26 12 7).toInt = 401 ∨ (I26 12 6).toInt ≤ 500) := (by have q0 : (I26 12 6) = (I20 12 6) := (by rw [fI26 12 6 (by decide)]); have q1 : (I26 12 7) = (I20 12 7) := (by rw [fI26 12 7 (by decide)]); show (I26 12 6).toInt ≤ 501 ∧ ((I26 12 7).toInt = 401 ∨ (I26 12 6).toInt ≤ 500); rw [q0, q1]; first | omega | decide)
              have k29 : (I26 12 6).toInt = (I20 12 6).toInt := by rw [fI26 12 6 (by decide)]
              have k30 : (I26 12 7).toInt = (I20 12 7).toInt := by rw [fI26 12 7 (by decide)]
              obtain ⟨x31, ex31⟩ : ∃ y : Int32, y = y6 + 1 := ⟨_, rfl⟩
              have tx31 : x31.toInt = y6.toInt + 1 := z_tadd ex31 rfl z_l1 (by omega) (by omega)
              refine lv_iinc (v := x31) (lv' := [(2, .int x31), (3, .int (I7 12 7)), (0, .ref (ad 12)), (1, .int 8)]) hx hb dX9_product_73 hl (k := 1) rfl (by rw [ex31]; rfl) (by decide) rfl (fun ls hl => ?_)
              refine lv_goto (tgt := 12) hx hb dX9_product_76 (by decide) ?_
              exact lp5ih x31 I26  _ _ _ (by omega) (by omega) ⟨(by show 0 ≤ (I26 12 1).toInt ∧ (I26 12 1).toInt ≤ 500; exact hI26R.1), (by show 0 ≤ (I26 12 5).toInt ∧ (I26 12 5).toInt ≤ 501; exact hI26R.2.1), (by show (-1) ≤ (I26 12 6).toInt ∧ (I26 12 6).toInt ≤ 1000000; exact hI26R.2.2.1), (by show 0 ≤ (I26 12 9).toInt ∧ (I26 12 9).toInt ≤ 500; exact hI26R.2.2.2.1), (by show 0 ≤ (I26 12 13).toInt ∧ (I26 12 13).toInt ≤ 24; exact hI26R.2.2.2.2)⟩ (by show (I26 12 6).toInt ≤ 501 ∧ ((I26 12 7).toInt = 401 ∨ (I26 12 6).toInt ≤ 500); first | omega | decide) f27 hW hS (lv_sub hl [0, 2, 3] rfl)
            · refine lv_if_ne (tgt := 56) hx hb dX9_product_51 (by decide) (fun c32 => absurd (by decide) c32) (fun c32 => ?_)
              refine lv_iconst (v := 0) hx hb dX9_product_54 (by decide) ?_
              exact z_zret hx hb hr (by decide) hK hS (Nat.le_of_ble_eq_true rfl) (Nat.le_of_ble_eq_true rfl) hlocks dX9_product_55 (shC c, ad, I20, JX, PC c ad) hW ⟨I20, rfl, ⟨(by show 0 ≤ (I20 12 1).toInt ∧ (I20 12 1).toInt ≤ 500; exact hI20R.1), (by show 0 ≤ (I20 12 5).toInt ∧ (I20 12 5).toInt ≤ 501; exact hI20R.2.1), (by show (-1) ≤ (I20 12 6).toInt ∧ (I20 12 6).toInt ≤ 1000000; exact hI20R.2.2.1), (by show 0 ≤ (I20 12 9).toInt ∧ (I20 12 9).toInt ≤ 500; exact hI20R.2.2.2.1), (by show 0 ≤ (I20 12 13).toInt ∧ (I20 12 13).toInt ≤ 24; exact hI20R.2.2.2.2)⟩, (by show (I20 12 6).toInt ≤ 501 ∧ ((I20 12 7).toInt = 401 ∨ (I20 12 6).toInt ≤ 500); first | omega | decide), f21, Or.inr rfl⟩
          · have g33 := z_f_ne rfl z_l42 c14
            have b34 := Int32.toInt_lt (I7 12 7)
            refine lv_aload_n hx hb dX9_product_28 rfl (lv_at hl 1 rfl) ?_
            refine z_get (T := TX9) (N := 14) (ci := 9) (i := 12) (v := .int (I7 12 7)) hx hb hts zj_X9_product_X9 hown hK hW rfl rfl 7 (by decide) (hts (.fieldLink RX9 62 "PetrolBoard$Reader" "token" "I") (me_s (me_l (me_l (List.mem_of_getElem? (i := 0) rfl))))) (fun _ h => h) rfl dX9_product_29 ?_
            refine lv_bipush (v := 47) hx hb dX9_product_32 (by decide) ?_
            refine lv_icmp_ne (tgt := 79) hx hb dX9_product_34 (by decide) (fun c35 => ?_) (fun c35 => ?_)
            · have g36 := z_f_ne rfl z_l47 c35
              refine lv_iconst (v := 1) hx hb dX9_product_79 (by decide) ?_
              exact z_zret hx hb hr (by decide) hK hS (Nat.le_of_ble_eq_true rfl) (Nat.le_of_ble_eq_true rfl) hlocks dX9_product_80 (shC c, ad, I7, JX, PC c ad) hW ⟨I7, rfl, ⟨(by show 0 ≤ (I7 12 1).toInt ∧ (I7 12 1).toInt ≤ 500; exact lp5R.1), (by show 0 ≤ (I7 12 5).toInt ∧ (I7 12 5).toInt ≤ 501; exact lp5R.2.1), (by show (-1) ≤ (I7 12 6).toInt ∧ (I7 12 6).toInt ≤ 1000000; exact lp5R.2.2.1), (by show 0 ≤ (I7 12 9).toInt ∧ (I7 12 9).toInt ≤ 500; exact lp5R.2.2.2.1), (by show 0 ≤ (I7 12 13).toInt ∧ (I7 12 13).toInt ≤ 24; exact lp5R.2.2.2.2)⟩, (by show (I7 12 6).toInt ≤ 501 ∧ ((I7 12 7).toInt = 401 ∨ (I7 12 6).toInt ≤ 500); first | omega | decide), lp5fr, Or.inl rfl⟩
            · have g37 := z_f_eq rfl z_l47 c35
              refine lv_aload_n hx hb dX9_product_37 rfl (lv_at hl 1 rfl) ?_
              refine z_get (T := TX9) (N := 14) (ci := 9) (i := 12) (v := .int (I7 12 7)) hx hb hts zj_X9_product_X9 hown hK hW rfl rfl 7 (by decide) (hts (.fieldLink RX9 62 "PetrolBoard$Reader" "token" "I") (me_s (me_l (me_l (List.mem_of_getElem? (i := 0) rfl))))) (fun _ h => h) rfl dX9_product_38 ?_
              refine lv_istore_n (lv' := [(3, .int (I7 12 7)), (2, .int y6), (0, .ref (ad 12)), (1, .int 8)]) hx hb dX9_product_41 rfl hl (by decide) rfl (fun ls hl => ?_)
              refine lv_aload_n hx hb dX9_product_42 rfl (lv_at hl 2 rfl) ?_
              refine z_cv hW hS hA (va_runV (As := []) (rest := []) ⟨hx, hb, hml, hown, hts⟩ (sx_X9_step l G ad c I7 ⟨(by show 0 ≤ (I7 12 1).toInt ∧ (I7 12 1).toInt ≤ 500; exact lp5R.1), (by show 0 ≤ (I7 12 5).toInt ∧ (I7 12 5).toInt ≤ 501; exact lp5R.2.1), (by show (-1) ≤ (I7 12 6).toInt ∧ (I7 12 6).toInt ≤ 1000000; exact lp5R.2.2.1), (by show 0 ≤ (I7 12 9).toInt ∧ (I7 12 9).toInt ≤ 500; exact lp5R.2.2.2.1), (by show 0 ≤ (I7 12 13).toInt ∧ (I7 12 13).toInt ≤ 24; exact lp5R.2.2.2.2)⟩   (by show (I7 12 6).toInt ≤ 500; first | omega | decide) _) (cwV 0 hts gX9_product_X9_step rfl rfl rfl hy_X9_step ⟨Nat.le_of_ble_eq_true rfl, Nat.le_of_ble_eq_true rfl⟩) (z_preV (i := 12) hK hW rfl rfl) rfl rfl hl.1 rfl (lv_room (Nat.le_of_ble_eq_true rfl)) dX9_product_43 ⟨Nat.le_of_ble_eq_true rfl, Nat.le_of_ble_eq_true rfl⟩) (fun u1 H locs hp hW hS => ?_)
              obtain ⟨I38, e9, hI38R, hI38T, fI38⟩ := hp
              rw [e9] at hW
              have f39 := z_fr_sub (L := L_X9_product_8) lp5fr fI38 (by decide)
              have k40 : (I38 12 6).toInt ≤ 501 ∧ ((I38 12 7).toInt = 401 ∨ (I38 12 6).toInt ≤ 500) := hI38T
              refine lv_aload_n hx hb dX9_product_46 rfl (lv_at hl 2 rfl) ?_
              refine lv_iload_n hx hb dX9_product_47 rfl (lv_at hl 3 rfl) ?_
              refine z_ci hW hS hA (va_runV (As := [.int 8]) (rest := []) ⟨hx, hb, hml, hown, hts⟩ (sx_X9_atom_8 l G ad c I38 ⟨(by show 0 ≤ (I38 12 1).toInt ∧ (I38 12 1).toInt ≤ 500; exact hI38R.1), (by show 0 ≤ (I38 12 5).toInt ∧ (I38 12 5).toInt ≤ 501; exact hI38R.2.1), (by show (-1) ≤ (I38 12 6).toInt ∧ (I38 12 6).toInt ≤ 1000000; exact hI38R.2.2.1), (by show 0 ≤ (I38 12 9).toInt ∧ (I38 12 9).toInt ≤ 500; exact hI38R.2.2.2.1), (by show 0 ≤ (I38 12 13).toInt ∧ (I38 12 13).toInt ≤ 24; exact hI38R.2.2.2.2)⟩ (by show (I38 12 6).toInt ≤ 501 ∧ ((I38 12 7).toInt = 401 ∨ (I38 12 6).toInt ≤ 500); first | omega | decide) _) (cwV 1 hts gX9_product_X9_atom rfl rfl rfl hy_X9_atom ⟨Nat.le_of_ble_eq_true rfl, Nat.le_of_ble_eq_true rfl⟩) (z_preV (i := 12) hK hW rfl rfl) rfl rfl hl.1 rfl (lv_room (Nat.le_of_ble_eq_true rfl)) dX9_product_48 ⟨Nat.le_of_ble_eq_true rfl, Nat.le_of_ble_eq_true rfl⟩) (fun r u1 H locs hp hW hS => ?_)
              obtain ⟨I41, e9, hI41R, hI41T, fI41, hp⟩ := hp
              rw [e9] at hW
              have f42 := z_fr_sub (L := L_X9_product_8) f39 fI41 (by decide)
              have k43 : (I41 12 6).toInt ≤ 501 ∧ ((I41 12 7).toInt = 401 ∨ (I41 12 6).toInt ≤ 500) := hI41T
              rcases hp with rfl | rfl
              · refine lv_if_ne (tgt := 56) hx hb dX9_product_51 (by decide) (fun c44 => ?_) (fun c44 => absurd c44 (by decide))
                refine lv_aload_n hx hb dX9_product_56 rfl (lv_at hl 2 rfl) ?_
                refine lv_iload_n hx hb dX9_product_57 rfl (lv_at hl 0 rfl) ?_
                refine lv_bipush (v := 42) hx hb dX9_product_58 (by decide) ?_
                refine lv_icmp_ne (tgt := 68) hx hb dX9_product_60 (by decide) (fun c45 => ?_) (fun c45 => (by have g := z_f_eq rfl z_l42 c45; omega))
                have g46 := z_f_ne rfl z_l42 c45
                refine lv_bipush (v := (-4)) hx hb dX9_product_68 (by decide) ?_
                refine z_cv hW hS hA (va_runV (As := [.int (-4)]) (rest := []) ⟨hx, hb, hml, hown, hts⟩ (sx_X9_emit l G ad c I41 ⟨(by show 0 ≤ (I41 12 1).toInt ∧ (I41 12 1).toInt ≤ 500; exact hI41R.1), (by show 0 ≤ (I41 12 5).toInt ∧ (I41 12 5).toInt ≤ 501; exact hI41R.2.1), (by show (-1) ≤ (I41 12 6).toInt ∧ (I41 12 6).toInt ≤ 1000000; exact hI41R.2.2.1), (by show 0 ≤ (I41 12 9).toInt ∧ (I41 12 9).toInt ≤ 500; exact hI41R.2.2.2.1), (by show 0 ≤ (I41 12 13).toInt ∧ (I41 12 13).toInt ≤ 24; exact hI41R.2.2.2.2)⟩ (-4) _) (cwV 1 hts gX9_product_X9_emit rfl rfl rfl hy_X9_emit ⟨Nat.le_of_ble_eq_true rfl, Nat.le_of_ble_eq_true rfl⟩) (z_preV (i := 12) hK hW rfl rfl) rfl rfl hl.1 rfl (lv_room (Nat.le_of_ble_eq_true rfl)) dX9_product_70 ⟨Nat.le_of_ble_eq_true rfl, Nat.le_of_ble_eq_true rfl⟩) (fun u1 H locs hp hW hS => ?_)
                obtain ⟨I47, e9, hI47R, fI47⟩ := hp
                rw [e9] at hW
                have f48 := z_fr_sub (L := L_X9_product_8) f42 fI47 (by decide)
                have k49 : (I47 12 6).toInt ≤ 501 ∧ ((I47 12 7).toInt = 401 ∨ (I47 12 6).toInt ≤ 500) := (by have q0 : (I47 12 6) = (I41 12 6) := (by rw [fI47 12 6 (by decide)]); have q1 : (I47 12 7) = (I41 12 7) := (by rw [fI47 12 7 (by decide)]); show (I47 12 6).toInt ≤ 501 ∧ ((I47 12 7).toInt = 401 ∨ (I47 12 6).toInt ≤ 500); rw [q0, q1]; first | omega | decide)
                have k50 : (I47 12 6).toInt = (I41 12 6).toInt := by rw [fI47 12 6 (by decide)]
                have k51 : (I47 12 7).toInt = (I41 12 7).toInt := by rw [fI47 12 7 (by decide)]
                obtain ⟨x52, ex52⟩ : ∃ y : Int32, y = y6 + 1 := ⟨_, rfl⟩
                have tx52 : x52.toInt = y6.toInt + 1 := z_tadd ex52 rfl z_l1 (by omega) (by omega)
                refine lv_iinc (v := x52) (lv' := [(2, .int x52), (3, .int (I7 12 7)), (0, .ref (ad 12)), (1, .int 8)]) hx hb dX9_product_73 hl (k := 1) rfl (by rw [ex52]; rfl) (by decide) rfl (fun ls hl => ?_)
                refine lv_goto (tgt := 12) hx hb dX9_product_76 (by decide) ?_
                exact lp5ih x52 I47  _ _ _ (by omega) (by omega) ⟨(by show 0 ≤ (I47 12 1).toInt ∧ (I47 12 1).toInt ≤ 500; exact hI47R.1), (by show 0 ≤ (I47 12 5).toInt ∧ (I47 12 5).toInt ≤ 501; exact hI47R.2.1), (by show (-1) ≤ (I47 12 6).toInt ∧ (I47 12 6).toInt ≤ 1000000; exact hI47R.2.2.1), (by show 0 ≤ (I47 12 9).toInt ∧ (I47 12 9).toInt ≤ 500; exact hI47R.2.2.2.1), (by show 0 ≤ (I47 12 13).toInt ∧ (I47 12 13).toInt ≤ 24; exact hI47R.2.2.2.2)⟩ (by show (I47 12 6).toInt ≤ 501 ∧ ((I47 12 7).toInt = 401 ∨ (I47 12 6).toInt ≤ 500); first | omega | decide) f48 hW hS (lv_sub hl [0, 2, 3] rfl)
              · refine lv_if_ne (tgt := 56) hx hb dX9_product_51 (by decide) (fun c53 => absurd (by decide) c53) (fun c53 => ?_)
                refine lv_iconst (v := 0) hx hb dX9_product_54 (by decide) ?_
                exact z_zret hx hb hr (by decide) hK hS (Nat.le_of_ble_eq_true rfl) (Nat.le_of_ble_eq_true rfl) hlocks dX9_product_55 (shC c, ad, I41, JX, PC c ad) hW ⟨I41, rfl, ⟨(by show 0 ≤ (I41 12 1).toInt ∧ (I41 12 1).toInt ≤ 500; exact hI41R.1), (by show 0 ≤ (I41 12 5).toInt ∧ (I41 12 5).toInt ≤ 501; exact hI41R.2.1), (by show (-1) ≤ (I41 12 6).toInt ∧ (I41 12 6).toInt ≤ 1000000; exact hI41R.2.2.1), (by show 0 ≤ (I41 12 9).toInt ∧ (I41 12 9).toInt ≤ 500; exact hI41R.2.2.2.1), (by show 0 ≤ (I41 12 13).toInt ∧ (I41 12 13).toInt ≤ 24; exact hI41R.2.2.2.2)⟩, (by show (I41 12 6).toInt ≤ 501 ∧ ((I41 12 7).toInt = 401 ∨ (I41 12 6).toInt ≤ 500); first | omega | decide), f42, Or.inr rfl⟩
    exact lp5 4294967296 (0) I1  _ _ _ (z_m0u _) (by rw [z_l0]; omega) ⟨(by show 0 ≤ (I1 12 1).toInt ∧ (I1 12 1).toInt ≤ 500; exact hI1R.1), (by show 0 ≤ (I1 12 5).toInt ∧ (I1 12 5).toInt ≤ 501; exact hI1R.2.1), (by show (-1) ≤ (I1 12 6).toInt ∧ (I1 12 6).toInt ≤ 1000000; exact hI1R.2.2.1), (by show 0 ≤ (I1 12 9).toInt ∧ (I1 12 9).toInt ≤ 500; exact hI1R.2.2.2.1), (by show 0 ≤ (I1 12 13).toInt ∧ (I1 12 13).toInt ≤ 24; exact hI1R.2.2.2.2)⟩ (by show (I1 12 6).toInt ≤ 501 ∧ ((I1 12 7).toInt = 401 ∨ (I1 12 6).toInt ≤ 500); first | omega | decide) f2 hW hS (lv_sub hl [0, 1, 2] rfl)
  · refine lv_if_ne (tgt := 10) hx hb dX9_product_5 (by decide) (fun c54 => absurd (by decide) c54) (fun c54 => ?_)
    refine lv_iconst (v := 0) hx hb dX9_product_8 (by decide) ?_
    exact z_zret hx hb hr (by decide) hK hS (Nat.le_of_ble_eq_true rfl) (Nat.le_of_ble_eq_true rfl) hlocks dX9_product_9 (shC c, ad, I1, JX, PC c ad) hW ⟨I1, rfl, ⟨(by show 0 ≤ (I1 12 1).toInt ∧ (I1 12 1).toInt ≤ 500; exact hI1R.1), (by show 0 ≤ (I1 12 5).toInt ∧ (I1 12 5).toInt ≤ 501; exact hI1R.2.1), (by show (-1) ≤ (I1 12 6).toInt ∧ (I1 12 6).toInt ≤ 1000000; exact hI1R.2.2.1), (by show 0 ≤ (I1 12 9).toInt ∧ (I1 12 9).toInt ≤ 500; exact hI1R.2.2.2.1), (by show 0 ≤ (I1 12 13).toInt ∧ (I1 12 13).toInt ≤ 24; exact hI1R.2.2.2.2)⟩, (by show (I1 12 6).toInt ≤ 501 ∧ ((I1 12 7).toInt = 401 ∨ (I1 12 6).toInt ≤ 500); first | omega | decide), f2, Or.inr rfl⟩
noncomputable def L_X9_sum_8 : z_L := [(12, 6), (12, 7), (17, 999), (12, 9)]
set_option maxHeartbeats 8000000 in
set_option maxRecDepth 100000 in
theorem sx_X9_sum_8 (l : Launch) (G : z_G) (ad : Nat → Nat) (c : z_C) (I : z_I) (hR : z_iR I) (hT : z_iT I) : z_M l yX9_sum wsX9_sum { frames := 8, cells := 0, slots := 0, locals := 166 } [.ref (ad 12), .int 8] G (shC c, ad, I, JX, PC c ad) (fun r u1 => ∃ I1 : z_I, u1 = (shC c, ad, I1, JX, PC c ad) ∧ z_iR I1 ∧ z_iT I1 ∧ z_fr L_X9_sum_8 I1 I ∧ (r = 1 ∨ r = 0)) 0 0 := by
  intro sz
  refine z_headQ (cc := cX9_sum) (maxL := 4) (ret := (some .boolean)) (by decide) rfl (Nat.le_of_ble_eq_true rfl) ?_
  intro p e s m below meth c0 ls hIn hK hsz hW hl
  obtain ⟨hx, hb, hr, hml, hown, hts, hlocks, hname⟩ := hIn
  subst hsz
  have hown : s.vm.findClass RX9 = some m.cls := hown
  have hA : ∀ q : Nat, s.heap.size ≤ q → z_A (shC c, ad, I, JX, PC c ad) s.heap.size q := fun q h => Or.inr h
  generalize hAe : z_A (shC c, ad, I, JX, PC c ad) s.heap.size = A at *
  have hS : va_S A s.heap s.heap [] := va_S.rf
  have hl : lv_has ls 4 [(0, .ref (ad 12)), (1, .int 8)] := hl
  have kT : (I 12 6).toInt ≤ 501 ∧ ((I 12 7).toInt = 401 ∨ (I 12 6).toInt ≤ 500) := hT
  refine lv_aload_n hx hb dX9_sum_0 rfl (lv_at hl 0 rfl) ?_
  refine lv_iload_n hx hb dX9_sum_1 rfl (lv_at hl 1 rfl) ?_
  refine z_ci hW hS hA (va_runV (As := [.int 8]) (rest := []) ⟨hx, hb, hml, hown, hts⟩ (sx_X9_product_8 l G ad c I ⟨(by show 0 ≤ (I 12 1).toInt ∧ (I 12 1).toInt ≤ 500; exact hR.1), (by show 0 ≤ (I 12 5).toInt ∧ (I 12 5).toInt ≤ 501; exact hR.2.1), (by show (-1) ≤ (I 12 6).toInt ∧ (I 12 6).toInt ≤ 1000000; exact hR.2.2.1), (by show 0 ≤ (I 12 9).toInt ∧ (I 12 9).toInt ≤ 500; exact hR.2.2.2.1), (by show 0 ≤ (I 12 13).toInt ∧ (I 12 13).toInt ≤ 24; exact hR.2.2.2.2)⟩ (by show (I 12 6).toInt ≤ 501 ∧ ((I 12 7).toInt = 401 ∨ (I 12 6).toInt ≤ 500); first | omega | decide) _) (cwV 1 hts gX9_sum_X9_product rfl rfl rfl hy_X9_product ⟨Nat.le_of_ble_eq_true rfl, Nat.le_of_ble_eq_true rfl⟩) (z_preV (i := 12) hK hW rfl rfl) rfl rfl hl.1 rfl (lv_room (Nat.le_of_ble_eq_true rfl)) dX9_sum_2 ⟨Nat.le_of_ble_eq_true rfl, Nat.le_of_ble_eq_true rfl⟩) (fun r u1 H locs hp hW hS => ?_)
  obtain ⟨I1, e9, hI1R, hI1T, fI1, hp⟩ := hp
  rw [e9] at hW
  have f2 := z_fr_sub (L := L_X9_sum_8) z_fr_0 fI1 (by decide)
  have k3 : (I1 12 6).toInt ≤ 501 ∧ ((I1 12 7).toInt = 401 ∨ (I1 12 6).toInt ≤ 500) := hI1T
  rcases hp with rfl | rfl
  · refine lv_if_ne (tgt := 10) hx hb dX9_sum_5 (by decide) (fun c4 => ?_) (fun c4 => absurd c4 (by decide))
    refine lv_iconst (v := 0) hx hb dX9_sum_10 (by decide) ?_
    refine lv_istore_n (lv' := [(2, .int 0), (0, .ref (ad 12)), (1, .int 8)]) hx hb dX9_sum_11 rfl hl (by decide) rfl (fun ls hl => ?_)
    have lp5 : ∀ (f : Nat) (y6 : Int32) (I7 : z_I) (H : Heap) (locs : List Loc) (ls : Array Slot), (2147483647 < y6.toInt + (f : Int)) → (0 ≤ y6.toInt) → (z_iR I7) → (z_iT I7) → (z_fr L_X9_sum_8 I7 I) → z_W G A (shC c, ad, I7, JX, PC c ad) H → va_S A s.heap H locs → lv_has ls 4 [(2, .int y6), (0, .ref (ad 12)), (1, .int 8)] → W p l e (headSpec wsX9_sum { frames := 8, cells := 0, slots := 0, locals := 166 }).room s m ([.ref (ad 12), .int 8] : List Value).toArray below meth c0 H locs 0 0 (MQ below (va_Qi (fun (r : Int32) (u1 : z_U) => ∃ I1 : z_I, u1 = (shC c, ad, I1, JX, PC c ad) ∧ z_iR I1 ∧ z_iT I1 ∧ z_fr L_X9_sum_8 I1 I ∧ (r = 1 ∨ r = 0)) (z_B G A) A) ([.ref (ad 12), .int 8] : List Value).toArray s 0 0 A) (F0 m 12 ls []) := by
      intro f
      induction f with
      | zero => intro y6 I7  H locs ls lp5m lp5l2 lp5R lp5T lp5fr hW hS hl; exact absurd lp5m (by have := Int32.toInt_lt y6; have := Int32.le_toInt y6; omega)
      | succ f lp5ih =>
        intro y6 I7  H locs ls lp5m lp5l2 lp5R lp5T lp5fr hW hS hl
        have k8 : (I7 12 6).toInt ≤ 501 ∧ ((I7 12 7).toInt = 401 ∨ (I7 12 6).toInt ≤ 500) := lp5T
        refine lv_iload_n hx hb dX9_sum_12 rfl (lv_at hl 0 rfl) ?_
        refine lv_sipush (v := 500) hx hb dX9_sum_13 (by decide) ?_
        refine lv_icmp_ge (tgt := 78) hx hb dX9_sum_16 (by decide) (fun c9 => ?_) (fun c9 => ?_)
        · have g10 := z_f_ge rfl z_l500 c9
          have b11 := Int32.toInt_lt y6
          refine lv_iconst (v := 1) hx hb dX9_sum_78 (by decide) ?_
          exact z_zret hx hb hr (by decide) hK hS (Nat.le_of_ble_eq_true rfl) (Nat.le_of_ble_eq_true rfl) hlocks dX9_sum_79 (shC c, ad, I7, JX, PC c ad) hW ⟨I7, rfl, ⟨(by show 0 ≤ (I7 12 1).toInt ∧ (I7 12 1).toInt ≤ 500; exact lp5R.1), (by show 0 ≤ (I7 12 5).toInt ∧ (I7 12 5).toInt ≤ 501; exact lp5R.2.1), (by show (-1) ≤ (I7 12 6).toInt ∧ (I7 12 6).toInt ≤ 1000000; exact lp5R.2.2.1), (by show 0 ≤ (I7 12 9).toInt ∧ (I7 12 9).toInt ≤ 500; exact lp5R.2.2.2.1), (by show 0 ≤ (I7 12 13).toInt ∧ (I7 12 13).toInt ≤ 24; exact lp5R.2.2.2.2)⟩, (by show (I7 12 6).toInt ≤ 501 ∧ ((I7 12 7).toInt = 401 ∨ (I7 12 6).toInt ≤ 500); first | omega | decide), lp5fr, Or.inl rfl⟩
        · have g12 := z_f_nge rfl z_l500 c9
          have b13 := Int32.toInt_lt y6
          refine lv_aload_n hx hb dX9_sum_19 rfl (lv_at hl 1 rfl) ?_
          refine z_get (T := TX9) (N := 14) (ci := 9) (i := 12) (v := .int (I7 12 7)) hx hb hts zj_X9_sum_X9 hown hK hW rfl rfl 7 (by decide) (hts (.fieldLink RX9 62 "PetrolBoard$Reader" "token" "I") (me_s (me_l (me_l (List.mem_of_getElem? (i := 0) rfl))))) (fun _ h => h) rfl dX9_sum_20 ?_
          refine lv_bipush (v := 43) hx hb dX9_sum_23 (by decide) ?_
          refine lv_icmp_eq (tgt := 37) hx hb dX9_sum_25 (by decide) (fun c14 => ?_) (fun c14 => ?_)
          · have g15 := z_f_eq rfl z_l43 c14
            have b16 := Int32.toInt_lt (I7 12 7)
            refine lv_aload_n hx hb dX9_sum_37 rfl (lv_at hl 1 rfl) ?_
            refine z_get (T := TX9) (N := 14) (ci := 9) (i := 12) (v := .int (I7 12 7)) hx hb hts zj_X9_sum_X9 hown hK hW rfl rfl 7 (by decide) (hts (.fieldLink RX9 62 "PetrolBoard$Reader" "token" "I") (me_s (me_l (me_l (List.mem_of_getElem? (i := 0) rfl))))) (fun _ h => h) rfl dX9_sum_38 ?_
            refine lv_istore_n (lv' := [(3, .int (I7 12 7)), (2, .int y6), (0, .ref (ad 12)), (1, .int 8)]) hx hb dX9_sum_41 rfl hl (by decide) rfl (fun ls hl => ?_)
            refine lv_aload_n hx hb dX9_sum_42 rfl (lv_at hl 2 rfl) ?_
            refine z_cv hW hS hA (va_runV (As := []) (rest := []) ⟨hx, hb, hml, hown, hts⟩ (sx_X9_step l G ad c I7 ⟨(by show 0 ≤ (I7 12 1).toInt ∧ (I7 12 1).toInt ≤ 500; exact lp5R.1), (by show 0 ≤ (I7 12 5).toInt ∧ (I7 12 5).toInt ≤ 501; exact lp5R.2.1), (by show (-1) ≤ (I7 12 6).toInt ∧ (I7 12 6).toInt ≤ 1000000; exact lp5R.2.2.1), (by show 0 ≤ (I7 12 9).toInt ∧ (I7 12 9).toInt ≤ 500; exact lp5R.2.2.2.1), (by show 0 ≤ (I7 12 13).toInt ∧ (I7 12 13).toInt ≤ 24; exact lp5R.2.2.2.2)⟩   (by show (I7 12 6).toInt ≤ 500; first | omega | decide) _) (cwV 0 hts gX9_sum_X9_step rfl rfl rfl hy_X9_step ⟨Nat.le_of_ble_eq_true rfl, Nat.le_of_ble_eq_true rfl⟩) (z_preV (i := 12) hK hW rfl rfl) rfl rfl hl.1 rfl (lv_room (Nat.le_of_ble_eq_true rfl)) dX9_sum_43 ⟨Nat.le_of_ble_eq_true rfl, Nat.le_of_ble_eq_true rfl⟩) (fun u1 H locs hp hW hS => ?_)
            obtain ⟨I17, e9, hI17R, hI17T, fI17⟩ := hp
            rw [e9] at hW
            have f18 := z_fr_sub (L := L_X9_sum_8) lp5fr fI17 (by decide)
            have k19 : (I17 12 6).toInt ≤ 501 ∧ ((I17 12 7).toInt = 401 ∨ (I17 12 6).toInt ≤ 500) := hI17T
            refine lv_aload_n hx hb dX9_sum_46 rfl (lv_at hl 2 rfl) ?_
            refine lv_iload_n hx hb dX9_sum_47 rfl (lv_at hl 3 rfl) ?_
            refine z_ci hW hS hA (va_runV (As := [.int 8]) (rest := []) ⟨hx, hb, hml, hown, hts⟩ (sx_X9_product_8 l G ad c I17 ⟨(by show 0 ≤ (I17 12 1).toInt ∧ (I17 12 1).toInt ≤ 500; exact hI17R.1), (by show 0 ≤ (I17 12 5).toInt ∧ (I17 12 5).toInt ≤ 501; exact hI17R.2.1), (by show (-1) ≤ (I17 12 6).toInt ∧ (I17 12 6).toInt ≤ 1000000; exact hI17R.2.2.1), (by show 0 ≤ (I17 12 9).toInt ∧ (I17 12 9).toInt ≤ 500; exact hI17R.2.2.2.1), (by show 0 ≤ (I17 12 13).toInt ∧ (I17 12 13).toInt ≤ 24; exact hI17R.2.2.2.2)⟩ (by show (I17 12 6).toInt ≤ 501 ∧ ((I17 12 7).toInt = 401 ∨ (I17 12 6).toInt ≤ 500); first | omega | decide) _) (cwV 1 hts gX9_sum_X9_product rfl rfl rfl hy_X9_product ⟨Nat.le_of_ble_eq_true rfl, Nat.le_of_ble_eq_true rfl⟩) (z_preV (i := 12) hK hW rfl rfl) rfl rfl hl.1 rfl (lv_room (Nat.le_of_ble_eq_true rfl)) dX9_sum_48 ⟨Nat.le_of_ble_eq_true rfl, Nat.le_of_ble_eq_true rfl⟩) (fun r u1 H locs hp hW hS => ?_)
            obtain ⟨I20, e9, hI20R, hI20T, fI20, hp⟩ := hp
            rw [e9] at hW
            have f21 := z_fr_sub (L := L_X9_sum_8) f18 fI20 (by decide)
            have k22 : (I20 12 6).toInt ≤ 501 ∧ ((I20 12 7).toInt = 401 ∨ (I20 12 6).toInt ≤ 500) := hI20T
            rcases hp with rfl | rfl
            · refine lv_if_ne (tgt := 56) hx hb dX9_sum_51 (by decide) (fun c23 => ?_) (fun c23 => absurd c23 (by decide))
              refine lv_aload_n hx hb dX9_sum_56 rfl (lv_at hl 2 rfl) ?_
              refine lv_iload_n hx hb dX9_sum_57 rfl (lv_at hl 0 rfl) ?_
              refine lv_bipush (v := 43) hx hb dX9_sum_58 (by decide) ?_
              refine lv_icmp_ne (tgt := 67) hx hb dX9_sum_60 (by decide) (fun c24 => (by have g := z_f_ne rfl z_l43 c24; omega)) (fun c24 => ?_)
              have g25 := z_f_eq rfl z_l43 c24
              refine lv_iconst (v := (-1)) hx hb dX9_sum_63 (by decide) ?_
              refine lv_goto (tgt := 69) hx hb dX9_sum_64 (by decide) ?_
              refine z_cv hW hS hA (va_runV (As := [.int (-1)]) (rest := []) ⟨hx, hb, hml, hown, hts⟩ (sx_X9_emit l G ad c I20 ⟨(by show 0 ≤ (I20 12 1).toInt ∧ (I20 12 1).toInt ≤ 500; exact hI20R.1), (by show 0 ≤ (I20 12 5).toInt ∧ (I20 12 5).toInt ≤ 501; exact hI20R.2.1), (by show (-1) ≤ (I20 12 6).toInt ∧ (I20 12 6).toInt ≤ 1000000; exact hI20R.2.2.1), (by show 0 ≤ (I20 12 9).toInt ∧ (I20 12 9).toInt ≤ 500; exact hI20R.2.2.2.1), (by show 0 ≤ (I20 12 13).toInt ∧ (I20 12 13).toInt ≤ 24; exact hI20R.2.2.2.2)⟩ (-1) _) (cwV 1 hts gX9_sum_X9_emit rfl rfl rfl hy_X9_emit ⟨Nat.le_of_ble_eq_true rfl, Nat.le_of_ble_eq_true rfl⟩) (z_preV (i := 12) hK hW rfl rfl) rfl rfl hl.1 rfl (lv_room (Nat.le_of_ble_eq_true rfl)) dX9_sum_69 ⟨Nat.le_of_ble_eq_true rfl, Nat.le_of_ble_eq_true rfl⟩) (fun u1 H locs hp hW hS => ?_)
              obtain ⟨I26, e9, hI26R, fI26⟩ := hp
              rw [e9] at hW
              have f27 := z_fr_sub (L := L_X9_sum_8) f21 fI26 (by decide)
              have k28 : (I26 12 6).toInt ≤ 501 ∧ ((I26 12 7).toInt = 401 ∨ (I26 12 6).toInt ≤ 500) := (by have q0 : (I26 12 6) = (I20 12 6) := (by rw [fI26 12 6 (by decide)]); have q1 : (I26 12 7) = (I20 12 7) := (by rw [fI26 12 7 (by decide)]); show (I26 12 6).toInt ≤ 501 ∧ ((I26 12 7).toInt = 401 ∨ (I26 12 6).toInt ≤ 500); rw [q0, q1]; first | omega | decide)
              have k29 : (I26 12 6).toInt = (I20 12 6).toInt := by rw [fI26 12 6 (by decide)]
              have k30 : (I26 12 7).toInt = (I20 12 7).toInt := by rw [fI26 12 7 (by decide)]
              obtain ⟨x31, ex31⟩ : ∃ y : Int32, y = y6 + 1 := ⟨_, rfl⟩
              have tx31 : x31.toInt = y6.toInt + 1 := z_tadd ex31 rfl z_l1 (by omega) (by omega)
              refine lv_iinc (v := x31) (lv' := [(2, .int x31), (3, .int (I7 12 7)), (0, .ref (ad 12)), (1, .int 8)]) hx hb dX9_sum_72 hl (k := 1) rfl (by rw [ex31]; rfl) (by decide) rfl (fun ls hl => ?_)
              refine lv_goto (tgt := 12) hx hb dX9_sum_75 (by decide) ?_
              exact lp5ih x31 I26  _ _ _ (by omega) (by omega) ⟨(by show 0 ≤ (I26 12 1).toInt ∧ (I26 12 1).toInt ≤ 500; exact hI26R.1), (by show 0 ≤ (I26 12 5).toInt ∧ (I26 12 5).toInt ≤ 501; exact hI26R.2.1), (by show (-1) ≤ (I26 12 6).toInt ∧ (I26 12 6).toInt ≤ 1000000; exact hI26R.2.2.1), (by show 0 ≤ (I26 12 9).toInt ∧ (I26 12 9).toInt ≤ 500; exact hI26R.2.2.2.1), (by show 0 ≤ (I26 12 13).toInt ∧ (I26 12 13).toInt ≤ 24; exact hI26R.2.2.2.2)⟩ (by show (I26 12 6).toInt ≤ 501 ∧ ((I26 12 7).toInt = 401 ∨ (I26 12 6).toInt ≤ 500); first | omega | decide) f27 hW hS (lv_sub hl [0, 2, 3] rfl)
            · refine lv_if_ne (tgt := 56) hx hb dX9_sum_51 (by decide) (fun c32 => absurd (by decide) c32) (fun c32 => ?_)
              refine lv_iconst (v := 0) hx hb dX9_sum_54 (by decide) ?_
              exact z_zret hx hb hr (by decide) hK hS (Nat.le_of_ble_eq_true rfl) (Nat.le_of_ble_eq_true rfl) hlocks dX9_sum_55 (shC c, ad, I20, JX, PC c ad) hW ⟨I20, rfl, ⟨(by show 0 ≤ (I20 12 1).toInt ∧ (I20 12 1).toInt ≤ 500; exact hI20R.1), (by show 0 ≤ (I20 12 5).toInt ∧ (I20 12 5).toInt ≤ 501; exact hI20R.2.1), (by show (-1) ≤ (I20 12 6).toInt ∧ (I20 12 6).toInt ≤ 1000000; exact hI20R.2.2.1), (by show 0 ≤ (I20 12 9).toInt ∧ (I20 12 9).toInt ≤ 500; exact hI20R.2.2.2.1), (by show 0 ≤ (I20 12 13).toInt ∧ (I20 12 13).toInt ≤ 24; exact hI20R.2.2.2.2)⟩, (by show (I20 12 6).toInt ≤ 501 ∧ ((I20 12 7).toInt = 401 ∨ (I20 12 6).toInt ≤ 500); first | omega | decide), f21, Or.inr rfl⟩
          · have g33 := z_f_ne rfl z_l43 c14
            have b34 := Int32.toInt_lt (I7 12 7)
            refine lv_aload_n hx hb dX9_sum_28 rfl (lv_at hl 1 rfl) ?_
            refine z_get (T := TX9) (N := 14) (ci := 9) (i := 12) (v := .int (I7 12 7)) hx hb hts zj_X9_sum_X9 hown hK hW rfl rfl 7 (by decide) (hts (.fieldLink RX9 62 "PetrolBoard$Reader" "token" "I") (me_s (me_l (me_l (List.mem_of_getElem? (i := 0) rfl))))) (fun _ h => h) rfl dX9_sum_29 ?_
            refine lv_bipush (v := 45) hx hb dX9_sum_32 (by decide) ?_
            refine lv_icmp_ne (tgt := 78) hx hb dX9_sum_34 (by decide) (fun c35 => ?_) (fun c35 => ?_)
            · have g36 := z_f_ne rfl z_l45 c35
              refine lv_iconst (v := 1) hx hb dX9_sum_78 (by decide) ?_
              exact z_zret hx hb hr (by decide) hK hS (Nat.le_of_ble_eq_true rfl) (Nat.le_of_ble_eq_true rfl) hlocks dX9_sum_79 (shC c, ad, I7, JX, PC c ad) hW ⟨I7, rfl, ⟨(by show 0 ≤ (I7 12 1).toInt ∧ (I7 12 1).toInt ≤ 500; exact lp5R.1), (by show 0 ≤ (I7 12 5).toInt ∧ (I7 12 5).toInt ≤ 501; exact lp5R.2.1), (by show (-1) ≤ (I7 12 6).toInt ∧ (I7 12 6).toInt ≤ 1000000; exact lp5R.2.2.1), (by show 0 ≤ (I7 12 9).toInt ∧ (I7 12 9).toInt ≤ 500; exact lp5R.2.2.2.1), (by show 0 ≤ (I7 12 13).toInt ∧ (I7 12 13).toInt ≤ 24; exact lp5R.2.2.2.2)⟩, (by show (I7 12 6).toInt ≤ 501 ∧ ((I7 12 7).toInt = 401 ∨ (I7 12 6).toInt ≤ 500); first | omega | decide), lp5fr, Or.inl rfl⟩
            · have g37 := z_f_eq rfl z_l45 c35
              refine lv_aload_n hx hb dX9_sum_37 rfl (lv_at hl 1 rfl) ?_
              refine z_get (T := TX9) (N := 14) (ci := 9) (i := 12) (v := .int (I7 12 7)) hx hb hts zj_X9_sum_X9 hown hK hW rfl rfl 7 (by decide) (hts (.fieldLink RX9 62 "PetrolBoard$Reader" "token" "I") (me_s (me_l (me_l (List.mem_of_getElem? (i := 0) rfl))))) (fun _ h => h) rfl dX9_sum_38 ?_
              refine lv_istore_n (lv' := [(3, .int (I7 12 7)), (2, .int y6), (0, .ref (ad 12)), (1, .int 8)]) hx hb dX9_sum_41 rfl hl (by decide) rfl (fun ls hl => ?_)
              refine lv_aload_n hx hb dX9_sum_42 rfl (lv_at hl 2 rfl) ?_
              refine z_cv hW hS hA (va_runV (As := []) (rest := []) ⟨hx, hb, hml, hown, hts⟩ (sx_X9_step l G ad c I7 ⟨(by show 0 ≤ (I7 12 1).toInt ∧ (I7 12 1).toInt ≤ 500; exact lp5R.1), (by show 0 ≤ (I7 12 5).toInt ∧ (I7 12 5).toInt ≤ 501; exact lp5R.2.1), (by show (-1) ≤ (I7 12 6).toInt ∧ (I7 12 6).toInt ≤ 1000000; exact lp5R.2.2.1), (by show 0 ≤ (I7 12 9).toInt ∧ (I7 12 9).toInt ≤ 500; exact lp5R.2.2.2.1), (by show 0 ≤ (I7 12 13).toInt ∧ (I7 12 13).toInt ≤ 24; exact lp5R.2.2.2.2)⟩   (by show (I7 12 6).toInt ≤ 500; first | omega | decide) _) (cwV 0 hts gX9_sum_X9_step rfl rfl rfl hy_X9_step ⟨Nat.le_of_ble_eq_true rfl, Nat.le_of_ble_eq_true rfl⟩) (z_preV (i := 12) hK hW rfl rfl) rfl rfl hl.1 rfl (lv_room (Nat.le_of_ble_eq_true rfl)) dX9_sum_43 ⟨Nat.le_of_ble_eq_true rfl, Nat.le_of_ble_eq_true rfl⟩) (fun u1 H locs hp hW hS => ?_)
              obtain ⟨I38, e9, hI38R, hI38T, fI38⟩ := hp
              rw [e9] at hW
              have f39 := z_fr_sub (L := L_X9_sum_8) lp5fr fI38 (by decide)
              have k40 : (I38 12 6).toInt ≤ 501 ∧ ((I38 12 7).toInt = 401 ∨ (I38 12 6).toInt ≤ 500) := hI38T
              refine lv_aload_n hx hb dX9_sum_46 rfl (lv_at hl 2 rfl) ?_
              refine lv_iload_n hx hb dX9_sum_47 rfl (lv_at hl 3 rfl) ?_
              refine z_ci hW hS hA (va_runV (As := [.int 8]) (rest := []) ⟨hx, hb, hml, hown, hts⟩ (sx_X9_product_8 l G ad c I38 ⟨(by show 0 ≤ (I38 12 1).toInt ∧ (I38 12 1).toInt ≤ 500; exact hI38R.1), (by show 0 ≤ (I38 12 5).toInt ∧ (I38 12 5).toInt ≤ 501; exact hI38R.2.1), (by show (-1) ≤ (I38 12 6).toInt ∧ (I38 12 6).toInt ≤ 1000000; exact hI38R.2.2.1), (by show 0 ≤ (I38 12 9).toInt ∧ (I38 12 9).toInt ≤ 500; exact hI38R.2.2.2.1), (by show 0 ≤ (I38 12 13).toInt ∧ (I38 12 13).toInt ≤ 24; exact hI38R.2.2.2.2)⟩ (by show (I38 12 6).toInt ≤ 501 ∧ ((I38 12 7).toInt = 401 ∨ (I38 12 6).toInt ≤ 500); first | omega | decide) _) (cwV 1 hts gX9_sum_X9_product rfl rfl rfl hy_X9_product ⟨Nat.le_of_ble_eq_true rfl, Nat.le_of_ble_eq_true rfl⟩) (z_preV (i := 12) hK hW rfl rfl) rfl rfl hl.1 rfl (lv_room (Nat.le_of_ble_eq_true rfl)) dX9_sum_48 ⟨Nat.le_of_ble_eq_true rfl, Nat.le_of_ble_eq_true rfl⟩) (fun r u1 H locs hp hW hS => ?_)
              obtain ⟨I41, e9, hI41R, hI41T, fI41, hp⟩ := hp
              rw [e9] at hW
              have f42 := z_fr_sub (L := L_X9_sum_8) f39 fI41 (by decide)
              have k43 : (I41 12 6).toInt ≤ 501 ∧ ((I41 12 7).toInt = 401 ∨ (I41 12 6).toInt ≤ 500) := hI41T
              rcases hp with rfl | rfl
              · refine lv_if_ne (tgt := 56) hx hb dX9_sum_51 (by decide) (fun c44 => ?_) (fun c44 => absurd c44 (by decide))
                refine lv_aload_n hx hb dX9_sum_56 rfl (lv_at hl 2 rfl) ?_
                refine lv_iload_n hx hb dX9_sum_57 rfl (lv_at hl 0 rfl) ?_
                refine lv_bipush (v := 43) hx hb dX9_sum_58 (by decide) ?_
                refine lv_icmp_ne (tgt := 67) hx hb dX9_sum_60 (by decide) (fun c45 => ?_) (fun c45 => (by have g := z_f_eq rfl z_l43 c45; omega))
                have g46 := z_f_ne rfl z_l43 c45
                refine lv_bipush (v := (-2)) hx hb dX9_sum_67 (by decide) ?_
                refine z_cv hW hS hA (va_runV (As := [.int (-2)]) (rest := []) ⟨hx, hb, hml, hown, hts⟩ (sx_X9_emit l G ad c I41 ⟨(by show 0 ≤ (I41 12 1).toInt ∧ (I41 12 1).toInt ≤ 500; exact hI41R.1), (by show 0 ≤ (I41 12 5).toInt ∧ (I41 12 5).toInt ≤ 501; exact hI41R.2.1), (by show (-1) ≤ (I41 12 6).toInt ∧ (I41 12 6).toInt ≤ 1000000; exact hI41R.2.2.1), (by show 0 ≤ (I41 12 9).toInt ∧ (I41 12 9).toInt ≤ 500; exact hI41R.2.2.2.1), (by show 0 ≤ (I41 12 13).toInt ∧ (I41 12 13).toInt ≤ 24; exact hI41R.2.2.2.2)⟩ (-2) _) (cwV 1 hts gX9_sum_X9_emit rfl rfl rfl hy_X9_emit ⟨Nat.le_of_ble_eq_true rfl, Nat.le_of_ble_eq_true rfl⟩) (z_preV (i := 12) hK hW rfl rfl) rfl rfl hl.1 rfl (lv_room (Nat.le_of_ble_eq_true rfl)) dX9_sum_69 ⟨Nat.le_of_ble_eq_true rfl, Nat.le_of_ble_eq_true rfl⟩) (fun u1 H locs hp hW hS => ?_)
                obtain ⟨I47, e9, hI47R, fI47⟩ := hp
                rw [e9] at hW
                have f48 := z_fr_sub (L := L_X9_sum_8) f42 fI47 (by decide)
                have k49 : (I47 12 6).toInt ≤ 501 ∧ ((I47 12 7).toInt = 401 ∨ (I47 12 6).toInt ≤ 500) := (by have q0 : (I47 12 6) = (I41 12 6) := (by rw [fI47 12 6 (by decide)]); have q1 : (I47 12 7) = (I41 12 7) := (by rw [fI47 12 7 (by decide)]); show (I47 12 6).toInt ≤ 501 ∧ ((I47 12 7).toInt = 401 ∨ (I47 12 6).toInt ≤ 500); rw [q0, q1]; first | omega | decide)
                have k50 : (I47 12 6).toInt = (I41 12 6).toInt := by rw [fI47 12 6 (by decide)]
                have k51 : (I47 12 7).toInt = (I41 12 7).toInt := by rw [fI47 12 7 (by decide)]
                obtain ⟨x52, ex52⟩ : ∃ y : Int32, y = y6 + 1 := ⟨_, rfl⟩
                have tx52 : x52.toInt = y6.toInt + 1 := z_tadd ex52 rfl z_l1 (by omega) (by omega)
                refine lv_iinc (v := x52) (lv' := [(2, .int x52), (3, .int (I7 12 7)), (0, .ref (ad 12)), (1, .int 8)]) hx hb dX9_sum_72 hl (k := 1) rfl (by rw [ex52]; rfl) (by decide) rfl (fun ls hl => ?_)
                refine lv_goto (tgt := 12) hx hb dX9_sum_75 (by decide) ?_
                exact lp5ih x52 I47  _ _ _ (by omega) (by omega) ⟨(by show 0 ≤ (I47 12 1).toInt ∧ (I47 12 1).toInt ≤ 500; exact hI47R.1), (by show 0 ≤ (I47 12 5).toInt ∧ (I47 12 5).toInt ≤ 501; exact hI47R.2.1), (by show (-1) ≤ (I47 12 6).toInt ∧ (I47 12 6).toInt ≤ 1000000; exact hI47R.2.2.1), (by show 0 ≤ (I47 12 9).toInt ∧ (I47 12 9).toInt ≤ 500; exact hI47R.2.2.2.1), (by show 0 ≤ (I47 12 13).toInt ∧ (I47 12 13).toInt ≤ 24; exact hI47R.2.2.2.2)⟩ (by show (I47 12 6).toInt ≤ 501 ∧ ((I47 12 7).toInt = 401 ∨ (I47 12 6).toInt ≤ 500); first | omega | decide) f48 hW hS (lv_sub hl [0, 2, 3] rfl)
              · refine lv_if_ne (tgt := 56) hx hb dX9_sum_51 (by decide) (fun c53 => absurd (by decide) c53) (fun c53 => ?_)
                refine lv_iconst (v := 0) hx hb dX9_sum_54 (by decide) ?_
                exact z_zret hx hb hr (by decide) hK hS (Nat.le_of_ble_eq_true rfl) (Nat.le_of_ble_eq_true rfl) hlocks dX9_sum_55 (shC c, ad, I41, JX, PC c ad) hW ⟨I41, rfl, ⟨(by show 0 ≤ (I41 12 1).toInt ∧ (I41 12 1).toInt ≤ 500; exact hI41R.1), (by show 0 ≤ (I41 12 5).toInt ∧ (I41 12 5).toInt ≤ 501; exact hI41R.2.1), (by show (-1) ≤ (I41 12 6).toInt ∧ (I41 12 6).toInt ≤ 1000000; exact hI41R.2.2.1), (by show 0 ≤ (I41 12 9).toInt ∧ (I41 12 9).toInt ≤ 500; exact hI41R.2.2.2.1), (by show 0 ≤ (I41 12 13).toInt ∧ (I41 12 13).toInt ≤ 24; exact hI41R.2.2.2.2)⟩, (by show (I41 12 6).toInt ≤ 501 ∧ ((I41 12 7).toInt = 401 ∨ (I41 12 6).toInt ≤ 500); first | omega | decide), f42, Or.inr rfl⟩
    exact lp5 4294967296 (0) I1  _ _ _ (z_m0u _) (by rw [z_l0]; omega) ⟨(by show 0 ≤ (I1 12 1).toInt ∧ (I1 12 1).toInt ≤ 500; exact hI1R.1), (by show 0 ≤ (I1 12 5).toInt ∧ (I1 12 5).toInt ≤ 501; exact hI1R.2.1), (by show (-1) ≤ (I1 12 6).toInt ∧ (I1 12 6).toInt ≤ 1000000; exact hI1R.2.2.1), (by show 0 ≤ (I1 12 9).toInt ∧ (I1 12 9).toInt ≤ 500; exact hI1R.2.2.2.1), (by show 0 ≤ (I1 12 13).toInt ∧ (I1 12 13).toInt ≤ 24; exact hI1R.2.2.2.2)⟩ (by show (I1 12 6).toInt ≤ 501 ∧ ((I1 12 7).toInt = 401 ∨ (I1 12 6).toInt ≤ 500); first | omega | decide) f2 hW hS (lv_sub hl [0, 1, 2] rfl)
  · refine lv_if_ne (tgt := 10) hx hb dX9_sum_5 (by decide) (fun c54 => absurd (by decide) c54) (fun c54 => ?_)
    refine lv_iconst (v := 0) hx hb dX9_sum_8 (by decide) ?_
    exact z_zret hx hb hr (by decide) hK hS (Nat.le_of_ble_eq_true rfl) (Nat.le_of_ble_eq_true rfl) hlocks dX9_sum_9 (shC c, ad, I1, JX, PC c ad) hW ⟨I1, rfl, ⟨(by show 0 ≤ (I1 12 1).toInt ∧ (I1 12 1).toInt ≤ 500; exact hI1R.1), (by show 0 ≤ (I1 12 5).toInt ∧ (I1 12 5).toInt ≤ 501; exact hI1R.2.1), (by show (-1) ≤ (I1 12 6).toInt ∧ (I1 12 6).toInt ≤ 1000000; exact hI1R.2.2.1), (by show 0 ≤ (I1 12 9).toInt ∧ (I1 12 9).toInt ≤ 500; exact hI1R.2.2.2.1), (by show 0 ≤ (I1 12 13).toInt ∧ (I1 12 13).toInt ≤ 24; exact hI1R.2.2.2.2)⟩, (by show (I1 12 6).toInt ≤ 501 ∧ ((I1 12 7).toInt = 401 ∨ (I1 12 6).toInt ≤ 500); first | omega | decide), f2, Or.inr rfl⟩
noncomputable def L_X9_opened_8 : z_L := [(12, 6), (12, 7), (17, 999), (12, 9)]
theorem zj_X9_opened_X9 : ∀ w ∈ wsX90, w ∈ wsX9_opened := fun w h => (List.mem_cons_of_mem _ (List.mem_append_right _ h))
set_option maxHeartbeats 8000000 in
set_option maxRecDepth 100000 in
theorem sx_X9_opened_8 (l : Launch) (G : z_G) (ad : Nat → Nat) (c : z_C) (I : z_I) (hR : z_iR I) (hT : z_iT I) (q1 : (I 12 6).toInt ≤ 500) : z_M l yX9_opened wsX9_opened { frames := 9, cells := 0, slots := 0, locals := 187 } [.ref (ad 12), .int 8] G (shC c, ad, I, JX, PC c ad) (fun r u1 => ∃ I1 : z_I, u1 = (shC c, ad, I1, JX, PC c ad) ∧ z_iR I1 ∧ z_iT I1 ∧ z_fr L_X9_opened_8 I1 I ∧ (r = 1 ∨ r = 0)) 0 0 := by
  intro sz
  refine z_headQ (cc := cX9_opened) (maxL := 3) (ret := (some .boolean)) (by decide) rfl (Nat.le_of_ble_eq_true rfl) ?_
  intro p e s m below meth c0 ls hIn hK hsz hW hl
  obtain ⟨hx, hb, hr, hml, hown, hts, hlocks, hname⟩ := hIn
  subst hsz
  have hown : s.vm.findClass RX9 = some m.cls := hown
  have hA : ∀ q : Nat, s.heap.size ≤ q → z_A (shC c, ad, I, JX, PC c ad) s.heap.size q := fun q h => Or.inr h
  generalize hAe : z_A (shC c, ad, I, JX, PC c ad) s.heap.size = A at *
  have hS : va_S A s.heap s.heap [] := va_S.rf
  have hl : lv_has ls 3 [(0, .ref (ad 12)), (1, .int 8)] := hl
  have kT : (I 12 6).toInt ≤ 501 ∧ ((I 12 7).toInt = 401 ∨ (I 12 6).toInt ≤ 500) := hT
  refine lv_iload_n hx hb dX9_opened_0 rfl (lv_at hl 1 rfl) ?_
  refine lv_bipush (v := 9) hx hb dX9_opened_1 (by decide) ?_
  refine lv_icmp_lt (tgt := 8) hx hb dX9_opened_3 (by decide) (fun c1 => ?_) (fun c1 => absurd (by decide) c1)
  refine lv_aload_n hx hb dX9_opened_8 rfl (lv_at hl 0 rfl) ?_
  refine z_get (T := TX9) (N := 14) (ci := 9) (i := 12) (v := .int (I 12 7)) hx hb hts zj_X9_opened_X9 hown hK hW rfl rfl 7 (by decide) (hts (.fieldLink RX9 62 "PetrolBoard$Reader" "token" "I") (me_s (me_l (me_l (List.mem_of_getElem? (i := 0) rfl))))) (fun _ h => h) rfl dX9_opened_9 ?_
  refine lv_sipush (v := 311) hx hb dX9_opened_12 (by decide) ?_
  refine lv_icmp_ne (tgt := 22) hx hb dX9_opened_15 (by decide) (fun c2 => ?_) (fun c2 => ?_)
  · have g3 := z_f_ne rfl z_l311 c2
    have b4 := Int32.toInt_lt (I 12 7)
    refine lv_iconst (v := 0) hx hb dX9_opened_22 (by decide) ?_
    refine lv_istore_n (lv' := [(2, .int 0), (0, .ref (ad 12)), (1, .int 8)]) hx hb dX9_opened_23 rfl hl (by decide) rfl (fun ls hl => ?_)
    refine lv_aload_n hx hb dX9_opened_24 rfl (lv_at hl 1 rfl) ?_
    refine z_cv hW hS hA (va_runV (As := []) (rest := []) ⟨hx, hb, hml, hown, hts⟩ (sx_X9_step l G ad c I ⟨(by show 0 ≤ (I 12 1).toInt ∧ (I 12 1).toInt ≤ 500; exact hR.1), (by show 0 ≤ (I 12 5).toInt ∧ (I 12 5).toInt ≤ 501; exact hR.2.1), (by show (-1) ≤ (I 12 6).toInt ∧ (I 12 6).toInt ≤ 1000000; exact hR.2.2.1), (by show 0 ≤ (I 12 9).toInt ∧ (I 12 9).toInt ≤ 500; exact hR.2.2.2.1), (by show 0 ≤ (I 12 13).toInt ∧ (I 12 13).toInt ≤ 24; exact hR.2.2.2.2)⟩   (by show (I 12 6).toInt ≤ 500; first | omega | decide) _) (cwV 0 hts gX9_opened_X9_step rfl rfl rfl hy_X9_step ⟨Nat.le_of_ble_eq_true rfl, Nat.le_of_ble_eq_true rfl⟩) (z_preV (i := 12) hK hW rfl rfl) rfl rfl hl.1 rfl (lv_room (Nat.le_of_ble_eq_true rfl)) dX9_opened_25 ⟨Nat.le_of_ble_eq_true rfl, Nat.le_of_ble_eq_true rfl⟩) (fun u1 H locs hp hW hS => ?_)
    obtain ⟨I5, e9, hI5R, hI5T, fI5⟩ := hp
    rw [e9] at hW
    have f6 := z_fr_sub (L := L_X9_opened_8) z_fr_0 fI5 (by decide)
    have k7 : (I5 12 6).toInt ≤ 501 ∧ ((I5 12 7).toInt = 401 ∨ (I5 12 6).toInt ≤ 500) := hI5T
    refine lv_iload_n hx hb dX9_opened_28 rfl (lv_at hl 0 rfl) ?_
    refine lv_if_ne (tgt := 57) hx hb dX9_opened_29 (by decide) (fun c8 => absurd (by decide) c8) (fun c8 => ?_)
    refine lv_aload_n hx hb dX9_opened_32 rfl (lv_at hl 1 rfl) ?_
    refine lv_iload_n hx hb dX9_opened_33 rfl (lv_at hl 2 rfl) ?_
    refine lv_iconst (v := 1) hx hb dX9_opened_34 (by decide) ?_
    refine lv_iadd hx hb dX9_opened_35 ?_
    refine z_topi (v := 9) (by decide) ?_
    refine z_ci hW hS hA (va_runV (As := [.int 9]) (rest := []) ⟨hx, hb, hml, hown, hts⟩ (sx_X9_either_9 l G ad c I5 ⟨(by show 0 ≤ (I5 12 1).toInt ∧ (I5 12 1).toInt ≤ 500; exact hI5R.1), (by show 0 ≤ (I5 12 5).toInt ∧ (I5 12 5).toInt ≤ 501; exact hI5R.2.1), (by show (-1) ≤ (I5 12 6).toInt ∧ (I5 12 6).toInt ≤ 1000000; exact hI5R.2.2.1), (by show 0 ≤ (I5 12 9).toInt ∧ (I5 12 9).toInt ≤ 500; exact hI5R.2.2.2.1), (by show 0 ≤ (I5 12 13).toInt ∧ (I5 12 13).toInt ≤ 24; exact hI5R.2.2.2.2)⟩ (by show (I5 12 6).toInt ≤ 501 ∧ ((I5 12 7).toInt = 401 ∨ (I5 12 6).toInt ≤ 500); first | omega | decide) _) (cwV 1 hts gX9_opened_X9_either rfl rfl rfl hy_X9_either ⟨Nat.le_of_ble_eq_true rfl, Nat.le_of_ble_eq_true rfl⟩) (z_preV (i := 12) hK hW rfl rfl) rfl rfl hl.1 rfl (lv_room (Nat.le_of_ble_eq_true rfl)) dX9_opened_36 ⟨Nat.le_of_ble_eq_true rfl, Nat.le_of_ble_eq_true rfl⟩) (fun r u1 H locs hp hW hS => ?_)
    obtain ⟨I9, e9, hI9R, hI9T, fI9, hp⟩ := hp
    rw [e9] at hW
    have f10 := z_fr_sub (L := L_X9_opened_8) f6 fI9 (by decide)
    have k11 : (I9 12 6).toInt ≤ 501 ∧ ((I9 12 7).toInt = 401 ∨ (I9 12 6).toInt ≤ 500) := hI9T
    rcases hp with rfl | rfl
    · refine lv_if_eq (tgt := 55) hx hb dX9_opened_39 (by decide) (fun c12 => absurd c12 (by decide)) (fun c12 => ?_)
      refine lv_aload_n hx hb dX9_opened_42 rfl (lv_at hl 1 rfl) ?_
      refine lv_bipush (v := 125) hx hb dX9_opened_43 (by decide) ?_
      refine z_ci hW hS hA (va_runV (As := [.int 125]) (rest := []) ⟨hx, hb, hml, hown, hts⟩ (sx_X9_taken l G ad c I9 ⟨(by show 0 ≤ (I9 12 1).toInt ∧ (I9 12 1).toInt ≤ 500; exact hI9R.1), (by show 0 ≤ (I9 12 5).toInt ∧ (I9 12 5).toInt ≤ 501; exact hI9R.2.1), (by show (-1) ≤ (I9 12 6).toInt ∧ (I9 12 6).toInt ≤ 1000000; exact hI9R.2.2.1), (by show 0 ≤ (I9 12 9).toInt ∧ (I9 12 9).toInt ≤ 500; exact hI9R.2.2.2.1), (by show 0 ≤ (I9 12 13).toInt ∧ (I9 12 13).toInt ≤ 24; exact hI9R.2.2.2.2)⟩ (by show (I9 12 6).toInt ≤ 501 ∧ ((I9 12 7).toInt = 401 ∨ (I9 12 6).toInt ≤ 500); first | omega | decide) 125 (by first | omega | decide) _) (cwV 1 hts gX9_opened_X9_taken rfl rfl rfl hy_X9_taken ⟨Nat.le_of_ble_eq_true rfl, Nat.le_of_ble_eq_true rfl⟩) (z_preV (i := 12) hK hW rfl rfl) rfl rfl hl.1 rfl (lv_room (Nat.le_of_ble_eq_true rfl)) dX9_opened_45 ⟨Nat.le_of_ble_eq_true rfl, Nat.le_of_ble_eq_true rfl⟩) (fun r u1 H locs hp hW hS => ?_)
      obtain ⟨I13, e9, hI13R, hI13T, fI13, hp⟩ := hp
      rw [e9] at hW
      have f14 := z_fr_sub (L := L_X9_opened_8) f10 fI13 (by decide)
      have k15 : (I13 12 6).toInt ≤ 501 ∧ ((I13 12 7).toInt = 401 ∨ (I13 12 6).toInt ≤ 500) := hI13T
      rcases hp with rfl | rfl
      · refine lv_if_eq (tgt := 55) hx hb dX9_opened_48 (by decide) (fun c16 => absurd c16 (by decide)) (fun c16 => ?_)
        refine lv_iconst (v := 1) hx hb dX9_opened_51 (by decide) ?_
        refine lv_goto (tgt := 56) hx hb dX9_opened_52 (by decide) ?_
        exact z_zret hx hb hr (by decide) hK hS (Nat.le_of_ble_eq_true rfl) (Nat.le_of_ble_eq_true rfl) hlocks dX9_opened_56 (shC c, ad, I13, JX, PC c ad) hW ⟨I13, rfl, ⟨(by show 0 ≤ (I13 12 1).toInt ∧ (I13 12 1).toInt ≤ 500; exact hI13R.1), (by show 0 ≤ (I13 12 5).toInt ∧ (I13 12 5).toInt ≤ 501; exact hI13R.2.1), (by show (-1) ≤ (I13 12 6).toInt ∧ (I13 12 6).toInt ≤ 1000000; exact hI13R.2.2.1), (by show 0 ≤ (I13 12 9).toInt ∧ (I13 12 9).toInt ≤ 500; exact hI13R.2.2.2.1), (by show 0 ≤ (I13 12 13).toInt ∧ (I13 12 13).toInt ≤ 24; exact hI13R.2.2.2.2)⟩, (by show (I13 12 6).toInt ≤ 501 ∧ ((I13 12 7).toInt = 401 ∨ (I13 12 6).toInt ≤ 500); first | omega | decide), f14, Or.inl rfl⟩
      · refine lv_if_eq (tgt := 55) hx hb dX9_opened_48 (by decide) (fun c17 => ?_) (fun c17 => absurd (by decide) c17)
        refine lv_iconst (v := 0) hx hb dX9_opened_55 (by decide) ?_
        exact z_zret hx hb hr (by decide) hK hS (Nat.le_of_ble_eq_true rfl) (Nat.le_of_ble_eq_true rfl) hlocks dX9_opened_56 (shC c, ad, I13, JX, PC c ad) hW ⟨I13, rfl, ⟨(by show 0 ≤ (I13 12 1).toInt ∧ (I13 12 1).toInt ≤ 500; exact hI13R.1), (by show 0 ≤ (I13 12 5).toInt ∧ (I13 12 5).toInt ≤ 501; exact hI13R.2.1), (by show (-1) ≤ (I13 12 6).toInt ∧ (I13 12 6).toInt ≤ 1000000; exact hI13R.2.2.1), (by show 0 ≤ (I13 12 9).toInt ∧ (I13 12 9).toInt ≤ 500; exact hI13R.2.2.2.1), (by show 0 ≤ (I13 12 13).toInt ∧ (I13 12 13).toInt ≤ 24; exact hI13R.2.2.2.2)⟩, (by show (I13 12 6).toInt ≤ 501 ∧ ((I13 12 7).toInt = 401 ∨ (I13 12 6).toInt ≤ 500); first | omega | decide), f14, Or.inr rfl⟩
    · refine lv_if_eq (tgt := 55) hx hb dX9_opened_39 (by decide) (fun c18 => ?_) (fun c18 => absurd (by decide) c18)
      refine lv_iconst (v := 0) hx hb dX9_opened_55 (by decide) ?_
      exact z_zret hx hb hr (by decide) hK hS (Nat.le_of_ble_eq_true rfl) (Nat.le_of_ble_eq_true rfl) hlocks dX9_opened_56 (shC c, ad, I9, JX, PC c ad) hW ⟨I9, rfl, ⟨(by show 0 ≤ (I9 12 1).toInt ∧ (I9 12 1).toInt ≤ 500; exact hI9R.1), (by show 0 ≤ (I9 12 5).toInt ∧ (I9 12 5).toInt ≤ 501; exact hI9R.2.1), (by show (-1) ≤ (I9 12 6).toInt ∧ (I9 12 6).toInt ≤ 1000000; exact hI9R.2.2.1), (by show 0 ≤ (I9 12 9).toInt ∧ (I9 12 9).toInt ≤ 500; exact hI9R.2.2.2.1), (by show 0 ≤ (I9 12 13).toInt ∧ (I9 12 13).toInt ≤ 24; exact hI9R.2.2.2.2)⟩, (by show (I9 12 6).toInt ≤ 501 ∧ ((I9 12 7).toInt = 401 ∨ (I9 12 6).toInt ≤ 500); first | omega | decide), f10, Or.inr rfl⟩
  · have g19 := z_f_eq rfl z_l311 c2
    have b20 := Int32.toInt_lt (I 12 7)
    refine lv_iconst (v := 1) hx hb dX9_opened_18 (by decide) ?_
    refine lv_goto (tgt := 23) hx hb dX9_opened_19 (by decide) ?_
    refine lv_istore_n (lv' := [(2, .int 1), (0, .ref (ad 12)), (1, .int 8)]) hx hb dX9_opened_23 rfl hl (by decide) rfl (fun ls hl => ?_)
    refine lv_aload_n hx hb dX9_opened_24 rfl (lv_at hl 1 rfl) ?_
    refine z_cv hW hS hA (va_runV (As := []) (rest := []) ⟨hx, hb, hml, hown, hts⟩ (sx_X9_step l G ad c I ⟨(by show 0 ≤ (I 12 1).toInt ∧ (I 12 1).toInt ≤ 500; exact hR.1), (by show 0 ≤ (I 12 5).toInt ∧ (I 12 5).toInt ≤ 501; exact hR.2.1), (by show (-1) ≤ (I 12 6).toInt ∧ (I 12 6).toInt ≤ 1000000; exact hR.2.2.1), (by show 0 ≤ (I 12 9).toInt ∧ (I 12 9).toInt ≤ 500; exact hR.2.2.2.1), (by show 0 ≤ (I 12 13).toInt ∧ (I 12 13).toInt ≤ 24; exact hR.2.2.2.2)⟩   (by show (I 12 6).toInt ≤ 500; first | omega | decide) _) (cwV 0 hts gX9_opened_X9_step rfl rfl rfl hy_X9_step ⟨Nat.le_of_ble_eq_true rfl, Nat.le_of_ble_eq_true rfl⟩) (z_preV (i := 12) hK hW rfl rfl) rfl rfl hl.1 rfl (lv_room (Nat.le_of_ble_eq_true rfl)) dX9_opened_25 ⟨Nat.le_of_ble_eq_true rfl, Nat.le_of_ble_eq_true rfl⟩) (fun u1 H locs hp hW hS => ?_)
    obtain ⟨I21, e9, hI21R, hI21T, fI21⟩ := hp
    rw [e9] at hW
    have f22 := z_fr_sub (L := L_X9_opened_8) z_fr_0 fI21 (by decide)
    have k23 : (I21 12 6).toInt ≤ 501 ∧ ((I21 12 7).toInt = 401 ∨ (I21 12 6).toInt ≤ 500) := hI21T
    refine lv_iload_n hx hb dX9_opened_28 rfl (lv_at hl 0 rfl) ?_
    refine lv_if_ne (tgt := 57) hx hb dX9_opened_29 (by decide) (fun c24 => ?_) (fun c24 => absurd c24 (by decide))
    refine lv_aload_n hx hb dX9_opened_57 rfl (lv_at hl 1 rfl) ?_
    refine lv_iload_n hx hb dX9_opened_58 rfl (lv_at hl 2 rfl) ?_
    refine lv_iconst (v := 1) hx hb dX9_opened_59 (by decide) ?_
    refine lv_iadd hx hb dX9_opened_60 ?_
    refine z_topi (v := 9) (by decide) ?_
    refine z_ci hW hS hA (va_runV (As := [.int 9]) (rest := []) ⟨hx, hb, hml, hown, hts⟩ (sx_X9_one_9 l G ad c I21 ⟨(by show 0 ≤ (I21 12 1).toInt ∧ (I21 12 1).toInt ≤ 500; exact hI21R.1), (by show 0 ≤ (I21 12 5).toInt ∧ (I21 12 5).toInt ≤ 501; exact hI21R.2.1), (by show (-1) ≤ (I21 12 6).toInt ∧ (I21 12 6).toInt ≤ 1000000; exact hI21R.2.2.1), (by show 0 ≤ (I21 12 9).toInt ∧ (I21 12 9).toInt ≤ 500; exact hI21R.2.2.2.1), (by show 0 ≤ (I21 12 13).toInt ∧ (I21 12 13).toInt ≤ 24; exact hI21R.2.2.2.2)⟩ (by show (I21 12 6).toInt ≤ 501 ∧ ((I21 12 7).toInt = 401 ∨ (I21 12 6).toInt ≤ 500); first | omega | decide) _) (cwV 1 hts gX9_opened_X9_one rfl rfl rfl hy_X9_one ⟨Nat.le_of_ble_eq_true rfl, Nat.le_of_ble_eq_true rfl⟩) (z_preV (i := 12) hK hW rfl rfl) rfl rfl hl.1 rfl (lv_room (Nat.le_of_ble_eq_true rfl)) dX9_opened_61 ⟨Nat.le_of_ble_eq_true rfl, Nat.le_of_ble_eq_true rfl⟩) (fun r u1 H locs hp hW hS => ?_)
    obtain ⟨I25, e9, hI25R, hI25T, fI25, hp⟩ := hp
    rw [e9] at hW
    have f26 := z_fr_sub (L := L_X9_opened_8) f22 fI25 (by decide)
    have k27 : (I25 12 6).toInt ≤ 501 ∧ ((I25 12 7).toInt = 401 ∨ (I25 12 6).toInt ≤ 500) := hI25T
    rcases hp with rfl | rfl
    · refine lv_if_ne (tgt := 69) hx hb dX9_opened_64 (by decide) (fun c28 => ?_) (fun c28 => absurd c28 (by decide))
      refine lv_aload_n hx hb dX9_opened_69 rfl (lv_at hl 1 rfl) ?_
      refine lv_bipush (v := (-12)) hx hb dX9_opened_70 (by decide) ?_
      refine z_cv hW hS hA (va_runV (As := [.int (-12)]) (rest := []) ⟨hx, hb, hml, hown, hts⟩ (sx_X9_emit l G ad c I25 ⟨(by show 0 ≤ (I25 12 1).toInt ∧ (I25 12 1).toInt ≤ 500; exact hI25R.1), (by show 0 ≤ (I25 12 5).toInt ∧ (I25 12 5).toInt ≤ 501; exact hI25R.2.1), (by show (-1) ≤ (I25 12 6).toInt ∧ (I25 12 6).toInt ≤ 1000000; exact hI25R.2.2.1), (by show 0 ≤ (I25 12 9).toInt ∧ (I25 12 9).toInt ≤ 500; exact hI25R.2.2.2.1), (by show 0 ≤ (I25 12 13).toInt ∧ (I25 12 13).toInt ≤ 24; exact hI25R.2.2.2.2)⟩ (-12) _) (cwV 1 hts gX9_opened_X9_emit rfl rfl rfl hy_X9_emit ⟨Nat.le_of_ble_eq_true rfl, Nat.le_of_ble_eq_true rfl⟩) (z_preV (i := 12) hK hW rfl rfl) rfl rfl hl.1 rfl (lv_room (Nat.le_of_ble_eq_true rfl)) dX9_opened_72 ⟨Nat.le_of_ble_eq_true rfl, Nat.le_of_ble_eq_true rfl⟩) (fun u1 H locs hp hW hS => ?_)
      obtain ⟨I29, e9, hI29R, fI29⟩ := hp
      rw [e9] at hW
      have f30 := z_fr_sub (L := L_X9_opened_8) f26 fI29 (by decide)
      have k31 : (I29 12 6).toInt ≤ 501 ∧ ((I29 12 7).toInt = 401 ∨ (I29 12 6).toInt ≤ 500) := (by have q0 : (I29 12 6) = (I25 12 6) := (by rw [fI29 12 6 (by decide)]); have q1 : (I29 12 7) = (I25 12 7) := (by rw [fI29 12 7 (by decide)]); show (I29 12 6).toInt ≤ 501 ∧ ((I29 12 7).toInt = 401 ∨ (I29 12 6).toInt ≤ 500); rw [q0, q1]; first | omega | decide)
      have k32 : (I29 12 6).toInt = (I25 12 6).toInt := by rw [fI29 12 6 (by decide)]
      have k33 : (I29 12 7).toInt = (I25 12 7).toInt := by rw [fI29 12 7 (by decide)]
      refine lv_iconst (v := 1) hx hb dX9_opened_75 (by decide) ?_
      exact z_zret hx hb hr (by decide) hK hS (Nat.le_of_ble_eq_true rfl) (Nat.le_of_ble_eq_true rfl) hlocks dX9_opened_76 (shC c, ad, I29, JX, PC c ad) hW ⟨I29, rfl, ⟨(by show 0 ≤ (I29 12 1).toInt ∧ (I29 12 1).toInt ≤ 500; exact hI29R.1), (by show 0 ≤ (I29 12 5).toInt ∧ (I29 12 5).toInt ≤ 501; exact hI29R.2.1), (by show (-1) ≤ (I29 12 6).toInt ∧ (I29 12 6).toInt ≤ 1000000; exact hI29R.2.2.1), (by show 0 ≤ (I29 12 9).toInt ∧ (I29 12 9).toInt ≤ 500; exact hI29R.2.2.2.1), (by show 0 ≤ (I29 12 13).toInt ∧ (I29 12 13).toInt ≤ 24; exact hI29R.2.2.2.2)⟩, (by show (I29 12 6).toInt ≤ 501 ∧ ((I29 12 7).toInt = 401 ∨ (I29 12 6).toInt ≤ 500); first | omega | decide), f30, Or.inl rfl⟩
    · refine lv_if_ne (tgt := 69) hx hb dX9_opened_64 (by decide) (fun c34 => absurd (by decide) c34) (fun c34 => ?_)
      refine lv_iconst (v := 0) hx hb dX9_opened_67 (by decide) ?_
      exact z_zret hx hb hr (by decide) hK hS (Nat.le_of_ble_eq_true rfl) (Nat.le_of_ble_eq_true rfl) hlocks dX9_opened_68 (shC c, ad, I25, JX, PC c ad) hW ⟨I25, rfl, ⟨(by show 0 ≤ (I25 12 1).toInt ∧ (I25 12 1).toInt ≤ 500; exact hI25R.1), (by show 0 ≤ (I25 12 5).toInt ∧ (I25 12 5).toInt ≤ 501; exact hI25R.2.1), (by show (-1) ≤ (I25 12 6).toInt ∧ (I25 12 6).toInt ≤ 1000000; exact hI25R.2.2.1), (by show 0 ≤ (I25 12 9).toInt ∧ (I25 12 9).toInt ≤ 500; exact hI25R.2.2.2.1), (by show 0 ≤ (I25 12 13).toInt ∧ (I25 12 13).toInt ≤ 24; exact hI25R.2.2.2.2)⟩, (by show (I25 12 6).toInt ≤ 501 ∧ ((I25 12 7).toInt = 401 ∨ (I25 12 6).toInt ≤ 500); first | omega | decide), f26, Or.inr rfl⟩
noncomputable def L_X9_one_8 : z_L := [(12, 6), (12, 7), (17, 999), (12, 9)]
set_option maxHeartbeats 8000000 in
set_option maxRecDepth 100000 in
theorem sx_X9_one_8 (l : Launch) (G : z_G) (ad : Nat → Nat) (c : z_C) (I : z_I) (hR : z_iR I) (hT : z_iT I) : z_M l yX9_one wsX9_one { frames := 10, cells := 0, slots := 0, locals := 209 } [.ref (ad 12), .int 8] G (shC c, ad, I, JX, PC c ad) (fun r u1 => ∃ I1 : z_I, u1 = (shC c, ad, I1, JX, PC c ad) ∧ z_iR I1 ∧ z_iT I1 ∧ z_fr L_X9_one_8 I1 I ∧ (r = 1 ∨ r = 0)) 0 0 := by
  intro sz
  refine z_headQ (cc := cX9_one) (maxL := 3) (ret := (some .boolean)) (by decide) rfl (Nat.le_of_ble_eq_true rfl) ?_
  intro p e s m below meth c0 ls hIn hK hsz hW hl
  obtain ⟨hx, hb, hr, hml, hown, hts, hlocks, hname⟩ := hIn
  subst hsz
  have hown : s.vm.findClass RX9 = some m.cls := hown
  have hA : ∀ q : Nat, s.heap.size ≤ q → z_A (shC c, ad, I, JX, PC c ad) s.heap.size q := fun q h => Or.inr h
  generalize hAe : z_A (shC c, ad, I, JX, PC c ad) s.heap.size = A at *
  have hS : va_S A s.heap s.heap [] := va_S.rf
  have hl : lv_has ls 3 [(0, .ref (ad 12)), (1, .int 8)] := hl
  have kT : (I 12 6).toInt ≤ 501 ∧ ((I 12 7).toInt = 401 ∨ (I 12 6).toInt ≤ 500) := hT
  refine lv_aload_n hx hb dX9_one_0 rfl (lv_at hl 0 rfl) ?_
  refine z_get (T := TX9) (N := 14) (ci := 9) (i := 12) (v := .int (I 12 7)) hx hb hts zj_X9_one_X9 hown hK hW rfl rfl 7 (by decide) (hts (.fieldLink RX9 62 "PetrolBoard$Reader" "token" "I") (me_s (me_l (me_l (List.mem_of_getElem? (i := 0) rfl))))) (fun _ h => h) rfl dX9_one_1 ?_
  refine lv_sipush (v := 311) hx hb dX9_one_4 (by decide) ?_
  refine lv_icmp_eq (tgt := 19) hx hb dX9_one_7 (by decide) (fun c1 => ?_) (fun c1 => ?_)
  · have g2 := z_f_eq rfl z_l311 c1
    have b3 := Int32.toInt_lt (I 12 7)
    refine lv_aload_n hx hb dX9_one_19 rfl (lv_at hl 0 rfl) ?_
    refine lv_iload_n hx hb dX9_one_20 rfl (lv_at hl 1 rfl) ?_
    refine z_ci hW hS hA (va_runV (As := [.int 8]) (rest := []) ⟨hx, hb, hml, hown, hts⟩ (sx_X9_opened_8 l G ad c I ⟨(by show 0 ≤ (I 12 1).toInt ∧ (I 12 1).toInt ≤ 500; exact hR.1), (by show 0 ≤ (I 12 5).toInt ∧ (I 12 5).toInt ≤ 501; exact hR.2.1), (by show (-1) ≤ (I 12 6).toInt ∧ (I 12 6).toInt ≤ 1000000; exact hR.2.2.1), (by show 0 ≤ (I 12 9).toInt ∧ (I 12 9).toInt ≤ 500; exact hR.2.2.2.1), (by show 0 ≤ (I 12 13).toInt ∧ (I 12 13).toInt ≤ 24; exact hR.2.2.2.2)⟩ (by show (I 12 6).toInt ≤ 501 ∧ ((I 12 7).toInt = 401 ∨ (I 12 6).toInt ≤ 500); first | omega | decide) (by show (I 12 6).toInt ≤ 500; first | omega | decide) _) (cwV 1 hts gX9_one_X9_opened rfl rfl rfl hy_X9_opened ⟨Nat.le_of_ble_eq_true rfl, Nat.le_of_ble_eq_true rfl⟩) (z_preV (i := 12) hK hW rfl rfl) rfl rfl hl.1 rfl (lv_room (Nat.le_of_ble_eq_true rfl)) dX9_one_21 ⟨Nat.le_of_ble_eq_true rfl, Nat.le_of_ble_eq_true rfl⟩) (fun r u1 H locs hp hW hS => ?_)
    obtain ⟨I4, e9, hI4R, hI4T, fI4, hp⟩ := hp
    rw [e9] at hW
    have f5 := z_fr_sub (L := L_X9_one_8) z_fr_0 fI4 (by decide)
    have k6 : (I4 12 6).toInt ≤ 501 ∧ ((I4 12 7).toInt = 401 ∨ (I4 12 6).toInt ≤ 500) := hI4T
    rcases hp with rfl | rfl
    · exact z_zret hx hb hr (by decide) hK hS (Nat.le_of_ble_eq_true rfl) (Nat.le_of_ble_eq_true rfl) hlocks dX9_one_24 (shC c, ad, I4, JX, PC c ad) hW ⟨I4, rfl, ⟨(by show 0 ≤ (I4 12 1).toInt ∧ (I4 12 1).toInt ≤ 500; exact hI4R.1), (by show 0 ≤ (I4 12 5).toInt ∧ (I4 12 5).toInt ≤ 501; exact hI4R.2.1), (by show (-1) ≤ (I4 12 6).toInt ∧ (I4 12 6).toInt ≤ 1000000; exact hI4R.2.2.1), (by show 0 ≤ (I4 12 9).toInt ∧ (I4 12 9).toInt ≤ 500; exact hI4R.2.2.2.1), (by show 0 ≤ (I4 12 13).toInt ∧ (I4 12 13).toInt ≤ 24; exact hI4R.2.2.2.2)⟩, (by show (I4 12 6).toInt ≤ 501 ∧ ((I4 12 7).toInt = 401 ∨ (I4 12 6).toInt ≤ 500); first | omega | decide), f5, Or.inl rfl⟩
    · exact z_zret hx hb hr (by decide) hK hS (Nat.le_of_ble_eq_true rfl) (Nat.le_of_ble_eq_true rfl) hlocks dX9_one_24 (shC c, ad, I4, JX, PC c ad) hW ⟨I4, rfl, ⟨(by show 0 ≤ (I4 12 1).toInt ∧ (I4 12 1).toInt ≤ 500; exact hI4R.1), (by show 0 ≤ (I4 12 5).toInt ∧ (I4 12 5).toInt ≤ 501; exact hI4R.2.1), (by show (-1) ≤ (I4 12 6).toInt ∧ (I4 12 6).toInt ≤ 1000000; exact hI4R.2.2.1), (by show 0 ≤ (I4 12 9).toInt ∧ (I4 12 9).toInt ≤ 500; exact hI4R.2.2.2.1), (by show 0 ≤ (I4 12 13).toInt ∧ (I4 12 13).toInt ≤ 24; exact hI4R.2.2.2.2)⟩, (by show (I4 12 6).toInt ≤ 501 ∧ ((I4 12 7).toInt = 401 ∨ (I4 12 6).toInt ≤ 500); first | omega | decide), f5, Or.inr rfl⟩
  · have g7 := z_f_ne rfl z_l311 c1
    have b8 := Int32.toInt_lt (I 12 7)
    refine lv_aload_n hx hb dX9_one_10 rfl (lv_at hl 0 rfl) ?_
    refine z_get (T := TX9) (N := 14) (ci := 9) (i := 12) (v := .int (I 12 7)) hx hb hts zj_X9_one_X9 hown hK hW rfl rfl 7 (by decide) (hts (.fieldLink RX9 62 "PetrolBoard$Reader" "token" "I") (me_s (me_l (me_l (List.mem_of_getElem? (i := 0) rfl))))) (fun _ h => h) rfl dX9_one_11 ?_
    refine lv_bipush (v := 123) hx hb dX9_one_14 (by decide) ?_
    refine lv_icmp_ne (tgt := 25) hx hb dX9_one_16 (by decide) (fun c9 => ?_) (fun c9 => ?_)
    · have g10 := z_f_ne rfl z_l123 c9
      refine lv_aload_n hx hb dX9_one_25 rfl (lv_at hl 0 rfl) ?_
      refine lv_iload_n hx hb dX9_one_26 rfl (lv_at hl 1 rfl) ?_
      refine z_ci hW hS hA (va_runV (As := [.int 8]) (rest := []) ⟨hx, hb, hml, hown, hts⟩ (sx_X9_sum_8 l G ad c I ⟨(by show 0 ≤ (I 12 1).toInt ∧ (I 12 1).toInt ≤ 500; exact hR.1), (by show 0 ≤ (I 12 5).toInt ∧ (I 12 5).toInt ≤ 501; exact hR.2.1), (by show (-1) ≤ (I 12 6).toInt ∧ (I 12 6).toInt ≤ 1000000; exact hR.2.2.1), (by show 0 ≤ (I 12 9).toInt ∧ (I 12 9).toInt ≤ 500; exact hR.2.2.2.1), (by show 0 ≤ (I 12 13).toInt ∧ (I 12 13).toInt ≤ 24; exact hR.2.2.2.2)⟩ (by show (I 12 6).toInt ≤ 501 ∧ ((I 12 7).toInt = 401 ∨ (I 12 6).toInt ≤ 500); first | omega | decide) _) (cwV 1 hts gX9_one_X9_sum rfl rfl rfl hy_X9_sum ⟨Nat.le_of_ble_eq_true rfl, Nat.le_of_ble_eq_true rfl⟩) (z_preV (i := 12) hK hW rfl rfl) rfl rfl hl.1 rfl (lv_room (Nat.le_of_ble_eq_true rfl)) dX9_one_27 ⟨Nat.le_of_ble_eq_true rfl, Nat.le_of_ble_eq_true rfl⟩) (fun r u1 H locs hp hW hS => ?_)
      obtain ⟨I11, e9, hI11R, hI11T, fI11, hp⟩ := hp
      rw [e9] at hW
      have f12 := z_fr_sub (L := L_X9_one_8) z_fr_0 fI11 (by decide)
      have k13 : (I11 12 6).toInt ≤ 501 ∧ ((I11 12 7).toInt = 401 ∨ (I11 12 6).toInt ≤ 500) := hI11T
      rcases hp with rfl | rfl
      · refine lv_if_ne (tgt := 35) hx hb dX9_one_30 (by decide) (fun c14 => ?_) (fun c14 => absurd c14 (by decide))
        refine lv_aload_n hx hb dX9_one_35 rfl (lv_at hl 0 rfl) ?_
        refine z_get (T := TX9) (N := 14) (ci := 9) (i := 12) (v := .int (I11 12 7)) hx hb hts zj_X9_one_X9 hown hK hW rfl rfl 7 (by decide) (hts (.fieldLink RX9 62 "PetrolBoard$Reader" "token" "I") (me_s (me_l (me_l (List.mem_of_getElem? (i := 0) rfl))))) (fun _ h => h) rfl dX9_one_36 ?_
        refine lv_istore_n (lv' := [(2, .int (I11 12 7)), (0, .ref (ad 12)), (1, .int 8)]) hx hb dX9_one_39 rfl hl (by decide) rfl (fun ls hl => ?_)
        refine lv_iload_n hx hb dX9_one_40 rfl (lv_at hl 0 rfl) ?_
        refine lv_bipush (v := 60) hx hb dX9_one_41 (by decide) ?_
        refine lv_icmp_eq (tgt := 60) hx hb dX9_one_43 (by decide) (fun c15 => ?_) (fun c15 => ?_)
        · have g16 := z_f_eq rfl z_l60 c15
          have b17 := Int32.toInt_lt (I11 12 7)
          refine lv_aload_n hx hb dX9_one_60 rfl (lv_at hl 1 rfl) ?_
          refine z_cv hW hS hA (va_runV (As := []) (rest := []) ⟨hx, hb, hml, hown, hts⟩ (sx_X9_step l G ad c I11 ⟨(by show 0 ≤ (I11 12 1).toInt ∧ (I11 12 1).toInt ≤ 500; exact hI11R.1), (by show 0 ≤ (I11 12 5).toInt ∧ (I11 12 5).toInt ≤ 501; exact hI11R.2.1), (by show (-1) ≤ (I11 12 6).toInt ∧ (I11 12 6).toInt ≤ 1000000; exact hI11R.2.2.1), (by show 0 ≤ (I11 12 9).toInt ∧ (I11 12 9).toInt ≤ 500; exact hI11R.2.2.2.1), (by show 0 ≤ (I11 12 13).toInt ∧ (I11 12 13).toInt ≤ 24; exact hI11R.2.2.2.2)⟩   (by show (I11 12 6).toInt ≤ 500; first | omega | decide) _) (cwV 0 hts gX9_one_X9_step rfl rfl rfl hy_X9_step ⟨Nat.le_of_ble_eq_true rfl, Nat.le_of_ble_eq_true rfl⟩) (z_preV (i := 12) hK hW rfl rfl) rfl rfl hl.1 rfl (lv_room (Nat.le_of_ble_eq_true rfl)) dX9_one_61 ⟨Nat.le_of_ble_eq_true rfl, Nat.le_of_ble_eq_true rfl⟩) (fun u1 H locs hp hW hS => ?_)
          obtain ⟨I18, e9, hI18R, hI18T, fI18⟩ := hp
          rw [e9] at hW
          have f19 := z_fr_sub (L := L_X9_one_8) f12 fI18 (by decide)
          have k20 : (I18 12 6).toInt ≤ 501 ∧ ((I18 12 7).toInt = 401 ∨ (I18 12 6).toInt ≤ 500) := hI18T
          refine lv_aload_n hx hb dX9_one_64 rfl (lv_at hl 1 rfl) ?_
          refine lv_iload_n hx hb dX9_one_65 rfl (lv_at hl 2 rfl) ?_
          refine z_ci hW hS hA (va_runV (As := [.int 8]) (rest := []) ⟨hx, hb, hml, hown, hts⟩ (sx_X9_sum_8 l G ad c I18 ⟨(by show 0 ≤ (I18 12 1).toInt ∧ (I18 12 1).toInt ≤ 500; exact hI18R.1), (by show 0 ≤ (I18 12 5).toInt ∧ (I18 12 5).toInt ≤ 501; exact hI18R.2.1), (by show (-1) ≤ (I18 12 6).toInt ∧ (I18 12 6).toInt ≤ 1000000; exact hI18R.2.2.1), (by show 0 ≤ (I18 12 9).toInt ∧ (I18 12 9).toInt ≤ 500; exact hI18R.2.2.2.1), (by show 0 ≤ (I18 12 13).toInt ∧ (I18 12 13).toInt ≤ 24; exact hI18R.2.2.2.2)⟩ (by show (I18 12 6).toInt ≤ 501 ∧ ((I18 12 7).toInt = 401 ∨ (I18 12 6).toInt ≤ 500); first | omega | decide) _) (cwV 1 hts gX9_one_X9_sum rfl rfl rfl hy_X9_sum ⟨Nat.le_of_ble_eq_true rfl, Nat.le_of_ble_eq_true rfl⟩) (z_preV (i := 12) hK hW rfl rfl) rfl rfl hl.1 rfl (lv_room (Nat.le_of_ble_eq_true rfl)) dX9_one_66 ⟨Nat.le_of_ble_eq_true rfl, Nat.le_of_ble_eq_true rfl⟩) (fun r u1 H locs hp hW hS => ?_)
          obtain ⟨I21, e9, hI21R, hI21T, fI21, hp⟩ := hp
          rw [e9] at hW
          have f22 := z_fr_sub (L := L_X9_one_8) f19 fI21 (by decide)
          have k23 : (I21 12 6).toInt ≤ 501 ∧ ((I21 12 7).toInt = 401 ∨ (I21 12 6).toInt ≤ 500) := hI21T
          rcases hp with rfl | rfl
          · refine lv_if_ne (tgt := 74) hx hb dX9_one_69 (by decide) (fun c24 => ?_) (fun c24 => absurd c24 (by decide))
            refine lv_aload_n hx hb dX9_one_74 rfl (lv_at hl 1 rfl) ?_
            refine lv_iload_n hx hb dX9_one_75 rfl (lv_at hl 0 rfl) ?_
            refine lv_bipush (v := 60) hx hb dX9_one_76 (by decide) ?_
            refine lv_icmp_ne (tgt := 86) hx hb dX9_one_78 (by decide) (fun c25 => (by have g := z_f_ne rfl z_l60 c25; omega)) (fun c25 => ?_)
            have g26 := z_f_eq rfl z_l60 c25
            refine lv_bipush (v := (-7)) hx hb dX9_one_81 (by decide) ?_
            refine lv_goto (tgt := 99) hx hb dX9_one_83 (by decide) ?_
            refine z_cv hW hS hA (va_runV (As := [.int (-7)]) (rest := []) ⟨hx, hb, hml, hown, hts⟩ (sx_X9_emit l G ad c I21 ⟨(by show 0 ≤ (I21 12 1).toInt ∧ (I21 12 1).toInt ≤ 500; exact hI21R.1), (by show 0 ≤ (I21 12 5).toInt ∧ (I21 12 5).toInt ≤ 501; exact hI21R.2.1), (by show (-1) ≤ (I21 12 6).toInt ∧ (I21 12 6).toInt ≤ 1000000; exact hI21R.2.2.1), (by show 0 ≤ (I21 12 9).toInt ∧ (I21 12 9).toInt ≤ 500; exact hI21R.2.2.2.1), (by show 0 ≤ (I21 12 13).toInt ∧ (I21 12 13).toInt ≤ 24; exact hI21R.2.2.2.2)⟩ (-7) _) (cwV 1 hts gX9_one_X9_emit rfl rfl rfl hy_X9_emit ⟨Nat.le_of_ble_eq_true rfl, Nat.le_of_ble_eq_true rfl⟩) (z_preV (i := 12) hK hW rfl rfl) rfl rfl hl.1 rfl (lv_room (Nat.le_of_ble_eq_true rfl)) dX9_one_99 ⟨Nat.le_of_ble_eq_true rfl, Nat.le_of_ble_eq_true rfl⟩) (fun u1 H locs hp hW hS => ?_)
            obtain ⟨I27, e9, hI27R, fI27⟩ := hp
            rw [e9] at hW
            have f28 := z_fr_sub (L := L_X9_one_8) f22 fI27 (by decide)
            have k29 : (I27 12 6).toInt ≤ 501 ∧ ((I27 12 7).toInt = 401 ∨ (I27 12 6).toInt ≤ 500) := (by have q0 : (I27 12 6) = (I21 12 6) := (by rw [fI27 12 6 (by decide)]); have q1 : (I27 12 7) = (I21 12 7) := (by rw [fI27 12 7 (by decide)]); show (I27 12 6).toInt ≤ 501 ∧ ((I27 12 7).toInt = 401 ∨ (I27 12 6).toInt ≤ 500); rw [q0, q1]; first | omega | decide)
            have k30 : (I27 12 6).toInt = (I21 12 6).toInt := by rw [fI27 12 6 (by decide)]
            have k31 : (I27 12 7).toInt = (I21 12 7).toInt := by rw [fI27 12 7 (by decide)]
            refine lv_iconst (v := 1) hx hb dX9_one_102 (by decide) ?_
            exact z_zret hx hb hr (by decide) hK hS (Nat.le_of_ble_eq_true rfl) (Nat.le_of_ble_eq_true rfl) hlocks dX9_one_103 (shC c, ad, I27, JX, PC c ad) hW ⟨I27, rfl, ⟨(by show 0 ≤ (I27 12 1).toInt ∧ (I27 12 1).toInt ≤ 500; exact hI27R.1), (by show 0 ≤ (I27 12 5).toInt ∧ (I27 12 5).toInt ≤ 501; exact hI27R.2.1), (by show (-1) ≤ (I27 12 6).toInt ∧ (I27 12 6).toInt ≤ 1000000; exact hI27R.2.2.1), (by show 0 ≤ (I27 12 9).toInt ∧ (I27 12 9).toInt ≤ 500; exact hI27R.2.2.2.1), (by show 0 ≤ (I27 12 13).toInt ∧ (I27 12 13).toInt ≤ 24; exact hI27R.2.2.2.2)⟩, (by show (I27 12 6).toInt ≤ 501 ∧ ((I27 12 7).toInt = 401 ∨ (I27 12 6).toInt ≤ 500); first | omega | decide), f28, Or.inl rfl⟩
          · refine lv_if_ne (tgt := 74) hx hb dX9_one_69 (by decide) (fun c32 => absurd (by decide) c32) (fun c32 => ?_)
            refine lv_iconst (v := 0) hx hb dX9_one_72 (by decide) ?_
            exact z_zret hx hb hr (by decide) hK hS (Nat.le_of_ble_eq_true rfl) (Nat.le_of_ble_eq_true rfl) hlocks dX9_one_73 (shC c, ad, I21, JX, PC c ad) hW ⟨I21, rfl, ⟨(by show 0 ≤ (I21 12 1).toInt ∧ (I21 12 1).toInt ≤ 500; exact hI21R.1), (by show 0 ≤ (I21 12 5).toInt ∧ (I21 12 5).toInt ≤ 501; exact hI21R.2.1), (by show (-1) ≤ (I21 12 6).toInt ∧ (I21 12 6).toInt ≤ 1000000; exact hI21R.2.2.1), (by show 0 ≤ (I21 12 9).toInt ∧ (I21 12 9).toInt ≤ 500; exact hI21R.2.2.2.1), (by show 0 ≤ (I21 12 13).toInt ∧ (I21 12 13).toInt ≤ 24; exact hI21R.2.2.2.2)⟩, (by show (I21 12 6).toInt ≤ 501 ∧ ((I21 12 7).toInt = 401 ∨ (I21 12 6).toInt ≤ 500); first | omega | decide), f22, Or.inr rfl⟩
        · have g33 := z_f_ne rfl z_l60 c15
          have b34 := Int32.toInt_lt (I11 12 7)
          refine lv_iload_n hx hb dX9_one_46 rfl (lv_at hl 0 rfl) ?_
          refine lv_bipush (v := 62) hx hb dX9_one_47 (by decide) ?_
          refine lv_icmp_eq (tgt := 60) hx hb dX9_one_49 (by decide) (fun c35 => ?_) (fun c35 => ?_)
          · have g36 := z_f_eq rfl z_l62 c35
            refine lv_aload_n hx hb dX9_one_60 rfl (lv_at hl 1 rfl) ?_
            refine z_cv hW hS hA (va_runV (As := []) (rest := []) ⟨hx, hb, hml, hown, hts⟩ (sx_X9_step l G ad c I11 ⟨(by show 0 ≤ (I11 12 1).toInt ∧ (I11 12 1).toInt ≤ 500; exact hI11R.1), (by show 0 ≤ (I11 12 5).toInt ∧ (I11 12 5).toInt ≤ 501; exact hI11R.2.1), (by show (-1) ≤ (I11 12 6).toInt ∧ (I11 12 6).toInt ≤ 1000000; exact hI11R.2.2.1), (by show 0 ≤ (I11 12 9).toInt ∧ (I11 12 9).toInt ≤ 500; exact hI11R.2.2.2.1), (by show 0 ≤ (I11 12 13).toInt ∧ (I11 12 13).toInt ≤ 24; exact hI11R.2.2.2.2)⟩   (by show (I11 12 6).toInt ≤ 500; first | omega | decide) _) (cwV 0 hts gX9_one_X9_step rfl rfl rfl hy_X9_step ⟨Nat.le_of_ble_eq_true rfl, Nat.le_of_ble_eq_true rfl⟩) (z_preV (i := 12) hK hW rfl rfl) rfl rfl hl.1 rfl (lv_room (Nat.le_of_ble_eq_true rfl)) dX9_one_61 ⟨Nat.le_of_ble_eq_true rfl, Nat.le_of_ble_eq_true rfl⟩) (fun u1 H locs hp hW hS => ?_)
            obtain ⟨I37, e9, hI37R, hI37T, fI37⟩ := hp
            rw [e9] at hW
            have f38 := z_fr_sub (L := L_X9_one_8) f12 fI37 (by decide)
            have k39 : (I37 12 6).toInt ≤ 501 ∧ ((I37 12 7).toInt = 401 ∨ (I37 12 6).toInt ≤ 500) := hI37T
            refine lv_aload_n hx hb dX9_one_64 rfl (lv_at hl 1 rfl) ?_
            refine lv_iload_n hx hb dX9_one_65 rfl (lv_at hl 2 rfl) ?_
            refine z_ci hW hS hA (va_runV (As := [.int 8]) (rest := []) ⟨hx, hb, hml, hown, hts⟩ (sx_X9_sum_8 l G ad c I37 ⟨(by show 0 ≤ (I37 12 1).toInt ∧ (I37 12 1).toInt ≤ 500; exact hI37R.1), (by show 0 ≤ (I37 12 5).toInt ∧ (I37 12 5).toInt ≤ 501; exact hI37R.2.1), (by show (-1) ≤ (I37 12 6).toInt ∧ (I37 12 6).toInt ≤ 1000000; exact hI37R.2.2.1), (by show 0 ≤ (I37 12 9).toInt ∧ (I37 12 9).toInt ≤ 500; exact hI37R.2.2.2.1), (by show 0 ≤ (I37 12 13).toInt ∧ (I37 12 13).toInt ≤ 24; exact hI37R.2.2.2.2)⟩ (by show (I37 12 6).toInt ≤ 501 ∧ ((I37 12 7).toInt = 401 ∨ (I37 12 6).toInt ≤ 500); first | omega | decide) _) (cwV 1 hts gX9_one_X9_sum rfl rfl rfl hy_X9_sum ⟨Nat.le_of_ble_eq_true rfl, Nat.le_of_ble_eq_true rfl⟩) (z_preV (i := 12) hK hW rfl rfl) rfl rfl hl.1 rfl (lv_room (Nat.le_of_ble_eq_true rfl)) dX9_one_66 ⟨Nat.le_of_ble_eq_true rfl, Nat.le_of_ble_eq_true rfl⟩) (fun r u1 H locs hp hW hS => ?_)
            obtain ⟨I40, e9, hI40R, hI40T, fI40, hp⟩ := hp
            rw [e9] at hW
            have f41 := z_fr_sub (L := L_X9_one_8) f38 fI40 (by decide)
            have k42 : (I40 12 6).toInt ≤ 501 ∧ ((I40 12 7).toInt = 401 ∨ (I40 12 6).toInt ≤ 500) := hI40T
            rcases hp with rfl | rfl
            · refine lv_if_ne (tgt := 74) hx hb dX9_one_69 (by decide) (fun c43 => ?_) (fun c43 => absurd c43 (by decide))
              refine lv_aload_n hx hb dX9_one_74 rfl (lv_at hl 1 rfl) ?_
              refine lv_iload_n hx hb dX9_one_75 rfl (lv_at hl 0 rfl) ?_
              refine lv_bipush (v := 60) hx hb dX9_one_76 (by decide) ?_
              refine lv_icmp_ne (tgt := 86) hx hb dX9_one_78 (by decide) (fun c44 => ?_) (fun c44 => (by have g := z_f_eq rfl z_l60 c44; omega))
              have g45 := z_f_ne rfl z_l60 c44
              refine lv_iload_n hx hb dX9_one_86 rfl (lv_at hl 0 rfl) ?_
              refine lv_bipush (v := 62) hx hb dX9_one_87 (by decide) ?_
              refine lv_icmp_ne (tgt := 97) hx hb dX9_one_89 (by decide) (fun c46 => (by have g := z_f_ne rfl z_l62 c46; omega)) (fun c46 => ?_)
              have g47 := z_f_eq rfl z_l62 c46
              refine lv_bipush (v := (-8)) hx hb dX9_one_92 (by decide) ?_
              refine lv_goto (tgt := 99) hx hb dX9_one_94 (by decide) ?_
              refine z_cv hW hS hA (va_runV (As := [.int (-8)]) (rest := []) ⟨hx, hb, hml, hown, hts⟩ (sx_X9_emit l G ad c I40 ⟨(by show 0 ≤ (I40 12 1).toInt ∧ (I40 12 1).toInt ≤ 500; exact hI40R.1), (by show 0 ≤ (I40 12 5).toInt ∧ (I40 12 5).toInt ≤ 501; exact hI40R.2.1), (by show (-1) ≤ (I40 12 6).toInt ∧ (I40 12 6).toInt ≤ 1000000; exact hI40R.2.2.1), (by show 0 ≤ (I40 12 9).toInt ∧ (I40 12 9).toInt ≤ 500; exact hI40R.2.2.2.1), (by show 0 ≤ (I40 12 13).toInt ∧ (I40 12 13).toInt ≤ 24; exact hI40R.2.2.2.2)⟩ (-8) _) (cwV 1 hts gX9_one_X9_emit rfl rfl rfl hy_X9_emit ⟨Nat.le_of_ble_eq_true rfl, Nat.le_of_ble_eq_true rfl⟩) (z_preV (i := 12) hK hW rfl rfl) rfl rfl hl.1 rfl (lv_room (Nat.le_of_ble_eq_true rfl)) dX9_one_99 ⟨Nat.le_of_ble_eq_true rfl, Nat.le_of_ble_eq_true rfl⟩) (fun u1 H locs hp hW hS => ?_)
              obtain ⟨I48, e9, hI48R, fI48⟩ := hp
              rw [e9] at hW
              have f49 := z_fr_sub (L := L_X9_one_8) f41 fI48 (by decide)
              have k50 : (I48 12 6).toInt ≤ 501 ∧ ((I48 12 7).toInt = 401 ∨ (I48 12 6).toInt ≤ 500) := (by have q0 : (I48 12 6) = (I40 12 6) := (by rw [fI48 12 6 (by decide)]); have q1 : (I48 12 7) = (I40 12 7) := (by rw [fI48 12 7 (by decide)]); show (I48 12 6).toInt ≤ 501 ∧ ((I48 12 7).toInt = 401 ∨ (I48 12 6).toInt ≤ 500); rw [q0, q1]; first | omega | decide)
              have k51 : (I48 12 6).toInt = (I40 12 6).toInt := by rw [fI48 12 6 (by decide)]
              have k52 : (I48 12 7).toInt = (I40 12 7).toInt := by rw [fI48 12 7 (by decide)]
              refine lv_iconst (v := 1) hx hb dX9_one_102 (by decide) ?_
              exact z_zret hx hb hr (by decide) hK hS (Nat.le_of_ble_eq_true rfl) (Nat.le_of_ble_eq_true rfl) hlocks dX9_one_103 (shC c, ad, I48, JX, PC c ad) hW ⟨I48, rfl, ⟨(by show 0 ≤ (I48 12 1).toInt ∧ (I48 12 1).toInt ≤ 500; exact hI48R.1), (by show 0 ≤ (I48 12 5).toInt ∧ (I48 12 5).toInt ≤ 501; exact hI48R.2.1), (by show (-1) ≤ (I48 12 6).toInt ∧ (I48 12 6).toInt ≤ 1000000; exact hI48R.2.2.1), (by show 0 ≤ (I48 12 9).toInt ∧ (I48 12 9).toInt ≤ 500; exact hI48R.2.2.2.1), (by show 0 ≤ (I48 12 13).toInt ∧ (I48 12 13).toInt ≤ 24; exact hI48R.2.2.2.2)⟩, (by show (I48 12 6).toInt ≤ 501 ∧ ((I48 12 7).toInt = 401 ∨ (I48 12 6).toInt ≤ 500); first | omega | decide), f49, Or.inl rfl⟩
            · refine lv_if_ne (tgt := 74) hx hb dX9_one_69 (by decide) (fun c53 => absurd (by decide) c53) (fun c53 => ?_)
              refine lv_iconst (v := 0) hx hb dX9_one_72 (by decide) ?_
              exact z_zret hx hb hr (by decide) hK hS (Nat.le_of_ble_eq_true rfl) (Nat.le_of_ble_eq_true rfl) hlocks dX9_one_73 (shC c, ad, I40, JX, PC c ad) hW ⟨I40, rfl, ⟨(by show 0 ≤ (I40 12 1).toInt ∧ (I40 12 1).toInt ≤ 500; exact hI40R.1), (by show 0 ≤ (I40 12 5).toInt ∧ (I40 12 5).toInt ≤ 501; exact hI40R.2.1), (by show (-1) ≤ (I40 12 6).toInt ∧ (I40 12 6).toInt ≤ 1000000; exact hI40R.2.2.1), (by show 0 ≤ (I40 12 9).toInt ∧ (I40 12 9).toInt ≤ 500; exact hI40R.2.2.2.1), (by show 0 ≤ (I40 12 13).toInt ∧ (I40 12 13).toInt ≤ 24; exact hI40R.2.2.2.2)⟩, (by show (I40 12 6).toInt ≤ 501 ∧ ((I40 12 7).toInt = 401 ∨ (I40 12 6).toInt ≤ 500); first | omega | decide), f41, Or.inr rfl⟩
          · have g54 := z_f_ne rfl z_l62 c35
            refine lv_iload_n hx hb dX9_one_52 rfl (lv_at hl 0 rfl) ?_
            refine lv_bipush (v := 61) hx hb dX9_one_53 (by decide) ?_
            refine lv_icmp_eq (tgt := 60) hx hb dX9_one_55 (by decide) (fun c55 => ?_) (fun c55 => ?_)
            · have g56 := z_f_eq rfl z_l61 c55
              refine lv_aload_n hx hb dX9_one_60 rfl (lv_at hl 1 rfl) ?_
              refine z_cv hW hS hA (va_runV (As := []) (rest := []) ⟨hx, hb, hml, hown, hts⟩ (sx_X9_step l G ad c I11 ⟨(by show 0 ≤ (I11 12 1).toInt ∧ (I11 12 1).toInt ≤ 500; exact hI11R.1), (by show 0 ≤ (I11 12 5).toInt ∧ (I11 12 5).toInt ≤ 501; exact hI11R.2.1), (by show (-1) ≤ (I11 12 6).toInt ∧ (I11 12 6).toInt ≤ 1000000; exact hI11R.2.2.1), (by show 0 ≤ (I11 12 9).toInt ∧ (I11 12 9).toInt ≤ 500; exact hI11R.2.2.2.1), (by show 0 ≤ (I11 12 13).toInt ∧ (I11 12 13).toInt ≤ 24; exact hI11R.2.2.2.2)⟩   (by show (I11 12 6).toInt ≤ 500; first | omega | decide) _) (cwV 0 hts gX9_one_X9_step rfl rfl rfl hy_X9_step ⟨Nat.le_of_ble_eq_true rfl, Nat.le_of_ble_eq_true rfl⟩) (z_preV (i := 12) hK hW rfl rfl) rfl rfl hl.1 rfl (lv_room (Nat.le_of_ble_eq_true rfl)) dX9_one_61 ⟨Nat.le_of_ble_eq_true rfl, Nat.le_of_ble_eq_true rfl⟩) (fun u1 H locs hp hW hS => ?_)
              obtain ⟨I57, e9, hI57R, hI57T, fI57⟩ := hp
              rw [e9] at hW
              have f58 := z_fr_sub (L := L_X9_one_8) f12 fI57 (by decide)
              have k59 : (I57 12 6).toInt ≤ 501 ∧ ((I57 12 7).toInt = 401 ∨ (I57 12 6).toInt ≤ 500) := hI57T
              refine lv_aload_n hx hb dX9_one_64 rfl (lv_at hl 1 rfl) ?_
              refine lv_iload_n hx hb dX9_one_65 rfl (lv_at hl 2 rfl) ?_
              refine z_ci hW hS hA (va_runV (As := [.int 8]) (rest := []) ⟨hx, hb, hml, hown, hts⟩ (sx_X9_sum_8 l G ad c I57 ⟨(by show 0 ≤ (I57 12 1).toInt ∧ (I57 12 1).toInt ≤ 500; exact hI57R.1), (by show 0 ≤ (I57 12 5).toInt ∧ (I57 12 5).toInt ≤ 501; exact hI57R.2.1), (by show (-1) ≤ (I57 12 6).toInt ∧ (I57 12 6).toInt ≤ 1000000; exact hI57R.2.2.1), (by show 0 ≤ (I57 12 9).toInt ∧ (I57 12 9).toInt ≤ 500; exact hI57R.2.2.2.1), (by show 0 ≤ (I57 12 13).toInt ∧ (I57 12 13).toInt ≤ 24; exact hI57R.2.2.2.2)⟩ (by show (I57 12 6).toInt ≤ 501 ∧ ((I57 12 7).toInt = 401 ∨ (I57 12 6).toInt ≤ 500); first | omega | decide) _) (cwV 1 hts gX9_one_X9_sum rfl rfl rfl hy_X9_sum ⟨Nat.le_of_ble_eq_true rfl, Nat.le_of_ble_eq_true rfl⟩) (z_preV (i := 12) hK hW rfl rfl) rfl rfl hl.1 rfl (lv_room (Nat.le_of_ble_eq_true rfl)) dX9_one_66 ⟨Nat.le_of_ble_eq_true rfl, Nat.le_of_ble_eq_true rfl⟩) (fun r u1 H locs hp hW hS => ?_)
              obtain ⟨I60, e9, hI60R, hI60T, fI60, hp⟩ := hp
              rw [e9] at hW
              have f61 := z_fr_sub (L := L_X9_one_8) f58 fI60 (by decide)
              have k62 : (I60 12 6).toInt ≤ 501 ∧ ((I60 12 7).toInt = 401 ∨ (I60 12 6).toInt ≤ 500) := hI60T
              rcases hp with rfl | rfl
              · refine lv_if_ne (tgt := 74) hx hb dX9_one_69 (by decide) (fun c63 => ?_) (fun c63 => absurd c63 (by decide))
                refine lv_aload_n hx hb dX9_one_74 rfl (lv_at hl 1 rfl) ?_
                refine lv_iload_n hx hb dX9_one_75 rfl (lv_at hl 0 rfl) ?_
                refine lv_bipush (v := 60) hx hb dX9_one_76 (by decide) ?_
                refine lv_icmp_ne (tgt := 86) hx hb dX9_one_78 (by decide) (fun c64 => ?_) (fun c64 => (by have g := z_f_eq rfl z_l60 c64; omega))
                have g65 := z_f_ne rfl z_l60 c64
                refine lv_iload_n hx hb dX9_one_86 rfl (lv_at hl 0 rfl) ?_
                refine lv_bipush (v := 62) hx hb dX9_one_87 (by decide) ?_
                refine lv_icmp_ne (tgt := 97) hx hb dX9_one_89 (by decide) (fun c66 => ?_) (fun c66 => (by have g := z_f_eq rfl z_l62 c66; omega))
                have g67 := z_f_ne rfl z_l62 c66
                refine lv_bipush (v := (-9)) hx hb dX9_one_97 (by decide) ?_
                refine z_cv hW hS hA (va_runV (As := [.int (-9)]) (rest := []) ⟨hx, hb, hml, hown, hts⟩ (sx_X9_emit l G ad c I60 ⟨(by show 0 ≤ (I60 12 1).toInt ∧ (I60 12 1).toInt ≤ 500; exact hI60R.1), (by show 0 ≤ (I60 12 5).toInt ∧ (I60 12 5).toInt ≤ 501; exact hI60R.2.1), (by show (-1) ≤ (I60 12 6).toInt ∧ (I60 12 6).toInt ≤ 1000000; exact hI60R.2.2.1), (by show 0 ≤ (I60 12 9).toInt ∧ (I60 12 9).toInt ≤ 500; exact hI60R.2.2.2.1), (by show 0 ≤ (I60 12 13).toInt ∧ (I60 12 13).toInt ≤ 24; exact hI60R.2.2.2.2)⟩ (-9) _) (cwV 1 hts gX9_one_X9_emit rfl rfl rfl hy_X9_emit ⟨Nat.le_of_ble_eq_true rfl, Nat.le_of_ble_eq_true rfl⟩) (z_preV (i := 12) hK hW rfl rfl) rfl rfl hl.1 rfl (lv_room (Nat.le_of_ble_eq_true rfl)) dX9_one_99 ⟨Nat.le_of_ble_eq_true rfl, Nat.le_of_ble_eq_true rfl⟩) (fun u1 H locs hp hW hS => ?_)
                obtain ⟨I68, e9, hI68R, fI68⟩ := hp
                rw [e9] at hW
                have f69 := z_fr_sub (L := L_X9_one_8) f61 fI68 (by decide)
                have k70 : (I68 12 6).toInt ≤ 501 ∧ ((I68 12 7).toInt = 401 ∨ (I68 12 6).toInt ≤ 500) := (by have q0 : (I68 12 6) = (I60 12 6) := (by rw [fI68 12 6 (by decide)]); have q1 : (I68 12 7) = (I60 12 7) := (by rw [fI68 12 7 (by decide)]); show (I68 12 6).toInt ≤ 501 ∧ ((I68 12 7).toInt = 401 ∨ (I68 12 6).toInt ≤ 500); rw [q0, q1]; first | omega | decide)
                have k71 : (I68 12 6).toInt = (I60 12 6).toInt := by rw [fI68 12 6 (by decide)]
                have k72 : (I68 12 7).toInt = (I60 12 7).toInt := by rw [fI68 12 7 (by decide)]
                refine lv_iconst (v := 1) hx hb dX9_one_102 (by decide) ?_
                exact z_zret hx hb hr (by decide) hK hS (Nat.le_of_ble_eq_true rfl) (Nat.le_of_ble_eq_true rfl) hlocks dX9_one_103 (shC c, ad, I68, JX, PC c ad) hW ⟨I68, rfl, ⟨(by show 0 ≤ (I68 12 1).toInt ∧ (I68 12 1).toInt ≤ 500; exact hI68R.1), (by show 0 ≤ (I68 12 5).toInt ∧ (I68 12 5).toInt ≤ 501; exact hI68R.2.1), (by show (-1) ≤ (I68 12 6).toInt ∧ (I68 12 6).toInt ≤ 1000000; exact hI68R.2.2.1), (by show 0 ≤ (I68 12 9).toInt ∧ (I68 12 9).toInt ≤ 500; exact hI68R.2.2.2.1), (by show 0 ≤ (I68 12 13).toInt ∧ (I68 12 13).toInt ≤ 24; exact hI68R.2.2.2.2)⟩, (by show (I68 12 6).toInt ≤ 501 ∧ ((I68 12 7).toInt = 401 ∨ (I68 12 6).toInt ≤ 500); first | omega | decide), f69, Or.inl rfl⟩
              · refine lv_if_ne (tgt := 74) hx hb dX9_one_69 (by decide) (fun c73 => absurd (by decide) c73) (fun c73 => ?_)
                refine lv_iconst (v := 0) hx hb dX9_one_72 (by decide) ?_
                exact z_zret hx hb hr (by decide) hK hS (Nat.le_of_ble_eq_true rfl) (Nat.le_of_ble_eq_true rfl) hlocks dX9_one_73 (shC c, ad, I60, JX, PC c ad) hW ⟨I60, rfl, ⟨(by show 0 ≤ (I60 12 1).toInt ∧ (I60 12 1).toInt ≤ 500; exact hI60R.1), (by show 0 ≤ (I60 12 5).toInt ∧ (I60 12 5).toInt ≤ 501; exact hI60R.2.1), (by show (-1) ≤ (I60 12 6).toInt ∧ (I60 12 6).toInt ≤ 1000000; exact hI60R.2.2.1), (by show 0 ≤ (I60 12 9).toInt ∧ (I60 12 9).toInt ≤ 500; exact hI60R.2.2.2.1), (by show 0 ≤ (I60 12 13).toInt ∧ (I60 12 13).toInt ≤ 24; exact hI60R.2.2.2.2)⟩, (by show (I60 12 6).toInt ≤ 501 ∧ ((I60 12 7).toInt = 401 ∨ (I60 12 6).toInt ≤ 500); first | omega | decide), f61, Or.inr rfl⟩
            · have g74 := z_f_ne rfl z_l61 c55
              refine lv_iconst (v := 0) hx hb dX9_one_58 (by decide) ?_
              exact z_zret hx hb hr (by decide) hK hS (Nat.le_of_ble_eq_true rfl) (Nat.le_of_ble_eq_true rfl) hlocks dX9_one_59 (shC c, ad, I11, JX, PC c ad) hW ⟨I11, rfl, ⟨(by show 0 ≤ (I11 12 1).toInt ∧ (I11 12 1).toInt ≤ 500; exact hI11R.1), (by show 0 ≤ (I11 12 5).toInt ∧ (I11 12 5).toInt ≤ 501; exact hI11R.2.1), (by show (-1) ≤ (I11 12 6).toInt ∧ (I11 12 6).toInt ≤ 1000000; exact hI11R.2.2.1), (by show 0 ≤ (I11 12 9).toInt ∧ (I11 12 9).toInt ≤ 500; exact hI11R.2.2.2.1), (by show 0 ≤ (I11 12 13).toInt ∧ (I11 12 13).toInt ≤ 24; exact hI11R.2.2.2.2)⟩, (by show (I11 12 6).toInt ≤ 501 ∧ ((I11 12 7).toInt = 401 ∨ (I11 12 6).toInt ≤ 500); first | omega | decide), f12, Or.inr rfl⟩
      · refine lv_if_ne (tgt := 35) hx hb dX9_one_30 (by decide) (fun c75 => absurd (by decide) c75) (fun c75 => ?_)
        refine lv_iconst (v := 0) hx hb dX9_one_33 (by decide) ?_
        exact z_zret hx hb hr (by decide) hK hS (Nat.le_of_ble_eq_true rfl) (Nat.le_of_ble_eq_true rfl) hlocks dX9_one_34 (shC c, ad, I11, JX, PC c ad) hW ⟨I11, rfl, ⟨(by show 0 ≤ (I11 12 1).toInt ∧ (I11 12 1).toInt ≤ 500; exact hI11R.1), (by show 0 ≤ (I11 12 5).toInt ∧ (I11 12 5).toInt ≤ 501; exact hI11R.2.1), (by show (-1) ≤ (I11 12 6).toInt ∧ (I11 12 6).toInt ≤ 1000000; exact hI11R.2.2.1), (by show 0 ≤ (I11 12 9).toInt ∧ (I11 12 9).toInt ≤ 500; exact hI11R.2.2.2.1), (by show 0 ≤ (I11 12 13).toInt ∧ (I11 12 13).toInt ≤ 24; exact hI11R.2.2.2.2)⟩, (by show (I11 12 6).toInt ≤ 501 ∧ ((I11 12 7).toInt = 401 ∨ (I11 12 6).toInt ≤ 500); first | omega | decide), f12, Or.inr rfl⟩
    · have g76 := z_f_eq rfl z_l123 c9
      refine lv_aload_n hx hb dX9_one_19 rfl (lv_at hl 0 rfl) ?_
      refine lv_iload_n hx hb dX9_one_20 rfl (lv_at hl 1 rfl) ?_
      refine z_ci hW hS hA (va_runV (As := [.int 8]) (rest := []) ⟨hx, hb, hml, hown, hts⟩ (sx_X9_opened_8 l G ad c I ⟨(by show 0 ≤ (I 12 1).toInt ∧ (I 12 1).toInt ≤ 500; exact hR.1), (by show 0 ≤ (I 12 5).toInt ∧ (I 12 5).toInt ≤ 501; exact hR.2.1), (by show (-1) ≤ (I 12 6).toInt ∧ (I 12 6).toInt ≤ 1000000; exact hR.2.2.1), (by show 0 ≤ (I 12 9).toInt ∧ (I 12 9).toInt ≤ 500; exact hR.2.2.2.1), (by show 0 ≤ (I 12 13).toInt ∧ (I 12 13).toInt ≤ 24; exact hR.2.2.2.2)⟩ (by show (I 12 6).toInt ≤ 501 ∧ ((I 12 7).toInt = 401 ∨ (I 12 6).toInt ≤ 500); first | omega | decide) (by show (I 12 6).toInt ≤ 500; first | omega | decide) _) (cwV 1 hts gX9_one_X9_opened rfl rfl rfl hy_X9_opened ⟨Nat.le_of_ble_eq_true rfl, Nat.le_of_ble_eq_true rfl⟩) (z_preV (i := 12) hK hW rfl rfl) rfl rfl hl.1 rfl (lv_room (Nat.le_of_ble_eq_true rfl)) dX9_one_21 ⟨Nat.le_of_ble_eq_true rfl, Nat.le_of_ble_eq_true rfl⟩) (fun r u1 H locs hp hW hS => ?_)
      obtain ⟨I77, e9, hI77R, hI77T, fI77, hp⟩ := hp
      rw [e9] at hW
      have f78 := z_fr_sub (L := L_X9_one_8) z_fr_0 fI77 (by decide)
      have k79 : (I77 12 6).toInt ≤ 501 ∧ ((I77 12 7).toInt = 401 ∨ (I77 12 6).toInt ≤ 500) := hI77T
      rcases hp with rfl | rfl
      · exact z_zret hx hb hr (by decide) hK hS (Nat.le_of_ble_eq_true rfl) (Nat.le_of_ble_eq_true rfl) hlocks dX9_one_24 (shC c, ad, I77, JX, PC c ad) hW ⟨I77, rfl, ⟨(by show 0 ≤ (I77 12 1).toInt ∧ (I77 12 1).toInt ≤ 500; exact hI77R.1), (by show 0 ≤ (I77 12 5).toInt ∧ (I77 12 5).toInt ≤ 501; exact hI77R.2.1), (by show (-1) ≤ (I77 12 6).toInt ∧ (I77 12 6).toInt ≤ 1000000; exact hI77R.2.2.1), (by show 0 ≤ (I77 12 9).toInt ∧ (I77 12 9).toInt ≤ 500; exact hI77R.2.2.2.1), (by show 0 ≤ (I77 12 13).toInt ∧ (I77 12 13).toInt ≤ 24; exact hI77R.2.2.2.2)⟩, (by show (I77 12 6).toInt ≤ 501 ∧ ((I77 12 7).toInt = 401 ∨ (I77 12 6).toInt ≤ 500); first | omega | decide), f78, Or.inl rfl⟩
      · exact z_zret hx hb hr (by decide) hK hS (Nat.le_of_ble_eq_true rfl) (Nat.le_of_ble_eq_true rfl) hlocks dX9_one_24 (shC c, ad, I77, JX, PC c ad) hW ⟨I77, rfl, ⟨(by show 0 ≤ (I77 12 1).toInt ∧ (I77 12 1).toInt ≤ 500; exact hI77R.1), (by show 0 ≤ (I77 12 5).toInt ∧ (I77 12 5).toInt ≤ 501; exact hI77R.2.1), (by show (-1) ≤ (I77 12 6).toInt ∧ (I77 12 6).toInt ≤ 1000000; exact hI77R.2.2.1), (by show 0 ≤ (I77 12 9).toInt ∧ (I77 12 9).toInt ≤ 500; exact hI77R.2.2.2.1), (by show 0 ≤ (I77 12 13).toInt ∧ (I77 12 13).toInt ≤ 24; exact hI77R.2.2.2.2)⟩, (by show (I77 12 6).toInt ≤ 501 ∧ ((I77 12 7).toInt = 401 ∨ (I77 12 6).toInt ≤ 500); first | omega | decide), f78, Or.inr rfl⟩
noncomputable def L_X9_all_8 : z_L := [(12, 6), (12, 7), (17, 999), (12, 9)]
set_option maxHeartbeats 8000000 in
set_option maxRecDepth 100000 in
theorem sx_X9_all_8 (l : Launch) (G : z_G) (ad : Nat → Nat) (c : z_C) (I : z_I) (hR : z_iR I) (hT : z_iT I) : z_M l yX9_all wsX9_all { frames := 11, cells := 0, slots := 0, locals := 231 } [.ref (ad 12), .int 8] G (shC c, ad, I, JX, PC c ad) (fun r u1 => ∃ I1 : z_I, u1 = (shC c, ad, I1, JX, PC c ad) ∧ z_iR I1 ∧ z_iT I1 ∧ z_fr L_X9_all_8 I1 I ∧ (r = 1 ∨ r = 0)) 0 0 := by
  intro sz
  refine z_headQ (cc := cX9_all) (maxL := 3) (ret := (some .boolean)) (by decide) rfl (Nat.le_of_ble_eq_true rfl) ?_
  intro p e s m below meth c0 ls hIn hK hsz hW hl
  obtain ⟨hx, hb, hr, hml, hown, hts, hlocks, hname⟩ := hIn
  subst hsz
  have hown : s.vm.findClass RX9 = some m.cls := hown
  have hA : ∀ q : Nat, s.heap.size ≤ q → z_A (shC c, ad, I, JX, PC c ad) s.heap.size q := fun q h => Or.inr h
  generalize hAe : z_A (shC c, ad, I, JX, PC c ad) s.heap.size = A at *
  have hS : va_S A s.heap s.heap [] := va_S.rf
  have hl : lv_has ls 3 [(0, .ref (ad 12)), (1, .int 8)] := hl
  have kT : (I 12 6).toInt ≤ 501 ∧ ((I 12 7).toInt = 401 ∨ (I 12 6).toInt ≤ 500) := hT
  refine lv_aload_n hx hb dX9_all_0 rfl (lv_at hl 0 rfl) ?_
  refine lv_iload_n hx hb dX9_all_1 rfl (lv_at hl 1 rfl) ?_
  refine z_ci hW hS hA (va_runV (As := [.int 8]) (rest := []) ⟨hx, hb, hml, hown, hts⟩ (sx_X9_one_8 l G ad c I ⟨(by show 0 ≤ (I 12 1).toInt ∧ (I 12 1).toInt ≤ 500; exact hR.1), (by show 0 ≤ (I 12 5).toInt ∧ (I 12 5).toInt ≤ 501; exact hR.2.1), (by show (-1) ≤ (I 12 6).toInt ∧ (I 12 6).toInt ≤ 1000000; exact hR.2.2.1), (by show 0 ≤ (I 12 9).toInt ∧ (I 12 9).toInt ≤ 500; exact hR.2.2.2.1), (by show 0 ≤ (I 12 13).toInt ∧ (I 12 13).toInt ≤ 24; exact hR.2.2.2.2)⟩ (by show (I 12 6).toInt ≤ 501 ∧ ((I 12 7).toInt = 401 ∨ (I 12 6).toInt ≤ 500); first | omega | decide) _) (cwV 1 hts gX9_all_X9_one rfl rfl rfl hy_X9_one ⟨Nat.le_of_ble_eq_true rfl, Nat.le_of_ble_eq_true rfl⟩) (z_preV (i := 12) hK hW rfl rfl) rfl rfl hl.1 rfl (lv_room (Nat.le_of_ble_eq_true rfl)) dX9_all_2 ⟨Nat.le_of_ble_eq_true rfl, Nat.le_of_ble_eq_true rfl⟩) (fun r u1 H locs hp hW hS => ?_)
  obtain ⟨I1, e9, hI1R, hI1T, fI1, hp⟩ := hp
  rw [e9] at hW
  have f2 := z_fr_sub (L := L_X9_all_8) z_fr_0 fI1 (by decide)
  have k3 : (I1 12 6).toInt ≤ 501 ∧ ((I1 12 7).toInt = 401 ∨ (I1 12 6).toInt ≤ 500) := hI1T
  rcases hp with rfl | rfl
  · refine lv_if_ne (tgt := 10) hx hb dX9_all_5 (by decide) (fun c4 => ?_) (fun c4 => absurd c4 (by decide))
    refine lv_iconst (v := 0) hx hb dX9_all_10 (by decide) ?_
    refine lv_istore_n (lv' := [(2, .int 0), (0, .ref (ad 12)), (1, .int 8)]) hx hb dX9_all_11 rfl hl (by decide) rfl (fun ls hl => ?_)
    have lp5 : ∀ (f : Nat) (y6 : Int32) (I7 : z_I) (H : Heap) (locs : List Loc) (ls : Array Slot), (2147483647 < y6.toInt + (f : Int)) → (0 ≤ y6.toInt) → (z_iR I7) → (z_iT I7) → (z_fr L_X9_all_8 I7 I) → z_W G A (shC c, ad, I7, JX, PC c ad) H → va_S A s.heap H locs → lv_has ls 3 [(2, .int y6), (0, .ref (ad 12)), (1, .int 8)] → W p l e (headSpec wsX9_all { frames := 11, cells := 0, slots := 0, locals := 231 }).room s m ([.ref (ad 12), .int 8] : List Value).toArray below meth c0 H locs 0 0 (MQ below (va_Qi (fun (r : Int32) (u1 : z_U) => ∃ I1 : z_I, u1 = (shC c, ad, I1, JX, PC c ad) ∧ z_iR I1 ∧ z_iT I1 ∧ z_fr L_X9_all_8 I1 I ∧ (r = 1 ∨ r = 0)) (z_B G A) A) ([.ref (ad 12), .int 8] : List Value).toArray s 0 0 A) (F0 m 12 ls []) := by
      intro f
      induction f with
      | zero => intro y6 I7  H locs ls lp5m lp5l2 lp5R lp5T lp5fr hW hS hl; exact absurd lp5m (by have := Int32.toInt_lt y6; have := Int32.le_toInt y6; omega)
      | succ f lp5ih =>
        intro y6 I7  H locs ls lp5m lp5l2 lp5R lp5T lp5fr hW hS hl
        have k8 : (I7 12 6).toInt ≤ 501 ∧ ((I7 12 7).toInt = 401 ∨ (I7 12 6).toInt ≤ 500) := lp5T
        refine lv_iload_n hx hb dX9_all_12 rfl (lv_at hl 0 rfl) ?_
        refine lv_sipush (v := 500) hx hb dX9_all_13 (by decide) ?_
        refine lv_icmp_ge (tgt := 55) hx hb dX9_all_16 (by decide) (fun c9 => ?_) (fun c9 => ?_)
        · have g10 := z_f_ge rfl z_l500 c9
          have b11 := Int32.toInt_lt y6
          refine lv_iconst (v := 1) hx hb dX9_all_55 (by decide) ?_
          exact z_zret hx hb hr (by decide) hK hS (Nat.le_of_ble_eq_true rfl) (Nat.le_of_ble_eq_true rfl) hlocks dX9_all_56 (shC c, ad, I7, JX, PC c ad) hW ⟨I7, rfl, ⟨(by show 0 ≤ (I7 12 1).toInt ∧ (I7 12 1).toInt ≤ 500; exact lp5R.1), (by show 0 ≤ (I7 12 5).toInt ∧ (I7 12 5).toInt ≤ 501; exact lp5R.2.1), (by show (-1) ≤ (I7 12 6).toInt ∧ (I7 12 6).toInt ≤ 1000000; exact lp5R.2.2.1), (by show 0 ≤ (I7 12 9).toInt ∧ (I7 12 9).toInt ≤ 500; exact lp5R.2.2.2.1), (by show 0 ≤ (I7 12 13).toInt ∧ (I7 12 13).toInt ≤ 24; exact lp5R.2.2.2.2)⟩, (by show (I7 12 6).toInt ≤ 501 ∧ ((I7 12 7).toInt = 401 ∨ (I7 12 6).toInt ≤ 500); first | omega | decide), lp5fr, Or.inl rfl⟩
        · have g12 := z_f_nge rfl z_l500 c9
          have b13 := Int32.toInt_lt y6
          refine lv_aload_n hx hb dX9_all_19 rfl (lv_at hl 1 rfl) ?_
          refine z_get (T := TX9) (N := 14) (ci := 9) (i := 12) (v := .int (I7 12 7)) hx hb hts zj_X9_all_X9 hown hK hW rfl rfl 7 (by decide) (hts (.fieldLink RX9 62 "PetrolBoard$Reader" "token" "I") (me_s (me_l (me_l (List.mem_of_getElem? (i := 0) rfl))))) (fun _ h => h) rfl dX9_all_20 ?_
          refine lv_sipush (v := 310) hx hb dX9_all_23 (by decide) ?_
          refine lv_icmp_ne (tgt := 55) hx hb dX9_all_26 (by decide) (fun c14 => ?_) (fun c14 => ?_)
          · have g15 := z_f_ne rfl z_l310 c14
            have b16 := Int32.toInt_lt (I7 12 7)
            refine lv_iconst (v := 1) hx hb dX9_all_55 (by decide) ?_
            exact z_zret hx hb hr (by decide) hK hS (Nat.le_of_ble_eq_true rfl) (Nat.le_of_ble_eq_true rfl) hlocks dX9_all_56 (shC c, ad, I7, JX, PC c ad) hW ⟨I7, rfl, ⟨(by show 0 ≤ (I7 12 1).toInt ∧ (I7 12 1).toInt ≤ 500; exact lp5R.1), (by show 0 ≤ (I7 12 5).toInt ∧ (I7 12 5).toInt ≤ 501; exact lp5R.2.1), (by show (-1) ≤ (I7 12 6).toInt ∧ (I7 12 6).toInt ≤ 1000000; exact lp5R.2.2.1), (by show 0 ≤ (I7 12 9).toInt ∧ (I7 12 9).toInt ≤ 500; exact lp5R.2.2.2.1), (by show 0 ≤ (I7 12 13).toInt ∧ (I7 12 13).toInt ≤ 24; exact lp5R.2.2.2.2)⟩, (by show (I7 12 6).toInt ≤ 501 ∧ ((I7 12 7).toInt = 401 ∨ (I7 12 6).toInt ≤ 500); first | omega | decide), lp5fr, Or.inl rfl⟩
          · have g17 := z_f_eq rfl z_l310 c14
            have b18 := Int32.toInt_lt (I7 12 7)
            refine lv_aload_n hx hb dX9_all_29 rfl (lv_at hl 1 rfl) ?_
            refine z_cv hW hS hA (va_runV (As := []) (rest := []) ⟨hx, hb, hml, hown, hts⟩ (sx_X9_step l G ad c I7 ⟨(by show 0 ≤ (I7 12 1).toInt ∧ (I7 12 1).toInt ≤ 500; exact lp5R.1), (by show 0 ≤ (I7 12 5).toInt ∧ (I7 12 5).toInt ≤ 501; exact lp5R.2.1), (by show (-1) ≤ (I7 12 6).toInt ∧ (I7 12 6).toInt ≤ 1000000; exact lp5R.2.2.1), (by show 0 ≤ (I7 12 9).toInt ∧ (I7 12 9).toInt ≤ 500; exact lp5R.2.2.2.1), (by show 0 ≤ (I7 12 13).toInt ∧ (I7 12 13).toInt ≤ 24; exact lp5R.2.2.2.2)⟩   (by show (I7 12 6).toInt ≤ 500; first | omega | decide) _) (cwV 0 hts gX9_all_X9_step rfl rfl rfl hy_X9_step ⟨Nat.le_of_ble_eq_true rfl, Nat.le_of_ble_eq_true rfl⟩) (z_preV (i := 12) hK hW rfl rfl) rfl rfl hl.1 rfl (lv_room (Nat.le_of_ble_eq_true rfl)) dX9_all_30 ⟨Nat.le_of_ble_eq_true rfl, Nat.le_of_ble_eq_true rfl⟩) (fun u1 H locs hp hW hS => ?_)
            obtain ⟨I19, e9, hI19R, hI19T, fI19⟩ := hp
            rw [e9] at hW
            have f20 := z_fr_sub (L := L_X9_all_8) lp5fr fI19 (by decide)
            have k21 : (I19 12 6).toInt ≤ 501 ∧ ((I19 12 7).toInt = 401 ∨ (I19 12 6).toInt ≤ 500) := hI19T
            refine lv_aload_n hx hb dX9_all_33 rfl (lv_at hl 1 rfl) ?_
            refine lv_iload_n hx hb dX9_all_34 rfl (lv_at hl 2 rfl) ?_
            refine z_ci hW hS hA (va_runV (As := [.int 8]) (rest := []) ⟨hx, hb, hml, hown, hts⟩ (sx_X9_one_8 l G ad c I19 ⟨(by show 0 ≤ (I19 12 1).toInt ∧ (I19 12 1).toInt ≤ 500; exact hI19R.1), (by show 0 ≤ (I19 12 5).toInt ∧ (I19 12 5).toInt ≤ 501; exact hI19R.2.1), (by show (-1) ≤ (I19 12 6).toInt ∧ (I19 12 6).toInt ≤ 1000000; exact hI19R.2.2.1), (by show 0 ≤ (I19 12 9).toInt ∧ (I19 12 9).toInt ≤ 500; exact hI19R.2.2.2.1), (by show 0 ≤ (I19 12 13).toInt ∧ (I19 12 13).toInt ≤ 24; exact hI19R.2.2.2.2)⟩ (by show (I19 12 6).toInt ≤ 501 ∧ ((I19 12 7).toInt = 401 ∨ (I19 12 6).toInt ≤ 500); first | omega | decide) _) (cwV 1 hts gX9_all_X9_one rfl rfl rfl hy_X9_one ⟨Nat.le_of_ble_eq_true rfl, Nat.le_of_ble_eq_true rfl⟩) (z_preV (i := 12) hK hW rfl rfl) rfl rfl hl.1 rfl (lv_room (Nat.le_of_ble_eq_true rfl)) dX9_all_35 ⟨Nat.le_of_ble_eq_true rfl, Nat.le_of_ble_eq_true rfl⟩) (fun r u1 H locs hp hW hS => ?_)
            obtain ⟨I22, e9, hI22R, hI22T, fI22, hp⟩ := hp
            rw [e9] at hW
            have f23 := z_fr_sub (L := L_X9_all_8) f20 fI22 (by decide)
            have k24 : (I22 12 6).toInt ≤ 501 ∧ ((I22 12 7).toInt = 401 ∨ (I22 12 6).toInt ≤ 500) := hI22T
            rcases hp with rfl | rfl
            · refine lv_if_ne (tgt := 43) hx hb dX9_all_38 (by decide) (fun c25 => ?_) (fun c25 => absurd c25 (by decide))
              refine lv_aload_n hx hb dX9_all_43 rfl (lv_at hl 1 rfl) ?_
              refine lv_bipush (v := (-10)) hx hb dX9_all_44 (by decide) ?_
              refine z_cv hW hS hA (va_runV (As := [.int (-10)]) (rest := []) ⟨hx, hb, hml, hown, hts⟩ (sx_X9_emit l G ad c I22 ⟨(by show 0 ≤ (I22 12 1).toInt ∧ (I22 12 1).toInt ≤ 500; exact hI22R.1), (by show 0 ≤ (I22 12 5).toInt ∧ (I22 12 5).toInt ≤ 501; exact hI22R.2.1), (by show (-1) ≤ (I22 12 6).toInt ∧ (I22 12 6).toInt ≤ 1000000; exact hI22R.2.2.1), (by show 0 ≤ (I22 12 9).toInt ∧ (I22 12 9).toInt ≤ 500; exact hI22R.2.2.2.1), (by show 0 ≤ (I22 12 13).toInt ∧ (I22 12 13).toInt ≤ 24; exact hI22R.2.2.2.2)⟩ (-10) _) (cwV 1 hts gX9_all_X9_emit rfl rfl rfl hy_X9_emit ⟨Nat.le_of_ble_eq_true rfl, Nat.le_of_ble_eq_true rfl⟩) (z_preV (i := 12) hK hW rfl rfl) rfl rfl hl.1 rfl (lv_room (Nat.le_of_ble_eq_true rfl)) dX9_all_46 ⟨Nat.le_of_ble_eq_true rfl, Nat.le_of_ble_eq_true rfl⟩) (fun u1 H locs hp hW hS => ?_)
              obtain ⟨I26, e9, hI26R, fI26⟩ := hp
              rw [e9] at hW
              have f27 := z_fr_sub (L := L_X9_all_8) f23 fI26 (by decide)
              have k28 : (I26 12 6).toInt ≤ 501 ∧ ((I26 12 7).toInt = 401 ∨ (I26 12 6).toInt ≤ 500) := (by have q0 : (I26 12 6) = (I22 12 6) := (by rw [fI26 12 6 (by decide)]); have q1 : (I26 12 7) = (I22 12 7) := (by rw [fI26 12 7 (by decide)]); show (I26 12 6).toInt ≤ 501 ∧ ((I26 12 7).toInt = 401 ∨ (I26 12 6).toInt ≤ 500); rw [q0, q1]; first | omega | decide)
              have k29 : (I26 12 6).toInt = (I22 12 6).toInt := by rw [fI26 12 6 (by decide)]
              have k30 : (I26 12 7).toInt = (I22 12 7).toInt := by rw [fI26 12 7 (by decide)]
              obtain ⟨x31, ex31⟩ : ∃ y : Int32, y = y6 + 1 := ⟨_, rfl⟩
              have tx31 : x31.toInt = y6.toInt + 1 := z_tadd ex31 rfl z_l1 (by omega) (by omega)
              refine lv_iinc (v := x31) (lv' := [(2, .int x31), (0, .ref (ad 12)), (1, .int 8)]) hx hb dX9_all_49 hl (k := 0) rfl (by rw [ex31]; rfl) (by decide) rfl (fun ls hl => ?_)
              refine lv_goto (tgt := 12) hx hb dX9_all_52 (by decide) ?_
              exact lp5ih x31 I26  _ _ _ (by omega) (by omega) ⟨(by show 0 ≤ (I26 12 1).toInt ∧ (I26 12 1).toInt ≤ 500; exact hI26R.1), (by show 0 ≤ (I26 12 5).toInt ∧ (I26 12 5).toInt ≤ 501; exact hI26R.2.1), (by show (-1) ≤ (I26 12 6).toInt ∧ (I26 12 6).toInt ≤ 1000000; exact hI26R.2.2.1), (by show 0 ≤ (I26 12 9).toInt ∧ (I26 12 9).toInt ≤ 500; exact hI26R.2.2.2.1), (by show 0 ≤ (I26 12 13).toInt ∧ (I26 12 13).toInt ≤ 24; exact hI26R.2.2.2.2)⟩ (by show (I26 12 6).toInt ≤ 501 ∧ ((I26 12 7).toInt = 401 ∨ (I26 12 6).toInt ≤ 500); first | omega | decide) f27 hW hS (lv_sub hl [0, 1, 2] rfl)
            · refine lv_if_ne (tgt := 43) hx hb dX9_all_38 (by decide) (fun c32 => absurd (by decide) c32) (fun c32 => ?_)
              refine lv_iconst (v := 0) hx hb dX9_all_41 (by decide) ?_
              exact z_zret hx hb hr (by decide) hK hS (Nat.le_of_ble_eq_true rfl) (Nat.le_of_ble_eq_true rfl) hlocks dX9_all_42 (shC c, ad, I22, JX, PC c ad) hW ⟨I22, rfl, ⟨(by show 0 ≤ (I22 12 1).toInt ∧ (I22 12 1).toInt ≤ 500; exact hI22R.1), (by show 0 ≤ (I22 12 5).toInt ∧ (I22 12 5).toInt ≤ 501; exact hI22R.2.1), (by show (-1) ≤ (I22 12 6).toInt ∧ (I22 12 6).toInt ≤ 1000000; exact hI22R.2.2.1), (by show 0 ≤ (I22 12 9).toInt ∧ (I22 12 9).toInt ≤ 500; exact hI22R.2.2.2.1), (by show 0 ≤ (I22 12 13).toInt ∧ (I22 12 13).toInt ≤ 24; exact hI22R.2.2.2.2)⟩, (by show (I22 12 6).toInt ≤ 501 ∧ ((I22 12 7).toInt = 401 ∨ (I22 12 6).toInt ≤ 500); first | omega | decide), f23, Or.inr rfl⟩
    exact lp5 4294967296 (0) I1  _ _ _ (z_m0u _) (by rw [z_l0]; omega) ⟨(by show 0 ≤ (I1 12 1).toInt ∧ (I1 12 1).toInt ≤ 500; exact hI1R.1), (by show 0 ≤ (I1 12 5).toInt ∧ (I1 12 5).toInt ≤ 501; exact hI1R.2.1), (by show (-1) ≤ (I1 12 6).toInt ∧ (I1 12 6).toInt ≤ 1000000; exact hI1R.2.2.1), (by show 0 ≤ (I1 12 9).toInt ∧ (I1 12 9).toInt ≤ 500; exact hI1R.2.2.2.1), (by show 0 ≤ (I1 12 13).toInt ∧ (I1 12 13).toInt ≤ 24; exact hI1R.2.2.2.2)⟩ (by show (I1 12 6).toInt ≤ 501 ∧ ((I1 12 7).toInt = 401 ∨ (I1 12 6).toInt ≤ 500); first | omega | decide) f2 hW hS (lv_sub hl [0, 1, 2] rfl)
  · refine lv_if_ne (tgt := 10) hx hb dX9_all_5 (by decide) (fun c33 => absurd (by decide) c33) (fun c33 => ?_)
    refine lv_iconst (v := 0) hx hb dX9_all_8 (by decide) ?_
    exact z_zret hx hb hr (by decide) hK hS (Nat.le_of_ble_eq_true rfl) (Nat.le_of_ble_eq_true rfl) hlocks dX9_all_9 (shC c, ad, I1, JX, PC c ad) hW ⟨I1, rfl, ⟨(by show 0 ≤ (I1 12 1).toInt ∧ (I1 12 1).toInt ≤ 500; exact hI1R.1), (by show 0 ≤ (I1 12 5).toInt ∧ (I1 12 5).toInt ≤ 501; exact hI1R.2.1), (by show (-1) ≤ (I1 12 6).toInt ∧ (I1 12 6).toInt ≤ 1000000; exact hI1R.2.2.1), (by show 0 ≤ (I1 12 9).toInt ∧ (I1 12 9).toInt ≤ 500; exact hI1R.2.2.2.1), (by show 0 ≤ (I1 12 13).toInt ∧ (I1 12 13).toInt ≤ 24; exact hI1R.2.2.2.2)⟩, (by show (I1 12 6).toInt ≤ 501 ∧ ((I1 12 7).toInt = 401 ∨ (I1 12 6).toInt ≤ 500); first | omega | decide), f2, Or.inr rfl⟩
noncomputable def L_X9_either_8 : z_L := [(12, 6), (12, 7), (17, 999), (12, 9)]
set_option maxHeartbeats 8000000 in
set_option maxRecDepth 100000 in
theorem sx_X9_either_8 (l : Launch) (G : z_G) (ad : Nat → Nat) (c : z_C) (I : z_I) (hR : z_iR I) (hT : z_iT I) : z_M l yX9_either wsX9_either { frames := 12, cells := 0, slots := 0, locals := 253 } [.ref (ad 12), .int 8] G (shC c, ad, I, JX, PC c ad) (fun r u1 => ∃ I1 : z_I, u1 = (shC c, ad, I1, JX, PC c ad) ∧ z_iR I1 ∧ z_iT I1 ∧ z_fr L_X9_either_8 I1 I ∧ (r = 1 ∨ r = 0)) 0 0 := by
  intro sz
  refine z_headQ (cc := cX9_either) (maxL := 3) (ret := (some .boolean)) (by decide) rfl (Nat.le_of_ble_eq_true rfl) ?_
  intro p e s m below meth c0 ls hIn hK hsz hW hl
  obtain ⟨hx, hb, hr, hml, hown, hts, hlocks, hname⟩ := hIn
  subst hsz
  have hown : s.vm.findClass RX9 = some m.cls := hown
  have hA : ∀ q : Nat, s.heap.size ≤ q → z_A (shC c, ad, I, JX, PC c ad) s.heap.size q := fun q h => Or.inr h
  generalize hAe : z_A (shC c, ad, I, JX, PC c ad) s.heap.size = A at *
  have hS : va_S A s.heap s.heap [] := va_S.rf
  have hl : lv_has ls 3 [(0, .ref (ad 12)), (1, .int 8)] := hl
  have kT : (I 12 6).toInt ≤ 501 ∧ ((I 12 7).toInt = 401 ∨ (I 12 6).toInt ≤ 500) := hT
  refine lv_aload_n hx hb dX9_either_0 rfl (lv_at hl 0 rfl) ?_
  refine lv_iload_n hx hb dX9_either_1 rfl (lv_at hl 1 rfl) ?_
  refine z_ci hW hS hA (va_runV (As := [.int 8]) (rest := []) ⟨hx, hb, hml, hown, hts⟩ (sx_X9_all_8 l G ad c I ⟨(by show 0 ≤ (I 12 1).toInt ∧ (I 12 1).toInt ≤ 500; exact hR.1), (by show 0 ≤ (I 12 5).toInt ∧ (I 12 5).toInt ≤ 501; exact hR.2.1), (by show (-1) ≤ (I 12 6).toInt ∧ (I 12 6).toInt ≤ 1000000; exact hR.2.2.1), (by show 0 ≤ (I 12 9).toInt ∧ (I 12 9).toInt ≤ 500; exact hR.2.2.2.1), (by show 0 ≤ (I 12 13).toInt ∧ (I 12 13).toInt ≤ 24; exact hR.2.2.2.2)⟩ (by show (I 12 6).toInt ≤ 501 ∧ ((I 12 7).toInt = 401 ∨ (I 12 6).toInt ≤ 500); first | omega | decide) _) (cwV 1 hts gX9_either_X9_all rfl rfl rfl hy_X9_all ⟨Nat.le_of_ble_eq_true rfl, Nat.le_of_ble_eq_true rfl⟩) (z_preV (i := 12) hK hW rfl rfl) rfl rfl hl.1 rfl (lv_room (Nat.le_of_ble_eq_true rfl)) dX9_either_2 ⟨Nat.le_of_ble_eq_true rfl, Nat.le_of_ble_eq_true rfl⟩) (fun r u1 H locs hp hW hS => ?_)
  obtain ⟨I1, e9, hI1R, hI1T, fI1, hp⟩ := hp
  rw [e9] at hW
  have f2 := z_fr_sub (L := L_X9_either_8) z_fr_0 fI1 (by decide)
  have k3 : (I1 12 6).toInt ≤ 501 ∧ ((I1 12 7).toInt = 401 ∨ (I1 12 6).toInt ≤ 500) := hI1T
  rcases hp with rfl | rfl
  · refine lv_if_ne (tgt := 10) hx hb dX9_either_5 (by decide) (fun c4 => ?_) (fun c4 => absurd c4 (by decide))
    refine lv_iconst (v := 0) hx hb dX9_either_10 (by decide) ?_
    refine lv_istore_n (lv' := [(2, .int 0), (0, .ref (ad 12)), (1, .int 8)]) hx hb dX9_either_11 rfl hl (by decide) rfl (fun ls hl => ?_)
    have lp5 : ∀ (f : Nat) (y6 : Int32) (I7 : z_I) (H : Heap) (locs : List Loc) (ls : Array Slot), (2147483647 < y6.toInt + (f : Int)) → (0 ≤ y6.toInt) → (z_iR I7) → (z_iT I7) → (z_fr L_X9_either_8 I7 I) → z_W G A (shC c, ad, I7, JX, PC c ad) H → va_S A s.heap H locs → lv_has ls 3 [(2, .int y6), (0, .ref (ad 12)), (1, .int 8)] → W p l e (headSpec wsX9_either { frames := 12, cells := 0, slots := 0, locals := 253 }).room s m ([.ref (ad 12), .int 8] : List Value).toArray below meth c0 H locs 0 0 (MQ below (va_Qi (fun (r : Int32) (u1 : z_U) => ∃ I1 : z_I, u1 = (shC c, ad, I1, JX, PC c ad) ∧ z_iR I1 ∧ z_iT I1 ∧ z_fr L_X9_either_8 I1 I ∧ (r = 1 ∨ r = 0)) (z_B G A) A) ([.ref (ad 12), .int 8] : List Value).toArray s 0 0 A) (F0 m 12 ls []) := by
      intro f
      induction f with
      | zero => intro y6 I7  H locs ls lp5m lp5l2 lp5R lp5T lp5fr hW hS hl; exact absurd lp5m (by have := Int32.toInt_lt y6; have := Int32.le_toInt y6; omega)
      | succ f lp5ih =>
        intro y6 I7  H locs ls lp5m lp5l2 lp5R lp5T lp5fr hW hS hl
        have k8 : (I7 12 6).toInt ≤ 501 ∧ ((I7 12 7).toInt = 401 ∨ (I7 12 6).toInt ≤ 500) := lp5T
        refine lv_iload_n hx hb dX9_either_12 rfl (lv_at hl 0 rfl) ?_
        refine lv_sipush (v := 500) hx hb dX9_either_13 (by decide) ?_
        refine lv_icmp_ge (tgt := 55) hx hb dX9_either_16 (by decide) (fun c9 => ?_) (fun c9 => ?_)
        · have g10 := z_f_ge rfl z_l500 c9
          have b11 := Int32.toInt_lt y6
          refine lv_iconst (v := 1) hx hb dX9_either_55 (by decide) ?_
          exact z_zret hx hb hr (by decide) hK hS (Nat.le_of_ble_eq_true rfl) (Nat.le_of_ble_eq_true rfl) hlocks dX9_either_56 (shC c, ad, I7, JX, PC c ad) hW ⟨I7, rfl, ⟨(by show 0 ≤ (I7 12 1).toInt ∧ (I7 12 1).toInt ≤ 500; exact lp5R.1), (by show 0 ≤ (I7 12 5).toInt ∧ (I7 12 5).toInt ≤ 501; exact lp5R.2.1), (by show (-1) ≤ (I7 12 6).toInt ∧ (I7 12 6).toInt ≤ 1000000; exact lp5R.2.2.1), (by show 0 ≤ (I7 12 9).toInt ∧ (I7 12 9).toInt ≤ 500; exact lp5R.2.2.2.1), (by show 0 ≤ (I7 12 13).toInt ∧ (I7 12 13).toInt ≤ 24; exact lp5R.2.2.2.2)⟩, (by show (I7 12 6).toInt ≤ 501 ∧ ((I7 12 7).toInt = 401 ∨ (I7 12 6).toInt ≤ 500); first | omega | decide), lp5fr, Or.inl rfl⟩
        · have g12 := z_f_nge rfl z_l500 c9
          have b13 := Int32.toInt_lt y6
          refine lv_aload_n hx hb dX9_either_19 rfl (lv_at hl 1 rfl) ?_
          refine z_get (T := TX9) (N := 14) (ci := 9) (i := 12) (v := .int (I7 12 7)) hx hb hts zj_X9_either_X9 hown hK hW rfl rfl 7 (by decide) (hts (.fieldLink RX9 62 "PetrolBoard$Reader" "token" "I") (me_s (me_l (me_l (List.mem_of_getElem? (i := 0) rfl))))) (fun _ h => h) rfl dX9_either_20 ?_
          refine lv_sipush (v := 309) hx hb dX9_either_23 (by decide) ?_
          refine lv_icmp_ne (tgt := 55) hx hb dX9_either_26 (by decide) (fun c14 => ?_) (fun c14 => ?_)
          · have g15 := z_f_ne rfl z_l309 c14
            have b16 := Int32.toInt_lt (I7 12 7)
            refine lv_iconst (v := 1) hx hb dX9_either_55 (by decide) ?_
            exact z_zret hx hb hr (by decide) hK hS (Nat.le_of_ble_eq_true rfl) (Nat.le_of_ble_eq_true rfl) hlocks dX9_either_56 (shC c, ad, I7, JX, PC c ad) hW ⟨I7, rfl, ⟨(by show 0 ≤ (I7 12 1).toInt ∧ (I7 12 1).toInt ≤ 500; exact lp5R.1), (by show 0 ≤ (I7 12 5).toInt ∧ (I7 12 5).toInt ≤ 501; exact lp5R.2.1), (by show (-1) ≤ (I7 12 6).toInt ∧ (I7 12 6).toInt ≤ 1000000; exact lp5R.2.2.1), (by show 0 ≤ (I7 12 9).toInt ∧ (I7 12 9).toInt ≤ 500; exact lp5R.2.2.2.1), (by show 0 ≤ (I7 12 13).toInt ∧ (I7 12 13).toInt ≤ 24; exact lp5R.2.2.2.2)⟩, (by show (I7 12 6).toInt ≤ 501 ∧ ((I7 12 7).toInt = 401 ∨ (I7 12 6).toInt ≤ 500); first | omega | decide), lp5fr, Or.inl rfl⟩
          · have g17 := z_f_eq rfl z_l309 c14
            have b18 := Int32.toInt_lt (I7 12 7)
            refine lv_aload_n hx hb dX9_either_29 rfl (lv_at hl 1 rfl) ?_
            refine z_cv hW hS hA (va_runV (As := []) (rest := []) ⟨hx, hb, hml, hown, hts⟩ (sx_X9_step l G ad c I7 ⟨(by show 0 ≤ (I7 12 1).toInt ∧ (I7 12 1).toInt ≤ 500; exact lp5R.1), (by show 0 ≤ (I7 12 5).toInt ∧ (I7 12 5).toInt ≤ 501; exact lp5R.2.1), (by show (-1) ≤ (I7 12 6).toInt ∧ (I7 12 6).toInt ≤ 1000000; exact lp5R.2.2.1), (by show 0 ≤ (I7 12 9).toInt ∧ (I7 12 9).toInt ≤ 500; exact lp5R.2.2.2.1), (by show 0 ≤ (I7 12 13).toInt ∧ (I7 12 13).toInt ≤ 24; exact lp5R.2.2.2.2)⟩   (by show (I7 12 6).toInt ≤ 500; first | omega | decide) _) (cwV 0 hts gX9_either_X9_step rfl rfl rfl hy_X9_step ⟨Nat.le_of_ble_eq_true rfl, Nat.le_of_ble_eq_true rfl⟩) (z_preV (i := 12) hK hW rfl rfl) rfl rfl hl.1 rfl (lv_room (Nat.le_of_ble_eq_true rfl)) dX9_either_30 ⟨Nat.le_of_ble_eq_true rfl, Nat.le_of_ble_eq_true rfl⟩) (fun u1 H locs hp hW hS => ?_)
            obtain ⟨I19, e9, hI19R, hI19T, fI19⟩ := hp
            rw [e9] at hW
            have f20 := z_fr_sub (L := L_X9_either_8) lp5fr fI19 (by decide)
            have k21 : (I19 12 6).toInt ≤ 501 ∧ ((I19 12 7).toInt = 401 ∨ (I19 12 6).toInt ≤ 500) := hI19T
            refine lv_aload_n hx hb dX9_either_33 rfl (lv_at hl 1 rfl) ?_
            refine lv_iload_n hx hb dX9_either_34 rfl (lv_at hl 2 rfl) ?_
            refine z_ci hW hS hA (va_runV (As := [.int 8]) (rest := []) ⟨hx, hb, hml, hown, hts⟩ (sx_X9_all_8 l G ad c I19 ⟨(by show 0 ≤ (I19 12 1).toInt ∧ (I19 12 1).toInt ≤ 500; exact hI19R.1), (by show 0 ≤ (I19 12 5).toInt ∧ (I19 12 5).toInt ≤ 501; exact hI19R.2.1), (by show (-1) ≤ (I19 12 6).toInt ∧ (I19 12 6).toInt ≤ 1000000; exact hI19R.2.2.1), (by show 0 ≤ (I19 12 9).toInt ∧ (I19 12 9).toInt ≤ 500; exact hI19R.2.2.2.1), (by show 0 ≤ (I19 12 13).toInt ∧ (I19 12 13).toInt ≤ 24; exact hI19R.2.2.2.2)⟩ (by show (I19 12 6).toInt ≤ 501 ∧ ((I19 12 7).toInt = 401 ∨ (I19 12 6).toInt ≤ 500); first | omega | decide) _) (cwV 1 hts gX9_either_X9_all rfl rfl rfl hy_X9_all ⟨Nat.le_of_ble_eq_true rfl, Nat.le_of_ble_eq_true rfl⟩) (z_preV (i := 12) hK hW rfl rfl) rfl rfl hl.1 rfl (lv_room (Nat.le_of_ble_eq_true rfl)) dX9_either_35 ⟨Nat.le_of_ble_eq_true rfl, Nat.le_of_ble_eq_true rfl⟩) (fun r u1 H locs hp hW hS => ?_)
            obtain ⟨I22, e9, hI22R, hI22T, fI22, hp⟩ := hp
            rw [e9] at hW
            have f23 := z_fr_sub (L := L_X9_either_8) f20 fI22 (by decide)
            have k24 : (I22 12 6).toInt ≤ 501 ∧ ((I22 12 7).toInt = 401 ∨ (I22 12 6).toInt ≤ 500) := hI22T
            rcases hp with rfl | rfl
            · refine lv_if_ne (tgt := 43) hx hb dX9_either_38 (by decide) (fun c25 => ?_) (fun c25 => absurd c25 (by decide))
              refine lv_aload_n hx hb dX9_either_43 rfl (lv_at hl 1 rfl) ?_
              refine lv_bipush (v := (-11)) hx hb dX9_either_44 (by decide) ?_
              refine z_cv hW hS hA (va_runV (As := [.int (-11)]) (rest := []) ⟨hx, hb, hml, hown, hts⟩ (sx_X9_emit l G ad c I22 ⟨(by show 0 ≤ (I22 12 1).toInt ∧ (I22 12 1).toInt ≤ 500; exact hI22R.1), (by show 0 ≤ (I22 12 5).toInt ∧ (I22 12 5).toInt ≤ 501; exact hI22R.2.1), (by show (-1) ≤ (I22 12 6).toInt ∧ (I22 12 6).toInt ≤ 1000000; exact hI22R.2.2.1), (by show 0 ≤ (I22 12 9).toInt ∧ (I22 12 9).toInt ≤ 500; exact hI22R.2.2.2.1), (by show 0 ≤ (I22 12 13).toInt ∧ (I22 12 13).toInt ≤ 24; exact hI22R.2.2.2.2)⟩ (-11) _) (cwV 1 hts gX9_either_X9_emit rfl rfl rfl hy_X9_emit ⟨Nat.le_of_ble_eq_true rfl, Nat.le_of_ble_eq_true rfl⟩) (z_preV (i := 12) hK hW rfl rfl) rfl rfl hl.1 rfl (lv_room (Nat.le_of_ble_eq_true rfl)) dX9_either_46 ⟨Nat.le_of_ble_eq_true rfl, Nat.le_of_ble_eq_true rfl⟩) (fun u1 H locs hp hW hS => ?_)
              obtain ⟨I26, e9, hI26R, fI26⟩ := hp
              rw [e9] at hW
              have f27 := z_fr_sub (L := L_X9_either_8) f23 fI26 (by decide)
              have k28 : (I26 12 6).toInt ≤ 501 ∧ ((I26 12 7).toInt = 401 ∨ (I26 12 6).toInt ≤ 500) := (by have q0 : (I26 12 6) = (I22 12 6) := (by rw [fI26 12 6 (by decide)]); have q1 : (I26 12 7) = (I22 12 7) := (by rw [fI26 12 7 (by decide)]); show (I26 12 6).toInt ≤ 501 ∧ ((I26 12 7).toInt = 401 ∨ (I26 12 6).toInt ≤ 500); rw [q0, q1]; first | omega | decide)
              have k29 : (I26 12 6).toInt = (I22 12 6).toInt := by rw [fI26 12 6 (by decide)]
              have k30 : (I26 12 7).toInt = (I22 12 7).toInt := by rw [fI26 12 7 (by decide)]
              obtain ⟨x31, ex31⟩ : ∃ y : Int32, y = y6 + 1 := ⟨_, rfl⟩
              have tx31 : x31.toInt = y6.toInt + 1 := z_tadd ex31 rfl z_l1 (by omega) (by omega)
              refine lv_iinc (v := x31) (lv' := [(2, .int x31), (0, .ref (ad 12)), (1, .int 8)]) hx hb dX9_either_49 hl (k := 0) rfl (by rw [ex31]; rfl) (by decide) rfl (fun ls hl => ?_)
              refine lv_goto (tgt := 12) hx hb dX9_either_52 (by decide) ?_
              exact lp5ih x31 I26  _ _ _ (by omega) (by omega) ⟨(by show 0 ≤ (I26 12 1).toInt ∧ (I26 12 1).toInt ≤ 500; exact hI26R.1), (by show 0 ≤ (I26 12 5).toInt ∧ (I26 12 5).toInt ≤ 501; exact hI26R.2.1), (by show (-1) ≤ (I26 12 6).toInt ∧ (I26 12 6).toInt ≤ 1000000; exact hI26R.2.2.1), (by show 0 ≤ (I26 12 9).toInt ∧ (I26 12 9).toInt ≤ 500; exact hI26R.2.2.2.1), (by show 0 ≤ (I26 12 13).toInt ∧ (I26 12 13).toInt ≤ 24; exact hI26R.2.2.2.2)⟩ (by show (I26 12 6).toInt ≤ 501 ∧ ((I26 12 7).toInt = 401 ∨ (I26 12 6).toInt ≤ 500); first | omega | decide) f27 hW hS (lv_sub hl [0, 1, 2] rfl)
            · refine lv_if_ne (tgt := 43) hx hb dX9_either_38 (by decide) (fun c32 => absurd (by decide) c32) (fun c32 => ?_)
              refine lv_iconst (v := 0) hx hb dX9_either_41 (by decide) ?_
              exact z_zret hx hb hr (by decide) hK hS (Nat.le_of_ble_eq_true rfl) (Nat.le_of_ble_eq_true rfl) hlocks dX9_either_42 (shC c, ad, I22, JX, PC c ad) hW ⟨I22, rfl, ⟨(by show 0 ≤ (I22 12 1).toInt ∧ (I22 12 1).toInt ≤ 500; exact hI22R.1), (by show 0 ≤ (I22 12 5).toInt ∧ (I22 12 5).toInt ≤ 501; exact hI22R.2.1), (by show (-1) ≤ (I22 12 6).toInt ∧ (I22 12 6).toInt ≤ 1000000; exact hI22R.2.2.1), (by show 0 ≤ (I22 12 9).toInt ∧ (I22 12 9).toInt ≤ 500; exact hI22R.2.2.2.1), (by show 0 ≤ (I22 12 13).toInt ∧ (I22 12 13).toInt ≤ 24; exact hI22R.2.2.2.2)⟩, (by show (I22 12 6).toInt ≤ 501 ∧ ((I22 12 7).toInt = 401 ∨ (I22 12 6).toInt ≤ 500); first | omega | decide), f23, Or.inr rfl⟩
    exact lp5 4294967296 (0) I1  _ _ _ (z_m0u _) (by rw [z_l0]; omega) ⟨(by show 0 ≤ (I1 12 1).toInt ∧ (I1 12 1).toInt ≤ 500; exact hI1R.1), (by show 0 ≤ (I1 12 5).toInt ∧ (I1 12 5).toInt ≤ 501; exact hI1R.2.1), (by show (-1) ≤ (I1 12 6).toInt ∧ (I1 12 6).toInt ≤ 1000000; exact hI1R.2.2.1), (by show 0 ≤ (I1 12 9).toInt ∧ (I1 12 9).toInt ≤ 500; exact hI1R.2.2.2.1), (by show 0 ≤ (I1 12 13).toInt ∧ (I1 12 13).toInt ≤ 24; exact hI1R.2.2.2.2)⟩ (by show (I1 12 6).toInt ≤ 501 ∧ ((I1 12 7).toInt = 401 ∨ (I1 12 6).toInt ≤ 500); first | omega | decide) f2 hW hS (lv_sub hl [0, 1, 2] rfl)
  · refine lv_if_ne (tgt := 10) hx hb dX9_either_5 (by decide) (fun c33 => absurd (by decide) c33) (fun c33 => ?_)
    refine lv_iconst (v := 0) hx hb dX9_either_8 (by decide) ?_
    exact z_zret hx hb hr (by decide) hK hS (Nat.le_of_ble_eq_true rfl) (Nat.le_of_ble_eq_true rfl) hlocks dX9_either_9 (shC c, ad, I1, JX, PC c ad) hW ⟨I1, rfl, ⟨(by show 0 ≤ (I1 12 1).toInt ∧ (I1 12 1).toInt ≤ 500; exact hI1R.1), (by show 0 ≤ (I1 12 5).toInt ∧ (I1 12 5).toInt ≤ 501; exact hI1R.2.1), (by show (-1) ≤ (I1 12 6).toInt ∧ (I1 12 6).toInt ≤ 1000000; exact hI1R.2.2.1), (by show 0 ≤ (I1 12 9).toInt ∧ (I1 12 9).toInt ≤ 500; exact hI1R.2.2.2.1), (by show 0 ≤ (I1 12 13).toInt ∧ (I1 12 13).toInt ≤ 24; exact hI1R.2.2.2.2)⟩, (by show (I1 12 6).toInt ≤ 501 ∧ ((I1 12 7).toInt = 401 ∨ (I1 12 6).toInt ≤ 500); first | omega | decide), f2, Or.inr rfl⟩
