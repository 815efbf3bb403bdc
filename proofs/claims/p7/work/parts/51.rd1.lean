theorem dX9_put_0 : decode cX9_put 0 = .ok (.bipush 24, 2) := by decide +kernel
theorem dX9_put_2 : decode cX9_put 2 = .ok (.istore_n 2, 1) := by decide +kernel
theorem dX9_put_3 : decode cX9_put 3 = .ok (.iload_n 2, 1) := by decide +kernel
theorem dX9_put_4 : decode cX9_put 4 = .ok (.ifCond .lt 47, 3) := by decide +kernel
theorem dX9_put_51 : decode cX9_put 51 = .ok (.return_, 1) := by decide +kernel
theorem dX9_put_7 : decode cX9_put 7 = .ok (.aload_n 0, 1) := by decide +kernel
theorem dX9_put_8 : decode cX9_put 8 = .ok (.getfield 36, 3) := by decide +kernel
theorem dX9_put_11 : decode cX9_put 11 = .ok (.aload_n 0, 1) := by decide +kernel
theorem dX9_put_12 : decode cX9_put 12 = .ok (.getfield 9, 3) := by decide +kernel
theorem dX9_put_15 : decode cX9_put 15 = .ok (.arraylength, 1) := by decide +kernel
theorem dX9_put_16 : decode cX9_put 16 = .ok (.if_icmp .ge 35, 3) := by decide +kernel
theorem dX9_put_19 : decode cX9_put 19 = .ok (.aload_n 0, 1) := by decide +kernel
theorem dX9_put_20 : decode cX9_put 20 = .ok (.getfield 9, 3) := by decide +kernel
theorem dX9_put_23 : decode cX9_put 23 = .ok (.aload_n 0, 1) := by decide +kernel
theorem dX9_put_24 : decode cX9_put 24 = .ok (.getfield 36, 3) := by decide +kernel
theorem dX9_put_27 : decode cX9_put 27 = .ok (.iload_n 1, 1) := by decide +kernel
theorem dX9_put_28 : decode cX9_put 28 = .ok (.iload_n 2, 1) := by decide +kernel
theorem dX9_put_29 : decode cX9_put 29 = .ok (.iushr, 1) := by decide +kernel
theorem dX9_put_30 : decode cX9_put 30 = .ok (.sipush 255, 3) := by decide +kernel
theorem dX9_put_33 : decode cX9_put 33 = .ok (.iand, 1) := by decide +kernel
theorem dX9_put_34 : decode cX9_put 34 = .ok (.iastore, 1) := by decide +kernel
theorem dX9_put_35 : decode cX9_put 35 = .ok (.aload_n 0, 1) := by decide +kernel
theorem dX9_put_36 : decode cX9_put 36 = .ok (.dup, 1) := by decide +kernel
theorem dX9_put_37 : decode cX9_put 37 = .ok (.getfield 36, 3) := by decide +kernel
theorem dX9_put_40 : decode cX9_put 40 = .ok (.iconst 1, 1) := by decide +kernel
theorem dX9_put_41 : decode cX9_put 41 = .ok (.iadd, 1) := by decide +kernel
theorem dX9_put_42 : decode cX9_put 42 = .ok (.putfield 36, 3) := by decide +kernel
theorem dX9_put_45 : decode cX9_put 45 = .ok (.iinc 2 (-8), 3) := by decide +kernel
theorem dX9_put_48 : decode cX9_put 48 = .ok (.goto (-45), 3) := by decide +kernel
theorem dX9_step_0 : decode cX9_step 0 = .ok (.aload_n 0, 1) := by decide +kernel
theorem dX9_step_1 : decode cX9_step 1 = .ok (.dup, 1) := by decide +kernel
theorem dX9_step_2 : decode cX9_step 2 = .ok (.getfield 56, 3) := by decide +kernel
theorem dX9_step_5 : decode cX9_step 5 = .ok (.iconst 1, 1) := by decide +kernel
theorem dX9_step_6 : decode cX9_step 6 = .ok (.iadd, 1) := by decide +kernel
theorem dX9_step_7 : decode cX9_step 7 = .ok (.putfield 56, 3) := by decide +kernel
theorem dX9_step_10 : decode cX9_step 10 = .ok (.aload_n 0, 1) := by decide +kernel
theorem dX9_step_11 : decode cX9_step 11 = .ok (.aload_n 0, 1) := by decide +kernel
theorem dX9_step_12 : decode cX9_step 12 = .ok (.getfield 56, 3) := by decide +kernel
theorem dX9_step_15 : decode cX9_step 15 = .ok (.aload_n 0, 1) := by decide +kernel
theorem dX9_step_16 : decode cX9_step 16 = .ok (.getfield 76, 3) := by decide +kernel
theorem dX9_step_19 : decode cX9_step 19 = .ok (.if_icmp .ge 27, 3) := by decide +kernel
theorem dX9_step_46 : decode cX9_step 46 = .ok (.sipush 401, 3) := by decide +kernel
theorem dX9_step_49 : decode cX9_step 49 = .ok (.putfield 62, 3) := by decide +kernel
theorem dX9_step_52 : decode cX9_step 52 = .ok (.return_, 1) := by decide +kernel
theorem dX9_step_22 : decode cX9_step 22 = .ok (.aload_n 0, 1) := by decide +kernel
theorem dX9_step_23 : decode cX9_step 23 = .ok (.getfield 56, 3) := by decide +kernel
theorem dX9_step_26 : decode cX9_step 26 = .ok (.aload_n 0, 1) := by decide +kernel
theorem dX9_step_27 : decode cX9_step 27 = .ok (.getfield 15, 3) := by decide +kernel
theorem dX9_step_30 : decode cX9_step 30 = .ok (.arraylength, 1) := by decide +kernel
theorem dX9_step_31 : decode cX9_step 31 = .ok (.if_icmp .ge 15, 3) := by decide +kernel
theorem dX9_step_34 : decode cX9_step 34 = .ok (.aload_n 0, 1) := by decide +kernel
theorem dX9_step_35 : decode cX9_step 35 = .ok (.getfield 15, 3) := by decide +kernel
theorem dX9_step_38 : decode cX9_step 38 = .ok (.aload_n 0, 1) := by decide +kernel
theorem dX9_step_39 : decode cX9_step 39 = .ok (.getfield 56, 3) := by decide +kernel
theorem dX9_step_42 : decode cX9_step 42 = .ok (.iaload, 1) := by decide +kernel
theorem dX9_step_43 : decode cX9_step 43 = .ok (.goto 6, 3) := by decide +kernel
theorem dX9_taken_0 : decode cX9_taken 0 = .ok (.aload_n 0, 1) := by decide +kernel
theorem dX9_taken_1 : decode cX9_taken 1 = .ok (.getfield 62, 3) := by decide +kernel
theorem dX9_taken_4 : decode cX9_taken 4 = .ok (.iload_n 1, 1) := by decide +kernel
theorem dX9_taken_5 : decode cX9_taken 5 = .ok (.if_icmp .eq 5, 3) := by decide +kernel
theorem dX9_taken_10 : decode cX9_taken 10 = .ok (.aload_n 0, 1) := by decide +kernel
set_option maxRecDepth 20000 in
theorem ggX9_taken_X9_step : GoodIn wsX9_taken wsX9_step := goodIn_sub (fa_c (me_s (me_l (List.mem_of_getElem? (i := 5) rfl))) (fa_a (fa_c (me_s (me_l (List.mem_of_getElem? (i := 6) rfl))) (fa_c (me_s (me_l (List.mem_of_getElem? (i := 7) rfl))) (fa_c (me_s (me_l (List.mem_of_getElem? (i := 8) rfl))) (fa_c (me_s (me_l (List.mem_of_getElem? (i := 0) rfl))) fa_n)))) (fun w h => (me_s (me_r h))))) (by decide +kernel)
set_option maxRecDepth 20000 in
theorem gX9_taken_X9_step : GoodIn wsX9_taken (wsV RX9 59 RX9 yX9_step wsX9_step) := goodIn_app (goodIn_sub (fa_c (me_s (me_l (List.mem_of_getElem? (i := 1) rfl))) (fa_c (me_s (me_l (List.mem_of_getElem? (i := 2) rfl))) (fa_c (me_s (me_l (List.mem_of_getElem? (i := 3) rfl))) (fa_c (me_s (me_l (List.mem_of_getElem? (i := 4) rfl))) fa_n)))) (by decide +kernel)) ggX9_taken_X9_step
theorem dX9_taken_11 : decode cX9_taken 11 = .ok (.invokevirtual 59, 3) := by decide +kernel
theorem dX9_taken_14 : decode cX9_taken 14 = .ok (.iconst 1, 1) := by decide +kernel
theorem dX9_taken_15 : decode cX9_taken 15 = .ok (.ireturn, 1) := by decide +kernel
theorem dX9_taken_8 : decode cX9_taken 8 = .ok (.iconst 0, 1) := by decide +kernel
theorem dX9_taken_9 : decode cX9_taken 9 = .ok (.ireturn, 1) := by decide +kernel
theorem dX9_emit_0 : decode cX9_emit 0 = .ok (.aload_n 0, 1) := by decide +kernel
theorem dX9_emit_1 : decode cX9_emit 1 = .ok (.getfield 50, 3) := by decide +kernel
theorem dX9_emit_4 : decode cX9_emit 4 = .ok (.aload_n 0, 1) := by decide +kernel
theorem dX9_emit_5 : decode cX9_emit 5 = .ok (.getfield 24, 3) := by decide +kernel
theorem dX9_emit_8 : decode cX9_emit 8 = .ok (.arraylength, 1) := by decide +kernel
theorem dX9_emit_9 : decode cX9_emit 9 = .ok (.if_icmp .ge 23, 3) := by decide +kernel
theorem dX9_emit_32 : decode cX9_emit 32 = .ok (.return_, 1) := by decide +kernel
theorem dX9_emit_12 : decode cX9_emit 12 = .ok (.aload_n 0, 1) := by decide +kernel
theorem dX9_emit_13 : decode cX9_emit 13 = .ok (.getfield 24, 3) := by decide +kernel
theorem dX9_emit_16 : decode cX9_emit 16 = .ok (.aload_n 0, 1) := by decide +kernel
theorem dX9_emit_17 : decode cX9_emit 17 = .ok (.getfield 50, 3) := by decide +kernel
theorem dX9_emit_20 : decode cX9_emit 20 = .ok (.iload_n 1, 1) := by decide +kernel
theorem dX9_emit_21 : decode cX9_emit 21 = .ok (.iastore, 1) := by decide +kernel
theorem dX9_emit_22 : decode cX9_emit 22 = .ok (.aload_n 0, 1) := by decide +kernel
theorem dX9_emit_23 : decode cX9_emit 23 = .ok (.dup, 1) := by decide +kernel
theorem dX9_emit_24 : decode cX9_emit 24 = .ok (.getfield 50, 3) := by decide +kernel
theorem dX9_emit_27 : decode cX9_emit 27 = .ok (.iconst 1, 1) := by decide +kernel
theorem dX9_emit_28 : decode cX9_emit 28 = .ok (.iadd, 1) := by decide +kernel
theorem dX9_emit_29 : decode cX9_emit 29 = .ok (.putfield 50, 3) := by decide +kernel
theorem dX9_numberHere_0 : decode cX9_numberHere 0 = .ok (.aload_n 0, 1) := by decide +kernel
theorem dX9_numberHere_1 : decode cX9_numberHere 1 = .ok (.getfield 56, 3) := by decide +kernel
theorem dX9_numberHere_4 : decode cX9_numberHere 4 = .ok (.ifCond .lt 27, 3) := by decide +kernel
theorem dX9_numberHere_31 : decode cX9_numberHere 31 = .ok (.iconst 0, 1) := by decide +kernel
theorem dX9_numberHere_32 : decode cX9_numberHere 32 = .ok (.ireturn, 1) := by decide +kernel
theorem dX9_numberHere_7 : decode cX9_numberHere 7 = .ok (.aload_n 0, 1) := by decide +kernel
theorem dX9_numberHere_8 : decode cX9_numberHere 8 = .ok (.getfield 56, 3) := by decide +kernel
theorem dX9_numberHere_11 : decode cX9_numberHere 11 = .ok (.aload_n 0, 1) := by decide +kernel
theorem dX9_numberHere_12 : decode cX9_numberHere 12 = .ok (.getfield 18, 3) := by decide +kernel
theorem dX9_numberHere_15 : decode cX9_numberHere 15 = .ok (.arraylength, 1) := by decide +kernel
theorem dX9_numberHere_16 : decode cX9_numberHere 16 = .ok (.if_icmp .ge 15, 3) := by decide +kernel
theorem dX9_numberHere_19 : decode cX9_numberHere 19 = .ok (.aload_n 0, 1) := by decide +kernel
theorem dX9_numberHere_20 : decode cX9_numberHere 20 = .ok (.getfield 18, 3) := by decide +kernel
theorem dX9_numberHere_23 : decode cX9_numberHere 23 = .ok (.aload_n 0, 1) := by decide +kernel
theorem dX9_numberHere_24 : decode cX9_numberHere 24 = .ok (.getfield 56, 3) := by decide +kernel
theorem dX9_numberHere_27 : decode cX9_numberHere 27 = .ok (.iaload, 1) := by decide +kernel
theorem dX9_numberHere_28 : decode cX9_numberHere 28 = .ok (.goto 4, 3) := by decide +kernel
theorem dX9_place_0 : decode cX9_place 0 = .ok (.aload_n 0, 1) := by decide +kernel
theorem dX9_place_1 : decode cX9_place 1 = .ok (.getfield 56, 3) := by decide +kernel
theorem dX9_place_4 : decode cX9_place 4 = .ok (.ifCond .lt 38, 3) := by decide +kernel
theorem dX9_place_42 : decode cX9_place 42 = .ok (.iconst 0, 1) := by decide +kernel
theorem dX9_place_43 : decode cX9_place 43 = .ok (.ireturn, 1) := by decide +kernel
theorem dX9_place_7 : decode cX9_place 7 = .ok (.aload_n 0, 1) := by decide +kernel
theorem dX9_place_8 : decode cX9_place 8 = .ok (.getfield 56, 3) := by decide +kernel
theorem dX9_place_11 : decode cX9_place 11 = .ok (.aload_n 0, 1) := by decide +kernel
theorem dX9_place_12 : decode cX9_place 12 = .ok (.getfield 76, 3) := by decide +kernel
theorem dX9_place_15 : decode cX9_place 15 = .ok (.if_icmp .ge 27, 3) := by decide +kernel
theorem dX9_place_18 : decode cX9_place 18 = .ok (.aload_n 0, 1) := by decide +kernel
theorem dX9_place_19 : decode cX9_place 19 = .ok (.getfield 56, 3) := by decide +kernel
theorem dX9_place_22 : decode cX9_place 22 = .ok (.aload_n 0, 1) := by decide +kernel
theorem dX9_place_23 : decode cX9_place 23 = .ok (.getfield 21, 3) := by decide +kernel
theorem dX9_place_26 : decode cX9_place 26 = .ok (.arraylength, 1) := by decide +kernel
theorem dX9_place_27 : decode cX9_place 27 = .ok (.if_icmp .ge 15, 3) := by decide +kernel
theorem dX9_place_30 : decode cX9_place 30 = .ok (.aload_n 0, 1) := by decide +kernel
theorem dX9_place_31 : decode cX9_place 31 = .ok (.getfield 21, 3) := by decide +kernel
theorem dX9_place_34 : decode cX9_place 34 = .ok (.aload_n 0, 1) := by decide +kernel
theorem dX9_place_35 : decode cX9_place 35 = .ok (.getfield 56, 3) := by decide +kernel
theorem dX9_place_38 : decode cX9_place 38 = .ok (.iaload, 1) := by decide +kernel
theorem dX9_place_39 : decode cX9_place 39 = .ok (.goto 4, 3) := by decide +kernel
theorem dX9_atom_0 : decode cX9_atom 0 = .ok (.aload_n 0, 1) := by decide +kernel
theorem dX9_atom_1 : decode cX9_atom 1 = .ok (.getfield 62, 3) := by decide +kernel
theorem dX9_atom_4 : decode cX9_atom 4 = .ok (.sipush 400, 3) := by decide +kernel
theorem dX9_atom_7 : decode cX9_atom 7 = .ok (.if_icmp .eq 23, 3) := by decide +kernel
theorem dX9_atom_30 : decode cX9_atom 30 = .ok (.aload_n 0, 1) := by decide +kernel
theorem dX9_atom_31 : decode cX9_atom 31 = .ok (.aload_n 0, 1) := by decide +kernel
theorem dX9_atom_32 : decode cX9_atom 32 = .ok (.getfield 62, 3) := by decide +kernel
theorem dX9_atom_35 : decode cX9_atom 35 = .ok (.sipush 400, 3) := by decide +kernel
theorem dX9_atom_38 : decode cX9_atom 38 = .ok (.if_icmp .ne 10, 3) := by decide +kernel
theorem dX9_atom_41 : decode cX9_atom 41 = .ok (.aload_n 0, 1) := by decide +kernel
set_option maxRecDepth 20000 in
theorem ggX9_atom_X9_numberHere : GoodIn wsX9_atom wsX9_numberHere := goodIn_sub (fa_c (me_s (me_l (me_l (List.mem_of_getElem? (i := 5) rfl)))) (fa_a (fa_c (me_s (me_l (me_l (List.mem_of_getElem? (i := 6) rfl)))) (fa_c (me_s (me_l (me_l (List.mem_of_getElem? (i := 7) rfl)))) fa_n)) (fun w h => (me_s (me_r h))))) (by decide +kernel)
set_option maxRecDepth 20000 in
theorem gX9_atom_X9_numberHere : GoodIn wsX9_atom (wsV RX9 94 RX9 yX9_numberHere wsX9_numberHere) := goodIn_app (goodIn_sub (fa_c (me_s (me_l (me_l (List.mem_of_getElem? (i := 1) rfl)))) (fa_c (me_s (me_l (me_l (List.mem_of_getElem? (i := 2) rfl)))) (fa_c (me_s (me_l (me_l (List.mem_of_getElem? (i := 3) rfl)))) (fa_c (me_s (me_l (me_l (List.mem_of_getElem? (i := 4) rfl)))) fa_n)))) (by decide +kernel)) ggX9_atom_X9_numberHere
theorem dX9_atom_42 : decode cX9_atom 42 = .ok (.invokevirtual 94, 3) := by decide +kernel
theorem dX9_atom_45 : decode cX9_atom 45 = .ok (.goto 14, 3) := by decide +kernel
set_option maxRecDepth 20000 in
theorem ggX9_atom_X9_emit : GoodIn wsX9_atom wsX9_emit := goodIn_sub (fa_c (me_s (me_l (me_l (List.mem_of_getElem? (i := 11) rfl)))) (fa_a (fa_c (me_s (me_l (me_l (List.mem_of_getElem? (i := 12) rfl)))) (fa_c (me_s (me_l (me_l (List.mem_of_getElem? (i := 13) rfl)))) fa_n)) (fun w h => (me_s (me_r h))))) (by decide +kernel)
set_option maxRecDepth 20000 in
theorem gX9_atom_X9_emit : GoodIn wsX9_atom (wsV RX9 82 RX9 yX9_emit wsX9_emit) := goodIn_app (goodIn_sub (fa_c (me_s (me_l (me_l (List.mem_of_getElem? (i := 8) rfl)))) (fa_c (me_s (me_l (me_l (List.mem_of_getElem? (i := 9) rfl)))) (fa_c (me_s (me_l (me_l (List.mem_of_getElem? (i := 10) rfl)))) (fa_c (me_s (me_l (me_l (List.mem_of_getElem? (i := 4) rfl)))) fa_n)))) (by decide +kernel)) ggX9_atom_X9_emit
theorem dX9_atom_59 : decode cX9_atom 59 = .ok (.invokevirtual 82, 3) := by decide +kernel
theorem dX9_atom_62 : decode cX9_atom 62 = .ok (.aload_n 0, 1) := by decide +kernel
set_option maxRecDepth 20000 in
theorem ggX9_atom_X9_step : GoodIn wsX9_atom wsX9_step := goodIn_sub (fa_c (me_s (me_l (me_l (List.mem_of_getElem? (i := 17) rfl)))) (fa_a (fa_c (me_s (me_l (me_l (List.mem_of_getElem? (i := 6) rfl)))) (fa_c (me_s (me_l (me_l (List.mem_of_getElem? (i := 18) rfl)))) (fa_c (me_s (me_l (me_l (List.mem_of_getElem? (i := 19) rfl)))) (fa_c (me_s (me_l (me_l (List.mem_of_getElem? (i := 0) rfl)))) fa_n)))) (fun w h => (me_s (me_r h))))) (by decide +kernel)
set_option maxRecDepth 20000 in
theorem gX9_atom_X9_step : GoodIn wsX9_atom (wsV RX9 59 RX9 yX9_step wsX9_step) := goodIn_app (goodIn_sub (fa_c (me_s (me_l (me_l (List.mem_of_getElem? (i := 14) rfl)))) (fa_c (me_s (me_l (me_l (List.mem_of_getElem? (i := 15) rfl)))) (fa_c (me_s (me_l (me_l (List.mem_of_getElem? (i := 16) rfl)))) (fa_c (me_s (me_l (me_l (List.mem_of_getElem? (i := 4) rfl)))) fa_n)))) (by decide +kernel)) ggX9_atom_X9_step
theorem dX9_atom_63 : decode cX9_atom 63 = .ok (.invokevirtual 59, 3) := by decide +kernel
theorem dX9_atom_66 : decode cX9_atom 66 = .ok (.iconst 1, 1) := by decide +kernel
theorem dX9_atom_67 : decode cX9_atom 67 = .ok (.ireturn, 1) := by decide +kernel
theorem dX9_atom_10 : decode cX9_atom 10 = .ok (.aload_n 0, 1) := by decide +kernel
theorem dX9_atom_11 : decode cX9_atom 11 = .ok (.getfield 62, 3) := by decide +kernel
theorem dX9_atom_14 : decode cX9_atom 14 = .ok (.sipush 314, 3) := by decide +kernel
theorem dX9_atom_17 : decode cX9_atom 17 = .ok (.if_icmp .lt 51, 3) := by decide +kernel
theorem dX9_atom_68 : decode cX9_atom 68 = .ok (.aload_n 0, 1) := by decide +kernel
theorem dX9_atom_69 : decode cX9_atom 69 = .ok (.getfield 62, 3) := by decide +kernel
theorem dX9_atom_72 : decode cX9_atom 72 = .ok (.istore_n 2, 1) := by decide +kernel
theorem dX9_atom_73 : decode cX9_atom 73 = .ok (.iload_n 2, 1) := by decide +kernel
theorem dX9_atom_74 : decode cX9_atom 74 = .ok (.bipush 40, 2) := by decide +kernel
theorem dX9_atom_76 : decode cX9_atom 76 = .ok (.if_icmp .eq 17, 3) := by decide +kernel
theorem dX9_atom_93 : decode cX9_atom 93 = .ok (.iload_n 1, 1) := by decide +kernel
theorem dX9_atom_94 : decode cX9_atom 94 = .ok (.bipush 9, 2) := by decide +kernel
theorem dX9_atom_96 : decode cX9_atom 96 = .ok (.if_icmp .lt 5, 3) := by decide +kernel
theorem dX9_atom_99 : decode cX9_atom 99 = .ok (.iconst 0, 1) := by decide +kernel
theorem dX9_atom_100 : decode cX9_atom 100 = .ok (.ireturn, 1) := by decide +kernel
theorem dX9_atom_79 : decode cX9_atom 79 = .ok (.iload_n 2, 1) := by decide +kernel
theorem dX9_atom_80 : decode cX9_atom 80 = .ok (.sipush 312, 3) := by decide +kernel
theorem dX9_atom_83 : decode cX9_atom 83 = .ok (.if_icmp .eq 10, 3) := by decide +kernel
theorem dX9_atom_86 : decode cX9_atom 86 = .ok (.iload_n 2, 1) := by decide +kernel
theorem dX9_atom_87 : decode cX9_atom 87 = .ok (.sipush 313, 3) := by decide +kernel
theorem dX9_atom_90 : decode cX9_atom 90 = .ok (.if_icmp .ne 9, 3) := by decide +kernel
theorem dX9_atom_20 : decode cX9_atom 20 = .ok (.aload_n 0, 1) := by decide +kernel
theorem dX9_atom_21 : decode cX9_atom 21 = .ok (.getfield 62, 3) := by decide +kernel
theorem dX9_atom_24 : decode cX9_atom 24 = .ok (.sipush 320, 3) := by decide +kernel
theorem dX9_atom_27 : decode cX9_atom 27 = .ok (.if_icmp .gt 41, 3) := by decide +kernel
theorem dX9_atom_48 : decode cX9_atom 48 = .ok (.bipush (-20), 2) := by decide +kernel
theorem dX9_atom_50 : decode cX9_atom 50 = .ok (.aload_n 0, 1) := by decide +kernel
theorem dX9_atom_51 : decode cX9_atom 51 = .ok (.getfield 62, 3) := by decide +kernel
theorem dX9_atom_54 : decode cX9_atom 54 = .ok (.sipush 314, 3) := by decide +kernel
theorem dX9_atom_57 : decode cX9_atom 57 = .ok (.isub, 1) := by decide +kernel
theorem dX9_atom_58 : decode cX9_atom 58 = .ok (.isub, 1) := by decide +kernel
theorem dX9_product_0 : decode cX9_product 0 = .ok (.aload_n 0, 1) := by decide +kernel
theorem dX9_product_1 : decode cX9_product 1 = .ok (.iload_n 1, 1) := by decide +kernel
set_option maxRecDepth 20000 in
theorem ggX9_product_X9_atom : GoodIn wsX9_product wsX9_atom := goodIn_sub (fa_c (me_s (me_l (me_l (List.mem_of_getElem? (i := 18) rfl)))) (fa_a (fa_a (fa_c (me_s (me_l (me_l (List.mem_of_getElem? (i := 0) rfl)))) (fa_c (me_s (me_l (me_l (List.mem_of_getElem? (i := 19) rfl)))) (fa_c (me_s (me_l (me_l (List.mem_of_getElem? (i := 20) rfl)))) (fa_c (me_s (me_l (me_l (List.mem_of_getElem? (i := 21) rfl)))) (fa_c (me_s (me_l (me_l (List.mem_of_getElem? (i := 4) rfl)))) (fa_c (me_s (me_l (me_l (List.mem_of_getElem? (i := 22) rfl)))) (fa_c (me_s (me_l (me_l (List.mem_of_getElem? (i := 9) rfl)))) (fa_c (me_s (me_l (me_l (List.mem_of_getElem? (i := 23) rfl)))) (fa_c (me_s (me_l (me_l (List.mem_of_getElem? (i := 12) rfl)))) (fa_c (me_s (me_l (me_l (List.mem_of_getElem? (i := 13) rfl)))) (fa_c (me_s (me_l (me_l (List.mem_of_getElem? (i := 14) rfl)))) (fa_c (me_s (me_l (me_l (List.mem_of_getElem? (i := 15) rfl)))) (fa_c (me_s (me_l (me_l (List.mem_of_getElem? (i := 16) rfl)))) (fa_c (me_s (me_l (me_l (List.mem_of_getElem? (i := 17) rfl)))) (fa_c (me_s (me_l (me_l (List.mem_of_getElem? (i := 5) rfl)))) (fa_c (me_s (me_l (me_l (List.mem_of_getElem? (i := 6) rfl)))) (fa_c (me_s (me_l (me_l (List.mem_of_getElem? (i := 7) rfl)))) (fa_c (me_s (me_l (me_l (List.mem_of_getElem? (i := 8) rfl)))) (fa_c (me_s (me_l (me_l (List.mem_of_getElem? (i := 10) rfl)))) (fa_c (me_s (me_l (me_l (List.mem_of_getElem? (i := 11) rfl)))) (fa_c (me_s (me_l (me_r (List.mem_of_getElem? (i := 0) rfl)))) (fa_c (me_s (me_l (me_r (List.mem_of_getElem? (i := 1) rfl)))) (fa_c (me_s (me_l (me_r (List.mem_of_getElem? (i := 2) rfl)))) (fa_c (me_s (me_l (me_r (List.mem_of_getElem? (i := 3) rfl)))) fa_n)))))))))))))))))))))))) (fa_c (me_s (me_l (me_r (List.mem_of_getElem? (i := 4) rfl)))) (fa_c (me_s (me_l (me_r (List.mem_of_getElem? (i := 5) rfl)))) (fa_c (me_s (me_l (me_r (List.mem_of_getElem? (i := 6) rfl)))) (fa_c me_0 (fa_c (me_s (me_l (me_l (List.mem_of_getElem? (i := 1) rfl)))) (fa_c (me_s (me_l (me_l (List.mem_of_getElem? (i := 2) rfl)))) (fa_c (me_s (me_l (me_l (List.mem_of_getElem? (i := 3) rfl)))) (fa_c (me_s (me_l (me_r (List.mem_of_getElem? (i := 7) rfl)))) (fa_c (me_s (me_l (me_r (List.mem_of_getElem? (i := 8) rfl)))) (fa_c (me_s (me_l (me_r (List.mem_of_getElem? (i := 9) rfl)))) (fa_c (me_s (me_l (me_r (List.mem_of_getElem? (i := 10) rfl)))) fa_n)))))))))))) (fun w h => (me_s (me_r h))))) (by decide +kernel)
set_option maxRecDepth 20000 in
theorem gX9_product_X9_atom : GoodIn wsX9_product (wsV RX9 109 RX9 yX9_atom wsX9_atom) := goodIn_app (goodIn_sub (fa_c (me_s (me_l (me_l (List.mem_of_getElem? (i := 1) rfl)))) (fa_c (me_s (me_l (me_l (List.mem_of_getElem? (i := 2) rfl)))) (fa_c (me_s (me_l (me_l (List.mem_of_getElem? (i := 3) rfl)))) (fa_c (me_s (me_l (me_l (List.mem_of_getElem? (i := 4) rfl)))) fa_n)))) (by decide +kernel)) ggX9_product_X9_atom
theorem dX9_product_2 : decode cX9_product 2 = .ok (.invokevirtual 109, 3) := by decide +kernel
theorem dX9_product_5 : decode cX9_product 5 = .ok (.ifCond .ne 5, 3) := by decide +kernel
theorem dX9_product_10 : decode cX9_product 10 = .ok (.iconst 0, 1) := by decide +kernel
theorem dX9_product_11 : decode cX9_product 11 = .ok (.istore_n 2, 1) := by decide +kernel
theorem dX9_product_12 : decode cX9_product 12 = .ok (.iload_n 2, 1) := by decide +kernel
theorem dX9_product_13 : decode cX9_product 13 = .ok (.sipush 500, 3) := by decide +kernel
theorem dX9_product_16 : decode cX9_product 16 = .ok (.if_icmp .ge 63, 3) := by decide +kernel
theorem dX9_product_79 : decode cX9_product 79 = .ok (.iconst 1, 1) := by decide +kernel
theorem dX9_product_80 : decode cX9_product 80 = .ok (.ireturn, 1) := by decide +kernel
theorem dX9_product_19 : decode cX9_product 19 = .ok (.aload_n 0, 1) := by decide +kernel
theorem dX9_product_20 : decode cX9_product 20 = .ok (.getfield 62, 3) := by decide +kernel
theorem dX9_product_23 : decode cX9_product 23 = .ok (.bipush 42, 2) := by decide +kernel
theorem dX9_product_25 : decode cX9_product 25 = .ok (.if_icmp .eq 12, 3) := by decide +kernel
theorem dX9_product_37 : decode cX9_product 37 = .ok (.aload_n 0, 1) := by decide +kernel
theorem dX9_product_38 : decode cX9_product 38 = .ok (.getfield 62, 3) := by decide +kernel
theorem dX9_product_41 : decode cX9_product 41 = .ok (.istore_n 3, 1) := by decide +kernel
theorem dX9_product_42 : decode cX9_product 42 = .ok (.aload_n 0, 1) := by decide +kernel
set_option maxRecDepth 20000 in
theorem ggX9_product_X9_step : GoodIn wsX9_product wsX9_step := goodIn_sub (fa_c (me_s (me_l (me_l (List.mem_of_getElem? (i := 8) rfl)))) (fa_a (fa_c (me_s (me_l (me_l (List.mem_of_getElem? (i := 9) rfl)))) (fa_c (me_s (me_l (me_l (List.mem_of_getElem? (i := 10) rfl)))) (fa_c (me_s (me_l (me_l (List.mem_of_getElem? (i := 11) rfl)))) (fa_c (me_s (me_l (me_l (List.mem_of_getElem? (i := 0) rfl)))) fa_n)))) (fun w h => (me_s (me_r h))))) (by decide +kernel)
set_option maxRecDepth 20000 in
theorem gX9_product_X9_step : GoodIn wsX9_product (wsV RX9 59 RX9 yX9_step wsX9_step) := goodIn_app (goodIn_sub (fa_c (me_s (me_l (me_l (List.mem_of_getElem? (i := 5) rfl)))) (fa_c (me_s (me_l (me_l (List.mem_of_getElem? (i := 6) rfl)))) (fa_c (me_s (me_l (me_l (List.mem_of_getElem? (i := 7) rfl)))) (fa_c (me_s (me_l (me_l (List.mem_of_getElem? (i := 4) rfl)))) fa_n)))) (by decide +kernel)) ggX9_product_X9_step
theorem dX9_product_43 : decode cX9_product 43 = .ok (.invokevirtual 59, 3) := by decide +kernel
theorem dX9_product_46 : decode cX9_product 46 = .ok (.aload_n 0, 1) := by decide +kernel
theorem dX9_product_47 : decode cX9_product 47 = .ok (.iload_n 1, 1) := by decide +kernel
theorem dX9_product_48 : decode cX9_product 48 = .ok (.invokevirtual 109, 3) := by decide +kernel
theorem dX9_product_51 : decode cX9_product 51 = .ok (.ifCond .ne 5, 3) := by decide +kernel
theorem dX9_product_56 : decode cX9_product 56 = .ok (.aload_n 0, 1) := by decide +kernel
theorem dX9_product_57 : decode cX9_product 57 = .ok (.iload_n 3, 1) := by decide +kernel
theorem dX9_product_58 : decode cX9_product 58 = .ok (.bipush 42, 2) := by decide +kernel
theorem dX9_product_60 : decode cX9_product 60 = .ok (.if_icmp .ne 8, 3) := by decide +kernel
theorem dX9_product_63 : decode cX9_product 63 = .ok (.bipush (-3), 2) := by decide +kernel
theorem dX9_product_65 : decode cX9_product 65 = .ok (.goto 5, 3) := by decide +kernel
set_option maxRecDepth 20000 in
theorem ggX9_product_X9_emit : GoodIn wsX9_product wsX9_emit := goodIn_sub (fa_c (me_s (me_l (me_l (List.mem_of_getElem? (i := 15) rfl)))) (fa_a (fa_c (me_s (me_l (me_l (List.mem_of_getElem? (i := 16) rfl)))) (fa_c (me_s (me_l (me_l (List.mem_of_getElem? (i := 17) rfl)))) fa_n)) (fun w h => (me_s (me_r h))))) (by decide +kernel)
set_option maxRecDepth 20000 in
theorem gX9_product_X9_emit : GoodIn wsX9_product (wsV RX9 82 RX9 yX9_emit wsX9_emit) := goodIn_app (goodIn_sub (fa_c (me_s (me_l (me_l (List.mem_of_getElem? (i := 12) rfl)))) (fa_c (me_s (me_l (me_l (List.mem_of_getElem? (i := 13) rfl)))) (fa_c (me_s (me_l (me_l (List.mem_of_getElem? (i := 14) rfl)))) (fa_c (me_s (me_l (me_l (List.mem_of_getElem? (i := 4) rfl)))) fa_n)))) (by decide +kernel)) ggX9_product_X9_emit
theorem dX9_product_70 : decode cX9_product 70 = .ok (.invokevirtual 82, 3) := by decide +kernel
theorem dX9_product_73 : decode cX9_product 73 = .ok (.iinc 2 1, 3) := by decide +kernel
theorem dX9_product_76 : decode cX9_product 76 = .ok (.goto (-64), 3) := by decide +kernel
theorem dX9_product_54 : decode cX9_product 54 = .ok (.iconst 0, 1) := by decide +kernel
theorem dX9_product_55 : decode cX9_product 55 = .ok (.ireturn, 1) := by decide +kernel
theorem dX9_product_28 : decode cX9_product 28 = .ok (.aload_n 0, 1) := by decide +kernel
theorem dX9_product_29 : decode cX9_product 29 = .ok (.getfield 62, 3) := by decide +kernel
theorem dX9_product_32 : decode cX9_product 32 = .ok (.bipush 47, 2) := by decide +kernel
theorem dX9_product_34 : decode cX9_product 34 = .ok (.if_icmp .ne 45, 3) := by decide +kernel
theorem dX9_product_68 : decode cX9_product 68 = .ok (.bipush (-4), 2) := by decide +kernel
theorem dX9_product_8 : decode cX9_product 8 = .ok (.iconst 0, 1) := by decide +kernel
theorem dX9_product_9 : decode cX9_product 9 = .ok (.ireturn, 1) := by decide +kernel
theorem dX9_sum_0 : decode cX9_sum 0 = .ok (.aload_n 0, 1) := by decide +kernel
theorem dX9_sum_1 : decode cX9_sum 1 = .ok (.iload_n 1, 1) := by decide +kernel
set_option maxRecDepth 20000 in
theorem ggX9_sum_X9_product : GoodIn wsX9_sum wsX9_product := goodIn_sub (fa_c (me_s (me_l (me_r (List.mem_of_getElem? (i := 7) rfl)))) (fa_a (fa_a (fa_c (me_s (me_l (me_l (List.mem_of_getElem? (i := 0) rfl)))) (fa_c (me_s (me_l (me_r (List.mem_of_getElem? (i := 8) rfl)))) (fa_c (me_s (me_l (me_r (List.mem_of_getElem? (i := 9) rfl)))) (fa_c (me_s (me_l (me_r (List.mem_of_getElem? (i := 10) rfl)))) (fa_c (me_s (me_l (me_l (List.mem_of_getElem? (i := 4) rfl)))) (fa_c (me_s (me_l (me_l (List.mem_of_getElem? (i := 5) rfl)))) (fa_c (me_s (me_l (me_l (List.mem_of_getElem? (i := 6) rfl)))) (fa_c (me_s (me_l (me_l (List.mem_of_getElem? (i := 7) rfl)))) (fa_c (me_s (me_l (me_l (List.mem_of_getElem? (i := 8) rfl)))) (fa_c (me_s (me_l (me_l (List.mem_of_getElem? (i := 9) rfl)))) (fa_c (me_s (me_l (me_l (List.mem_of_getElem? (i := 10) rfl)))) (fa_c (me_s (me_l (me_l (List.mem_of_getElem? (i := 11) rfl)))) (fa_c (me_s (me_l (me_l (List.mem_of_getElem? (i := 12) rfl)))) (fa_c (me_s (me_l (me_l (List.mem_of_getElem? (i := 13) rfl)))) (fa_c (me_s (me_l (me_l (List.mem_of_getElem? (i := 14) rfl)))) (fa_c (me_s (me_l (me_l (List.mem_of_getElem? (i := 15) rfl)))) (fa_c (me_s (me_l (me_l (List.mem_of_getElem? (i := 16) rfl)))) (fa_c (me_s (me_l (me_l (List.mem_of_getElem? (i := 17) rfl)))) (fa_c (me_s (me_l (me_l (List.mem_of_getElem? (i := 18) rfl)))) (fa_c (me_s (me_l (me_l (List.mem_of_getElem? (i := 19) rfl)))) (fa_c (me_s (me_l (me_l (List.mem_of_getElem? (i := 20) rfl)))) (fa_c (me_s (me_l (me_l (List.mem_of_getElem? (i := 21) rfl)))) (fa_c (me_s (me_l (me_l (List.mem_of_getElem? (i := 22) rfl)))) (fa_c (me_s (me_l (me_l (List.mem_of_getElem? (i := 23) rfl)))) fa_n)))))))))))))))))))))))) (fa_c (me_s (me_l (me_r (List.mem_of_getElem? (i := 0) rfl)))) (fa_c (me_s (me_l (me_r (List.mem_of_getElem? (i := 1) rfl)))) (fa_c (me_s (me_l (me_r (List.mem_of_getElem? (i := 2) rfl)))) (fa_c (me_s (me_l (me_r (List.mem_of_getElem? (i := 3) rfl)))) (fa_c (me_s (me_l (me_r (List.mem_of_getElem? (i := 4) rfl)))) (fa_c (me_s (me_l (me_r (List.mem_of_getElem? (i := 5) rfl)))) (fa_c (me_s (me_l (me_r (List.mem_of_getElem? (i := 6) rfl)))) (fa_c me_0 (fa_c (me_s (me_l (me_l (List.mem_of_getElem? (i := 1) rfl)))) (fa_c (me_s (me_l (me_l (List.mem_of_getElem? (i := 2) rfl)))) (fa_c (me_s (me_l (me_l (List.mem_of_getElem? (i := 3) rfl)))) fa_n)))))))))))) (fun w h => (me_s (me_r h))))) (by decide +kernel)
set_option maxRecDepth 20000 in
theorem gX9_sum_X9_product : GoodIn wsX9_sum (wsV RX9 106 RX9 yX9_product wsX9_product) := goodIn_app (goodIn_sub (fa_c (me_s (me_l (me_l (List.mem_of_getElem? (i := 1) rfl)))) (fa_c (me_s (me_l (me_l (List.mem_of_getElem? (i := 2) rfl)))) (fa_c (me_s (me_l (me_l (List.mem_of_getElem? (i := 3) rfl)))) (fa_c (me_s (me_l (me_l (List.mem_of_getElem? (i := 4) rfl)))) fa_n)))) (by decide +kernel)) ggX9_sum_X9_product
theorem dX9_sum_2 : decode cX9_sum 2 = .ok (.invokevirtual 106, 3) := by decide +kernel
theorem dX9_sum_5 : decode cX9_sum 5 = .ok (.ifCond .ne 5, 3) := by decide +kernel
theorem dX9_sum_10 : decode cX9_sum 10 = .ok (.iconst 0, 1) := by decide +kernel
theorem dX9_sum_11 : decode cX9_sum 11 = .ok (.istore_n 2, 1) := by decide +kernel
theorem dX9_sum_12 : decode cX9_sum 12 = .ok (.iload_n 2, 1) := by decide +kernel
theorem dX9_sum_13 : decode cX9_sum 13 = .ok (.sipush 500, 3) := by decide +kernel
theorem dX9_sum_16 : decode cX9_sum 16 = .ok (.if_icmp .ge 62, 3) := by decide +kernel
theorem dX9_sum_78 : decode cX9_sum 78 = .ok (.iconst 1, 1) := by decide +kernel
theorem dX9_sum_79 : decode cX9_sum 79 = .ok (.ireturn, 1) := by decide +kernel
theorem dX9_sum_19 : decode cX9_sum 19 = .ok (.aload_n 0, 1) := by decide +kernel
theorem dX9_sum_20 : decode cX9_sum 20 = .ok (.getfield 62, 3) := by decide +kernel
theorem dX9_sum_23 : decode cX9_sum 23 = .ok (.bipush 43, 2) := by decide +kernel
theorem dX9_sum_25 : decode cX9_sum 25 = .ok (.if_icmp .eq 12, 3) := by decide +kernel
theorem dX9_sum_37 : decode cX9_sum 37 = .ok (.aload_n 0, 1) := by decide +kernel
theorem dX9_sum_38 : decode cX9_sum 38 = .ok (.getfield 62, 3) := by decide +kernel
theorem dX9_sum_41 : decode cX9_sum 41 = .ok (.istore_n 3, 1) := by decide +kernel
theorem dX9_sum_42 : decode cX9_sum 42 = .ok (.aload_n 0, 1) := by decide +kernel
set_option maxRecDepth 20000 in
theorem ggX9_sum_X9_step : GoodIn wsX9_sum wsX9_step := goodIn_sub (fa_c (me_s (me_l (me_l (List.mem_of_getElem? (i := 8) rfl)))) (fa_a (fa_c (me_s (me_l (me_l (List.mem_of_getElem? (i := 9) rfl)))) (fa_c (me_s (me_l (me_l (List.mem_of_getElem? (i := 10) rfl)))) (fa_c (me_s (me_l (me_l (List.mem_of_getElem? (i := 11) rfl)))) (fa_c (me_s (me_l (me_l (List.mem_of_getElem? (i := 0) rfl)))) fa_n)))) (fun w h => (me_s (me_r h))))) (by decide +kernel)
set_option maxRecDepth 20000 in
theorem gX9_sum_X9_step : GoodIn wsX9_sum (wsV RX9 59 RX9 yX9_step wsX9_step) := goodIn_app (goodIn_sub (fa_c (me_s (me_l (me_l (List.mem_of_getElem? (i := 5) rfl)))) (fa_c (me_s (me_l (me_l (List.mem_of_getElem? (i := 6) rfl)))) (fa_c (me_s (me_l (me_l (List.mem_of_getElem? (i := 7) rfl)))) (fa_c (me_s (me_l (me_l (List.mem_of_getElem? (i := 4) rfl)))) fa_n)))) (by decide +kernel)) ggX9_sum_X9_step
theorem dX9_sum_43 : decode cX9_sum 43 = .ok (.invokevirtual 59, 3) := by decide +kernel
theorem dX9_sum_46 : decode cX9_sum 46 = .ok (.aload_n 0, 1) := by decide +kernel
theorem dX9_sum_47 : decode cX9_sum 47 = .ok (.iload_n 1, 1) := by decide +kernel
theorem dX9_sum_48 : decode cX9_sum 48 = .ok (.invokevirtual 106, 3) := by decide +kernel
theorem dX9_sum_51 : decode cX9_sum 51 = .ok (.ifCond .ne 5, 3) := by decide +kernel
theorem dX9_sum_56 : decode cX9_sum 56 = .ok (.aload_n 0, 1) := by decide +kernel
theorem dX9_sum_57 : decode cX9_sum 57 = .ok (.iload_n 3, 1) := by decide +kernel
theorem dX9_sum_58 : decode cX9_sum 58 = .ok (.bipush 43, 2) := by decide +kernel
theorem dX9_sum_60 : decode cX9_sum 60 = .ok (.if_icmp .ne 7, 3) := by decide +kernel
theorem dX9_sum_63 : decode cX9_sum 63 = .ok (.iconst (-1), 1) := by decide +kernel
theorem dX9_sum_64 : decode cX9_sum 64 = .ok (.goto 5, 3) := by decide +kernel
set_option maxRecDepth 20000 in
theorem ggX9_sum_X9_emit : GoodIn wsX9_sum wsX9_emit := goodIn_sub (fa_c (me_s (me_l (me_l (List.mem_of_getElem? (i := 15) rfl)))) (fa_a (fa_c (me_s (me_l (me_l (List.mem_of_getElem? (i := 16) rfl)))) (fa_c (me_s (me_l (me_l (List.mem_of_getElem? (i := 17) rfl)))) fa_n)) (fun w h => (me_s (me_r h))))) (by decide +kernel)
set_option maxRecDepth 20000 in
theorem gX9_sum_X9_emit : GoodIn wsX9_sum (wsV RX9 82 RX9 yX9_emit wsX9_emit) := goodIn_app (goodIn_sub (fa_c (me_s (me_l (me_l (List.mem_of_getElem? (i := 12) rfl)))) (fa_c (me_s (me_l (me_l (List.mem_of_getElem? (i := 13) rfl)))) (fa_c (me_s (me_l (me_l (List.mem_of_getElem? (i := 14) rfl)))) (fa_c (me_s (me_l (me_l (List.mem_of_getElem? (i := 4) rfl)))) fa_n)))) (by decide +kernel)) ggX9_sum_X9_emit
theorem dX9_sum_69 : decode cX9_sum 69 = .ok (.invokevirtual 82, 3) := by decide +kernel
theorem dX9_sum_72 : decode cX9_sum 72 = .ok (.iinc 2 1, 3) := by decide +kernel
theorem dX9_sum_75 : decode cX9_sum 75 = .ok (.goto (-63), 3) := by decide +kernel
theorem dX9_sum_54 : decode cX9_sum 54 = .ok (.iconst 0, 1) := by decide +kernel
theorem dX9_sum_55 : decode cX9_sum 55 = .ok (.ireturn, 1) := by decide +kernel
theorem dX9_sum_28 : decode cX9_sum 28 = .ok (.aload_n 0, 1) := by decide +kernel
theorem dX9_sum_29 : decode cX9_sum 29 = .ok (.getfield 62, 3) := by decide +kernel
theorem dX9_sum_32 : decode cX9_sum 32 = .ok (.bipush 45, 2) := by decide +kernel
theorem dX9_sum_34 : decode cX9_sum 34 = .ok (.if_icmp .ne 44, 3) := by decide +kernel
theorem dX9_sum_67 : decode cX9_sum 67 = .ok (.bipush (-2), 2) := by decide +kernel
theorem dX9_sum_8 : decode cX9_sum 8 = .ok (.iconst 0, 1) := by decide +kernel
theorem dX9_sum_9 : decode cX9_sum 9 = .ok (.ireturn, 1) := by decide +kernel
theorem dX9_opened_0 : decode cX9_opened 0 = .ok (.iload_n 1, 1) := by decide +kernel
theorem dX9_opened_1 : decode cX9_opened 1 = .ok (.bipush 9, 2) := by decide +kernel
theorem dX9_opened_3 : decode cX9_opened 3 = .ok (.if_icmp .lt 5, 3) := by decide +kernel
theorem dX9_opened_6 : decode cX9_opened 6 = .ok (.iconst 0, 1) := by decide +kernel
theorem dX9_opened_7 : decode cX9_opened 7 = .ok (.ireturn, 1) := by decide +kernel
theorem dX9_one_0 : decode cX9_one 0 = .ok (.aload_n 0, 1) := by decide +kernel
theorem dX9_one_1 : decode cX9_one 1 = .ok (.getfield 62, 3) := by decide +kernel
theorem dX9_one_4 : decode cX9_one 4 = .ok (.sipush 311, 3) := by decide +kernel
theorem dX9_one_7 : decode cX9_one 7 = .ok (.if_icmp .eq 12, 3) := by decide +kernel
theorem dX9_one_19 : decode cX9_one 19 = .ok (.aload_n 0, 1) := by decide +kernel
theorem dX9_one_20 : decode cX9_one 20 = .ok (.iload_n 1, 1) := by decide +kernel
set_option maxRecDepth 20000 in
theorem ggX9_one_X9_opened : GoodIn wsX9_one wsX9_opened := goodIn_sub (fa_c (me_s (me_l (me_r (me_l (List.mem_of_getElem? (i := 23) rfl))))) (fa_a (fa_a (fa_c (me_s (me_l (me_l (List.mem_of_getElem? (i := 0) rfl)))) (fa_c (me_s (me_l (me_l (List.mem_of_getElem? (i := 12) rfl)))) (fa_c (me_s (me_l (me_l (List.mem_of_getElem? (i := 13) rfl)))) (fa_c (me_s (me_l (me_l (List.mem_of_getElem? (i := 14) rfl)))) (fa_c (me_s (me_l (me_l (List.mem_of_getElem? (i := 4) rfl)))) (fa_c (me_s (me_l (me_l (List.mem_of_getElem? (i := 15) rfl)))) (fa_c (me_s (me_l (me_l (List.mem_of_getElem? (i := 16) rfl)))) (fa_c (me_s (me_l (me_l (List.mem_of_getElem? (i := 17) rfl)))) (fa_c (me_s (me_l (me_l (List.mem_of_getElem? (i := 18) rfl)))) (fa_c (me_s (me_l (me_r (me_r (List.mem_of_getElem? (i := 0) rfl))))) (fa_c (me_s (me_l (me_r (me_r (List.mem_of_getElem? (i := 1) rfl))))) (fa_c (me_s (me_l (me_r (me_r (List.mem_of_getElem? (i := 2) rfl))))) (fa_c (me_s (me_l (me_r (me_l (List.mem_of_getElem? (i := 7) rfl))))) (fa_c (me_s (me_l (me_r (me_l (List.mem_of_getElem? (i := 8) rfl))))) (fa_c (me_s (me_l (me_r (me_l (List.mem_of_getElem? (i := 9) rfl))))) (fa_c (me_s (me_l (me_r (me_l (List.mem_of_getElem? (i := 10) rfl))))) (fa_c (me_s (me_l (me_r (me_l (List.mem_of_getElem? (i := 16) rfl))))) (fa_c (me_s (me_l (me_r (me_l (List.mem_of_getElem? (i := 17) rfl))))) (fa_c (me_s (me_l (me_r (me_l (List.mem_of_getElem? (i := 18) rfl))))) (fa_c (me_s (me_l (me_l (List.mem_of_getElem? (i := 19) rfl)))) (fa_c (me_s (me_l (me_l (List.mem_of_getElem? (i := 20) rfl)))) (fa_c (me_s (me_l (me_l (List.mem_of_getElem? (i := 21) rfl)))) (fa_c (me_s (me_l (me_l (List.mem_of_getElem? (i := 22) rfl)))) (fa_c (me_s (me_l (me_l (List.mem_of_getElem? (i := 23) rfl)))) fa_n)))))))))))))))))))))))) (fa_a (fa_c (me_s (me_l (me_r (me_l (List.mem_of_getElem? (i := 0) rfl))))) (fa_c (me_s (me_l (me_r (me_l (List.mem_of_getElem? (i := 15) rfl))))) (fa_c (me_s (me_l (me_r (me_l (List.mem_of_getElem? (i := 19) rfl))))) (fa_c (me_s (me_l (me_r (me_l (List.mem_of_getElem? (i := 20) rfl))))) (fa_c (me_s (me_l (me_r (me_l (List.mem_of_getElem? (i := 21) rfl))))) (fa_c (me_s (me_l (me_r (me_l (List.mem_of_getElem? (i := 22) rfl))))) (fa_c me_0 (fa_c (me_s (me_l (me_l (List.mem_of_getElem? (i := 1) rfl)))) (fa_c (me_s (me_l (me_l (List.mem_of_getElem? (i := 2) rfl)))) (fa_c (me_s (me_l (me_l (List.mem_of_getElem? (i := 3) rfl)))) (fa_c (me_s (me_l (me_l (List.mem_of_getElem? (i := 5) rfl)))) (fa_c (me_s (me_l (me_l (List.mem_of_getElem? (i := 6) rfl)))) (fa_c (me_s (me_l (me_l (List.mem_of_getElem? (i := 7) rfl)))) (fa_c (me_s (me_l (me_l (List.mem_of_getElem? (i := 8) rfl)))) (fa_c (me_s (me_l (me_l (List.mem_of_getElem? (i := 9) rfl)))) (fa_c (me_s (me_l (me_l (List.mem_of_getElem? (i := 10) rfl)))) (fa_c (me_s (me_l (me_l (List.mem_of_getElem? (i := 11) rfl)))) (fa_c (me_s (me_l (me_r (me_l (List.mem_of_getElem? (i := 1) rfl))))) (fa_c (me_s (me_l (me_r (me_l (List.mem_of_getElem? (i := 2) rfl))))) (fa_c (me_s (me_l (me_r (me_l (List.mem_of_getElem? (i := 3) rfl))))) (fa_c (me_s (me_l (me_r (me_l (List.mem_of_getElem? (i := 4) rfl))))) (fa_c (me_s (me_l (me_r (me_l (List.mem_of_getElem? (i := 5) rfl))))) (fa_c (me_s (me_l (me_r (me_l (List.mem_of_getElem? (i := 6) rfl))))) (fa_c (me_s (me_l (me_r (me_l (List.mem_of_getElem? (i := 11) rfl))))) fa_n)))))))))))))))))))))))) (fa_c (me_s (me_l (me_r (me_l (List.mem_of_getElem? (i := 12) rfl))))) (fa_c (me_s (me_l (me_r (me_l (List.mem_of_getElem? (i := 13) rfl))))) (fa_c (me_s (me_l (me_r (me_l (List.mem_of_getElem? (i := 14) rfl))))) fa_n))))) (fun w h => (me_s (me_r h))))) (by decide +kernel)
set_option maxRecDepth 20000 in
theorem gX9_one_X9_opened : GoodIn wsX9_one (wsV RX9 103 RX9 yX9_opened wsX9_opened) := goodIn_app (goodIn_sub (fa_c (me_s (me_l (me_l (List.mem_of_getElem? (i := 1) rfl)))) (fa_c (me_s (me_l (me_l (List.mem_of_getElem? (i := 2) rfl)))) (fa_c (me_s (me_l (me_l (List.mem_of_getElem? (i := 3) rfl)))) (fa_c (me_s (me_l (me_l (List.mem_of_getElem? (i := 4) rfl)))) fa_n)))) (by decide +kernel)) ggX9_one_X9_opened
theorem dX9_one_21 : decode cX9_one 21 = .ok (.invokevirtual 103, 3) := by decide +kernel
theorem dX9_one_24 : decode cX9_one 24 = .ok (.ireturn, 1) := by decide +kernel
theorem dX9_one_10 : decode cX9_one 10 = .ok (.aload_n 0, 1) := by decide +kernel
theorem dX9_one_11 : decode cX9_one 11 = .ok (.getfield 62, 3) := by decide +kernel
theorem dX9_one_14 : decode cX9_one 14 = .ok (.bipush 123, 2) := by decide +kernel
theorem dX9_one_16 : decode cX9_one 16 = .ok (.if_icmp .ne 9, 3) := by decide +kernel
theorem dX9_one_25 : decode cX9_one 25 = .ok (.aload_n 0, 1) := by decide +kernel
theorem dX9_one_26 : decode cX9_one 26 = .ok (.iload_n 1, 1) := by decide +kernel
set_option maxRecDepth 20000 in
theorem ggX9_one_X9_sum : GoodIn wsX9_one wsX9_sum := goodIn_sub (fa_c (me_s (me_l (me_l (List.mem_of_getElem? (i := 8) rfl)))) (fa_a (fa_a (fa_c (me_s (me_l (me_l (List.mem_of_getElem? (i := 0) rfl)))) (fa_c (me_s (me_l (me_l (List.mem_of_getElem? (i := 9) rfl)))) (fa_c (me_s (me_l (me_l (List.mem_of_getElem? (i := 10) rfl)))) (fa_c (me_s (me_l (me_l (List.mem_of_getElem? (i := 11) rfl)))) (fa_c (me_s (me_l (me_l (List.mem_of_getElem? (i := 4) rfl)))) (fa_c (me_s (me_l (me_l (List.mem_of_getElem? (i := 12) rfl)))) (fa_c (me_s (me_l (me_l (List.mem_of_getElem? (i := 13) rfl)))) (fa_c (me_s (me_l (me_l (List.mem_of_getElem? (i := 14) rfl)))) (fa_c (me_s (me_l (me_l (List.mem_of_getElem? (i := 15) rfl)))) (fa_c (me_s (me_l (me_l (List.mem_of_getElem? (i := 16) rfl)))) (fa_c (me_s (me_l (me_l (List.mem_of_getElem? (i := 17) rfl)))) (fa_c (me_s (me_l (me_l (List.mem_of_getElem? (i := 18) rfl)))) (fa_c (me_s (me_l (me_l (List.mem_of_getElem? (i := 19) rfl)))) (fa_c (me_s (me_l (me_l (List.mem_of_getElem? (i := 20) rfl)))) (fa_c (me_s (me_l (me_l (List.mem_of_getElem? (i := 21) rfl)))) (fa_c (me_s (me_l (me_l (List.mem_of_getElem? (i := 22) rfl)))) (fa_c (me_s (me_l (me_l (List.mem_of_getElem? (i := 23) rfl)))) (fa_c (me_s (me_l (me_r (me_l (List.mem_of_getElem? (i := 0) rfl))))) (fa_c (me_s (me_l (me_r (me_l (List.mem_of_getElem? (i := 1) rfl))))) (fa_c (me_s (me_l (me_r (me_l (List.mem_of_getElem? (i := 2) rfl))))) (fa_c (me_s (me_l (me_r (me_l (List.mem_of_getElem? (i := 3) rfl))))) (fa_c (me_s (me_l (me_r (me_l (List.mem_of_getElem? (i := 4) rfl))))) (fa_c (me_s (me_l (me_r (me_l (List.mem_of_getElem? (i := 5) rfl))))) (fa_c (me_s (me_l (me_r (me_l (List.mem_of_getElem? (i := 6) rfl))))) fa_n)))))))))))))))))))))))) (fa_c (me_s (me_l (me_l (List.mem_of_getElem? (i := 5) rfl)))) (fa_c (me_s (me_l (me_l (List.mem_of_getElem? (i := 6) rfl)))) (fa_c (me_s (me_l (me_l (List.mem_of_getElem? (i := 7) rfl)))) (fa_c (me_s (me_l (me_r (me_l (List.mem_of_getElem? (i := 7) rfl))))) (fa_c (me_s (me_l (me_r (me_l (List.mem_of_getElem? (i := 8) rfl))))) (fa_c (me_s (me_l (me_r (me_l (List.mem_of_getElem? (i := 9) rfl))))) (fa_c (me_s (me_l (me_r (me_l (List.mem_of_getElem? (i := 10) rfl))))) (fa_c (me_s (me_l (me_r (me_l (List.mem_of_getElem? (i := 11) rfl))))) (fa_c (me_s (me_l (me_r (me_l (List.mem_of_getElem? (i := 12) rfl))))) (fa_c (me_s (me_l (me_r (me_l (List.mem_of_getElem? (i := 13) rfl))))) (fa_c (me_s (me_l (me_r (me_l (List.mem_of_getElem? (i := 14) rfl))))) fa_n)))))))))))) (fun w h => (me_s (me_r h))))) (by decide +kernel)
set_option maxRecDepth 20000 in
theorem gX9_one_X9_sum : GoodIn wsX9_one (wsV RX9 79 RX9 yX9_sum wsX9_sum) := goodIn_app (goodIn_sub (fa_c (me_s (me_l (me_l (List.mem_of_getElem? (i := 5) rfl)))) (fa_c (me_s (me_l (me_l (List.mem_of_getElem? (i := 6) rfl)))) (fa_c (me_s (me_l (me_l (List.mem_of_getElem? (i := 7) rfl)))) (fa_c (me_s (me_l (me_l (List.mem_of_getElem? (i := 4) rfl)))) fa_n)))) (by decide +kernel)) ggX9_one_X9_sum
theorem dX9_one_27 : decode cX9_one 27 = .ok (.invokevirtual 79, 3) := by decide +kernel
theorem dX9_one_30 : decode cX9_one 30 = .ok (.ifCond .ne 5, 3) := by decide +kernel
theorem dX9_one_35 : decode cX9_one 35 = .ok (.aload_n 0, 1) := by decide +kernel
theorem dX9_one_36 : decode cX9_one 36 = .ok (.getfield 62, 3) := by decide +kernel
theorem dX9_one_39 : decode cX9_one 39 = .ok (.istore_n 2, 1) := by decide +kernel
theorem dX9_one_40 : decode cX9_one 40 = .ok (.iload_n 2, 1) := by decide +kernel
theorem dX9_one_41 : decode cX9_one 41 = .ok (.bipush 60, 2) := by decide +kernel
theorem dX9_one_43 : decode cX9_one 43 = .ok (.if_icmp .eq 17, 3) := by decide +kernel
theorem dX9_one_60 : decode cX9_one 60 = .ok (.aload_n 0, 1) := by decide +kernel
set_option maxRecDepth 20000 in
theorem ggX9_one_X9_step : GoodIn wsX9_one wsX9_step := goodIn_sub (fa_c (me_s (me_l (me_l (List.mem_of_getElem? (i := 15) rfl)))) (fa_a (fa_c (me_s (me_l (me_l (List.mem_of_getElem? (i := 16) rfl)))) (fa_c (me_s (me_l (me_l (List.mem_of_getElem? (i := 17) rfl)))) (fa_c (me_s (me_l (me_l (List.mem_of_getElem? (i := 18) rfl)))) (fa_c (me_s (me_l (me_l (List.mem_of_getElem? (i := 0) rfl)))) fa_n)))) (fun w h => (me_s (me_r h))))) (by decide +kernel)
set_option maxRecDepth 20000 in
theorem gX9_one_X9_step : GoodIn wsX9_one (wsV RX9 59 RX9 yX9_step wsX9_step) := goodIn_app (goodIn_sub (fa_c (me_s (me_l (me_l (List.mem_of_getElem? (i := 12) rfl)))) (fa_c (me_s (me_l (me_l (List.mem_of_getElem? (i := 13) rfl)))) (fa_c (me_s (me_l (me_l (List.mem_of_getElem? (i := 14) rfl)))) (fa_c (me_s (me_l (me_l (List.mem_of_getElem? (i := 4) rfl)))) fa_n)))) (by decide +kernel)) ggX9_one_X9_step
theorem dX9_one_61 : decode cX9_one 61 = .ok (.invokevirtual 59, 3) := by decide +kernel
theorem dX9_one_64 : decode cX9_one 64 = .ok (.aload_n 0, 1) := by decide +kernel
theorem dX9_one_65 : decode cX9_one 65 = .ok (.iload_n 1, 1) := by decide +kernel
theorem dX9_one_66 : decode cX9_one 66 = .ok (.invokevirtual 79, 3) := by decide +kernel
theorem dX9_one_69 : decode cX9_one 69 = .ok (.ifCond .ne 5, 3) := by decide +kernel
theorem dX9_one_74 : decode cX9_one 74 = .ok (.aload_n 0, 1) := by decide +kernel
theorem dX9_one_75 : decode cX9_one 75 = .ok (.iload_n 2, 1) := by decide +kernel
theorem dX9_one_76 : decode cX9_one 76 = .ok (.bipush 60, 2) := by decide +kernel
theorem dX9_one_78 : decode cX9_one 78 = .ok (.if_icmp .ne 8, 3) := by decide +kernel
theorem dX9_one_81 : decode cX9_one 81 = .ok (.bipush (-7), 2) := by decide +kernel
theorem dX9_one_83 : decode cX9_one 83 = .ok (.goto 16, 3) := by decide +kernel
set_option maxRecDepth 20000 in
theorem ggX9_one_X9_emit : GoodIn wsX9_one wsX9_emit := goodIn_sub (fa_c (me_s (me_l (me_l (List.mem_of_getElem? (i := 22) rfl)))) (fa_a (fa_c (me_s (me_l (me_l (List.mem_of_getElem? (i := 23) rfl)))) (fa_c (me_s (me_l (me_r (me_l (List.mem_of_getElem? (i := 0) rfl))))) fa_n)) (fun w h => (me_s (me_r h))))) (by decide +kernel)
set_option maxRecDepth 20000 in
theorem gX9_one_X9_emit : GoodIn wsX9_one (wsV RX9 82 RX9 yX9_emit wsX9_emit) := goodIn_app (goodIn_sub (fa_c (me_s (me_l (me_l (List.mem_of_getElem? (i := 19) rfl)))) (fa_c (me_s (me_l (me_l (List.mem_of_getElem? (i := 20) rfl)))) (fa_c (me_s (me_l (me_l (List.mem_of_getElem? (i := 21) rfl)))) (fa_c (me_s (me_l (me_l (List.mem_of_getElem? (i := 4) rfl)))) fa_n)))) (by decide +kernel)) ggX9_one_X9_emit
theorem dX9_one_99 : decode cX9_one 99 = .ok (.invokevirtual 82, 3) := by decide +kernel
theorem dX9_one_102 : decode cX9_one 102 = .ok (.iconst 1, 1) := by decide +kernel
theorem dX9_one_103 : decode cX9_one 103 = .ok (.ireturn, 1) := by decide +kernel
theorem dX9_one_72 : decode cX9_one 72 = .ok (.iconst 0, 1) := by decide +kernel
theorem dX9_one_73 : decode cX9_one 73 = .ok (.ireturn, 1) := by decide +kernel
theorem dX9_one_46 : decode cX9_one 46 = .ok (.iload_n 2, 1) := by decide +kernel
theorem dX9_one_47 : decode cX9_one 47 = .ok (.bipush 62, 2) := by decide +kernel
theorem dX9_one_49 : decode cX9_one 49 = .ok (.if_icmp .eq 11, 3) := by decide +kernel
theorem dX9_one_86 : decode cX9_one 86 = .ok (.iload_n 2, 1) := by decide +kernel
theorem dX9_one_87 : decode cX9_one 87 = .ok (.bipush 62, 2) := by decide +kernel
theorem dX9_one_89 : decode cX9_one 89 = .ok (.if_icmp .ne 8, 3) := by decide +kernel
theorem dX9_one_92 : decode cX9_one 92 = .ok (.bipush (-8), 2) := by decide +kernel
theorem dX9_one_94 : decode cX9_one 94 = .ok (.goto 5, 3) := by decide +kernel
theorem dX9_one_52 : decode cX9_one 52 = .ok (.iload_n 2, 1) := by decide +kernel
theorem dX9_one_53 : decode cX9_one 53 = .ok (.bipush 61, 2) := by decide +kernel
theorem dX9_one_55 : decode cX9_one 55 = .ok (.if_icmp .eq 5, 3) := by decide +kernel
theorem dX9_one_97 : decode cX9_one 97 = .ok (.bipush (-9), 2) := by decide +kernel
theorem dX9_one_58 : decode cX9_one 58 = .ok (.iconst 0, 1) := by decide +kernel
theorem dX9_one_59 : decode cX9_one 59 = .ok (.ireturn, 1) := by decide +kernel
theorem dX9_one_33 : decode cX9_one 33 = .ok (.iconst 0, 1) := by decide +kernel
theorem dX9_one_34 : decode cX9_one 34 = .ok (.ireturn, 1) := by decide +kernel
theorem dX9_all_0 : decode cX9_all 0 = .ok (.aload_n 0, 1) := by decide +kernel
theorem dX9_all_1 : decode cX9_all 1 = .ok (.iload_n 1, 1) := by decide +kernel
set_option maxRecDepth 20000 in
theorem ggX9_all_X9_one : GoodIn wsX9_all wsX9_one := goodIn_sub (fa_c (me_s (me_l (me_l (List.mem_of_getElem? (i := 22) rfl)))) (fa_a (fa_a (fa_c (me_s (me_l (me_l (List.mem_of_getElem? (i := 0) rfl)))) (fa_c (me_s (me_l (me_l (List.mem_of_getElem? (i := 23) rfl)))) (fa_c (me_s (me_l (me_r (me_l (List.mem_of_getElem? (i := 0) rfl))))) (fa_c (me_s (me_l (me_r (me_l (List.mem_of_getElem? (i := 1) rfl))))) (fa_c (me_s (me_l (me_l (List.mem_of_getElem? (i := 4) rfl)))) (fa_c (me_s (me_l (me_r (me_l (List.mem_of_getElem? (i := 2) rfl))))) (fa_c (me_s (me_l (me_r (me_l (List.mem_of_getElem? (i := 3) rfl))))) (fa_c (me_s (me_l (me_r (me_l (List.mem_of_getElem? (i := 4) rfl))))) (fa_c (me_s (me_l (me_r (me_l (List.mem_of_getElem? (i := 5) rfl))))) (fa_c (me_s (me_l (me_r (me_l (List.mem_of_getElem? (i := 6) rfl))))) (fa_c (me_s (me_l (me_r (me_l (List.mem_of_getElem? (i := 7) rfl))))) (fa_c (me_s (me_l (me_r (me_l (List.mem_of_getElem? (i := 8) rfl))))) (fa_c (me_s (me_l (me_l (List.mem_of_getElem? (i := 5) rfl)))) (fa_c (me_s (me_l (me_l (List.mem_of_getElem? (i := 6) rfl)))) (fa_c (me_s (me_l (me_l (List.mem_of_getElem? (i := 7) rfl)))) (fa_c (me_s (me_l (me_l (List.mem_of_getElem? (i := 8) rfl)))) (fa_c (me_s (me_l (me_l (List.mem_of_getElem? (i := 9) rfl)))) (fa_c (me_s (me_l (me_l (List.mem_of_getElem? (i := 10) rfl)))) (fa_c (me_s (me_l (me_l (List.mem_of_getElem? (i := 11) rfl)))) (fa_c (me_s (me_l (me_l (List.mem_of_getElem? (i := 12) rfl)))) (fa_c (me_s (me_l (me_l (List.mem_of_getElem? (i := 13) rfl)))) (fa_c (me_s (me_l (me_l (List.mem_of_getElem? (i := 14) rfl)))) (fa_c (me_s (me_l (me_l (List.mem_of_getElem? (i := 15) rfl)))) (fa_c (me_s (me_l (me_l (List.mem_of_getElem? (i := 16) rfl)))) fa_n)))))))))))))))))))))))) (fa_a (fa_c (me_s (me_l (me_l (List.mem_of_getElem? (i := 17) rfl)))) (fa_c (me_s (me_l (me_r (me_l (List.mem_of_getElem? (i := 9) rfl))))) (fa_c (me_s (me_l (me_r (me_l (List.mem_of_getElem? (i := 10) rfl))))) (fa_c (me_s (me_l (me_r (me_l (List.mem_of_getElem? (i := 11) rfl))))) (fa_c (me_s (me_l (me_r (me_l (List.mem_of_getElem? (i := 12) rfl))))) (fa_c (me_s (me_l (me_r (me_l (List.mem_of_getElem? (i := 13) rfl))))) (fa_c (me_s (me_l (me_r (me_l (List.mem_of_getElem? (i := 14) rfl))))) (fa_c (me_s (me_l (me_r (me_l (List.mem_of_getElem? (i := 15) rfl))))) (fa_c (me_s (me_l (me_r (me_l (List.mem_of_getElem? (i := 16) rfl))))) (fa_c (me_s (me_l (me_r (me_l (List.mem_of_getElem? (i := 17) rfl))))) (fa_c (me_s (me_l (me_r (me_l (List.mem_of_getElem? (i := 18) rfl))))) (fa_c (me_s (me_l (me_r (me_l (List.mem_of_getElem? (i := 19) rfl))))) (fa_c (me_s (me_l (me_r (me_l (List.mem_of_getElem? (i := 20) rfl))))) (fa_c (me_s (me_l (me_r (me_l (List.mem_of_getElem? (i := 21) rfl))))) (fa_c (me_s (me_l (me_r (me_l (List.mem_of_getElem? (i := 22) rfl))))) (fa_c me_0 (fa_c (me_s (me_l (me_l (List.mem_of_getElem? (i := 1) rfl)))) (fa_c (me_s (me_l (me_l (List.mem_of_getElem? (i := 2) rfl)))) (fa_c (me_s (me_l (me_l (List.mem_of_getElem? (i := 3) rfl)))) (fa_c (me_s (me_l (me_l (List.mem_of_getElem? (i := 18) rfl)))) (fa_c (me_s (me_l (me_l (List.mem_of_getElem? (i := 19) rfl)))) (fa_c (me_s (me_l (me_l (List.mem_of_getElem? (i := 20) rfl)))) (fa_c (me_s (me_l (me_l (List.mem_of_getElem? (i := 21) rfl)))) (fa_c (me_s (me_l (me_r (me_l (List.mem_of_getElem? (i := 23) rfl))))) fa_n)))))))))))))))))))))))) (fa_c (me_s (me_l (me_r (me_r (List.mem_of_getElem? (i := 0) rfl))))) (fa_c (me_s (me_l (me_r (me_r (List.mem_of_getElem? (i := 1) rfl))))) (fa_c (me_s (me_l (me_r (me_r (List.mem_of_getElem? (i := 2) rfl))))) fa_n))))) (fun w h => (me_s (me_r h))))) (by decide +kernel)
set_option maxRecDepth 20000 in
theorem gX9_all_X9_one : GoodIn wsX9_all (wsV RX9 100 RX9 yX9_one wsX9_one) := goodIn_app (goodIn_sub (fa_c (me_s (me_l (me_l (List.mem_of_getElem? (i := 1) rfl)))) (fa_c (me_s (me_l (me_l (List.mem_of_getElem? (i := 2) rfl)))) (fa_c (me_s (me_l (me_l (List.mem_of_getElem? (i := 3) rfl)))) (fa_c (me_s (me_l (me_l (List.mem_of_getElem? (i := 4) rfl)))) fa_n)))) (by decide +kernel)) ggX9_all_X9_one
theorem dX9_all_2 : decode cX9_all 2 = .ok (.invokevirtual 100, 3) := by decide +kernel
theorem dX9_all_5 : decode cX9_all 5 = .ok (.ifCond .ne 5, 3) := by decide +kernel
theorem dX9_all_10 : decode cX9_all 10 = .ok (.iconst 0, 1) := by decide +kernel
theorem dX9_all_11 : decode cX9_all 11 = .ok (.istore_n 2, 1) := by decide +kernel
theorem dX9_all_12 : decode cX9_all 12 = .ok (.iload_n 2, 1) := by decide +kernel
theorem dX9_all_13 : decode cX9_all 13 = .ok (.sipush 500, 3) := by decide +kernel
theorem dX9_all_16 : decode cX9_all 16 = .ok (.if_icmp .ge 39, 3) := by decide +kernel
theorem dX9_all_55 : decode cX9_all 55 = .ok (.iconst 1, 1) := by decide +kernel
theorem dX9_all_56 : decode cX9_all 56 = .ok (.ireturn, 1) := by decide +kernel
theorem dX9_all_19 : decode cX9_all 19 = .ok (.aload_n 0, 1) := by decide +kernel
theorem dX9_all_20 : decode cX9_all 20 = .ok (.getfield 62, 3) := by decide +kernel
theorem dX9_all_23 : decode cX9_all 23 = .ok (.sipush 310, 3) := by decide +kernel
theorem dX9_all_26 : decode cX9_all 26 = .ok (.if_icmp .ne 29, 3) := by decide +kernel
theorem dX9_all_29 : decode cX9_all 29 = .ok (.aload_n 0, 1) := by decide +kernel
set_option maxRecDepth 20000 in
theorem ggX9_all_X9_step : GoodIn wsX9_all wsX9_step := goodIn_sub (fa_c (me_s (me_l (me_l (List.mem_of_getElem? (i := 8) rfl)))) (fa_a (fa_c (me_s (me_l (me_l (List.mem_of_getElem? (i := 9) rfl)))) (fa_c (me_s (me_l (me_l (List.mem_of_getElem? (i := 10) rfl)))) (fa_c (me_s (me_l (me_l (List.mem_of_getElem? (i := 11) rfl)))) (fa_c (me_s (me_l (me_l (List.mem_of_getElem? (i := 0) rfl)))) fa_n)))) (fun w h => (me_s (me_r h))))) (by decide +kernel)
set_option maxRecDepth 20000 in
theorem gX9_all_X9_step : GoodIn wsX9_all (wsV RX9 59 RX9 yX9_step wsX9_step) := goodIn_app (goodIn_sub (fa_c (me_s (me_l (me_l (List.mem_of_getElem? (i := 5) rfl)))) (fa_c (me_s (me_l (me_l (List.mem_of_getElem? (i := 6) rfl)))) (fa_c (me_s (me_l (me_l (List.mem_of_getElem? (i := 7) rfl)))) (fa_c (me_s (me_l (me_l (List.mem_of_getElem? (i := 4) rfl)))) fa_n)))) (by decide +kernel)) ggX9_all_X9_step
theorem dX9_all_30 : decode cX9_all 30 = .ok (.invokevirtual 59, 3) := by decide +kernel
theorem dX9_all_33 : decode cX9_all 33 = .ok (.aload_n 0, 1) := by decide +kernel
theorem dX9_all_34 : decode cX9_all 34 = .ok (.iload_n 1, 1) := by decide +kernel
theorem dX9_all_35 : decode cX9_all 35 = .ok (.invokevirtual 100, 3) := by decide +kernel
theorem dX9_all_38 : decode cX9_all 38 = .ok (.ifCond .ne 5, 3) := by decide +kernel
theorem dX9_all_43 : decode cX9_all 43 = .ok (.aload_n 0, 1) := by decide +kernel
theorem dX9_all_44 : decode cX9_all 44 = .ok (.bipush (-10), 2) := by decide +kernel
set_option maxRecDepth 20000 in
theorem ggX9_all_X9_emit : GoodIn wsX9_all wsX9_emit := goodIn_sub (fa_c (me_s (me_l (me_l (List.mem_of_getElem? (i := 15) rfl)))) (fa_a (fa_c (me_s (me_l (me_l (List.mem_of_getElem? (i := 16) rfl)))) (fa_c (me_s (me_l (me_l (List.mem_of_getElem? (i := 17) rfl)))) fa_n)) (fun w h => (me_s (me_r h))))) (by decide +kernel)
set_option maxRecDepth 20000 in
theorem gX9_all_X9_emit : GoodIn wsX9_all (wsV RX9 82 RX9 yX9_emit wsX9_emit) := goodIn_app (goodIn_sub (fa_c (me_s (me_l (me_l (List.mem_of_getElem? (i := 12) rfl)))) (fa_c (me_s (me_l (me_l (List.mem_of_getElem? (i := 13) rfl)))) (fa_c (me_s (me_l (me_l (List.mem_of_getElem? (i := 14) rfl)))) (fa_c (me_s (me_l (me_l (List.mem_of_getElem? (i := 4) rfl)))) fa_n)))) (by decide +kernel)) ggX9_all_X9_emit
theorem dX9_all_46 : decode cX9_all 46 = .ok (.invokevirtual 82, 3) := by decide +kernel
theorem dX9_all_49 : decode cX9_all 49 = .ok (.iinc 2 1, 3) := by decide +kernel
theorem dX9_all_52 : decode cX9_all 52 = .ok (.goto (-40), 3) := by decide +kernel
theorem dX9_all_41 : decode cX9_all 41 = .ok (.iconst 0, 1) := by decide +kernel
theorem dX9_all_42 : decode cX9_all 42 = .ok (.ireturn, 1) := by decide +kernel
theorem dX9_all_8 : decode cX9_all 8 = .ok (.iconst 0, 1) := by decide +kernel
theorem dX9_all_9 : decode cX9_all 9 = .ok (.ireturn, 1) := by decide +kernel
theorem dX9_either_0 : decode cX9_either 0 = .ok (.aload_n 0, 1) := by decide +kernel
theorem dX9_either_1 : decode cX9_either 1 = .ok (.iload_n 1, 1) := by decide +kernel
set_option maxRecDepth 20000 in
theorem ggX9_either_X9_all : GoodIn wsX9_either wsX9_all := goodIn_sub (fa_c (me_s (me_l (me_l (List.mem_of_getElem? (i := 18) rfl)))) (fa_a (fa_a (fa_c (me_s (me_l (me_l (List.mem_of_getElem? (i := 0) rfl)))) (fa_c (me_s (me_l (me_l (List.mem_of_getElem? (i := 19) rfl)))) (fa_c (me_s (me_l (me_l (List.mem_of_getElem? (i := 20) rfl)))) (fa_c (me_s (me_l (me_l (List.mem_of_getElem? (i := 21) rfl)))) (fa_c (me_s (me_l (me_l (List.mem_of_getElem? (i := 4) rfl)))) (fa_c (me_s (me_l (me_l (List.mem_of_getElem? (i := 5) rfl)))) (fa_c (me_s (me_l (me_l (List.mem_of_getElem? (i := 6) rfl)))) (fa_c (me_s (me_l (me_l (List.mem_of_getElem? (i := 7) rfl)))) (fa_c (me_s (me_l (me_l (List.mem_of_getElem? (i := 8) rfl)))) (fa_c (me_s (me_l (me_l (List.mem_of_getElem? (i := 9) rfl)))) (fa_c (me_s (me_l (me_l (List.mem_of_getElem? (i := 10) rfl)))) (fa_c (me_s (me_l (me_l (List.mem_of_getElem? (i := 11) rfl)))) (fa_c (me_s (me_l (me_l (List.mem_of_getElem? (i := 12) rfl)))) (fa_c (me_s (me_l (me_l (List.mem_of_getElem? (i := 13) rfl)))) (fa_c (me_s (me_l (me_l (List.mem_of_getElem? (i := 14) rfl)))) (fa_c (me_s (me_l (me_l (List.mem_of_getElem? (i := 15) rfl)))) (fa_c (me_s (me_l (me_l (List.mem_of_getElem? (i := 16) rfl)))) (fa_c (me_s (me_l (me_l (List.mem_of_getElem? (i := 17) rfl)))) (fa_c me_0 (fa_c (me_s (me_l (me_l (List.mem_of_getElem? (i := 1) rfl)))) (fa_c (me_s (me_l (me_l (List.mem_of_getElem? (i := 2) rfl)))) (fa_c (me_s (me_l (me_l (List.mem_of_getElem? (i := 3) rfl)))) (fa_c (me_s (me_l (me_l (List.mem_of_getElem? (i := 22) rfl)))) (fa_c (me_s (me_l (me_l (List.mem_of_getElem? (i := 23) rfl)))) fa_n)))))))))))))))))))))))) (fa_a (fa_c (me_s (me_l (me_r (me_l (List.mem_of_getElem? (i := 0) rfl))))) (fa_c (me_s (me_l (me_r (me_l (List.mem_of_getElem? (i := 1) rfl))))) (fa_c (me_s (me_l (me_r (me_l (List.mem_of_getElem? (i := 2) rfl))))) (fa_c (me_s (me_l (me_r (me_l (List.mem_of_getElem? (i := 3) rfl))))) (fa_c (me_s (me_l (me_r (me_l (List.mem_of_getElem? (i := 4) rfl))))) (fa_c (me_s (me_l (me_r (me_l (List.mem_of_getElem? (i := 5) rfl))))) (fa_c (me_s (me_l (me_r (me_l (List.mem_of_getElem? (i := 6) rfl))))) (fa_c (me_s (me_l (me_r (me_l (List.mem_of_getElem? (i := 7) rfl))))) (fa_c (me_s (me_l (me_r (me_l (List.mem_of_getElem? (i := 8) rfl))))) (fa_c (me_s (me_l (me_r (me_l (List.mem_of_getElem? (i := 9) rfl))))) (fa_c (me_s (me_l (me_r (me_l (List.mem_of_getElem? (i := 10) rfl))))) (fa_c (me_s (me_l (me_r (me_l (List.mem_of_getElem? (i := 11) rfl))))) (fa_c (me_s (me_l (me_r (me_l (List.mem_of_getElem? (i := 12) rfl))))) (fa_c (me_s (me_l (me_r (me_l (List.mem_of_getElem? (i := 13) rfl))))) (fa_c (me_s (me_l (me_r (me_l (List.mem_of_getElem? (i := 14) rfl))))) (fa_c (me_s (me_l (me_r (me_l (List.mem_of_getElem? (i := 15) rfl))))) (fa_c (me_s (me_l (me_r (me_l (List.mem_of_getElem? (i := 16) rfl))))) (fa_c (me_s (me_l (me_r (me_l (List.mem_of_getElem? (i := 17) rfl))))) (fa_c (me_s (me_l (me_r (me_l (List.mem_of_getElem? (i := 18) rfl))))) (fa_c (me_s (me_l (me_r (me_l (List.mem_of_getElem? (i := 19) rfl))))) (fa_c (me_s (me_l (me_r (me_l (List.mem_of_getElem? (i := 20) rfl))))) (fa_c (me_s (me_l (me_r (me_l (List.mem_of_getElem? (i := 21) rfl))))) (fa_c (me_s (me_l (me_r (me_l (List.mem_of_getElem? (i := 22) rfl))))) (fa_c (me_s (me_l (me_r (me_l (List.mem_of_getElem? (i := 23) rfl))))) fa_n)))))))))))))))))))))))) (fa_c (me_s (me_l (me_r (me_r (List.mem_of_getElem? (i := 0) rfl))))) (fa_c (me_s (me_l (me_r (me_r (List.mem_of_getElem? (i := 1) rfl))))) (fa_c (me_s (me_l (me_r (me_r (List.mem_of_getElem? (i := 2) rfl))))) fa_n))))) (fun w h => (me_s (me_r h))))) (by decide +kernel)
set_option maxRecDepth 20000 in
theorem gX9_either_X9_all : GoodIn wsX9_either (wsV RX9 97 RX9 yX9_all wsX9_all) := goodIn_app (goodIn_sub (fa_c (me_s (me_l (me_l (List.mem_of_getElem? (i := 1) rfl)))) (fa_c (me_s (me_l (me_l (List.mem_of_getElem? (i := 2) rfl)))) (fa_c (me_s (me_l (me_l (List.mem_of_getElem? (i := 3) rfl)))) (fa_c (me_s (me_l (me_l (List.mem_of_getElem? (i := 4) rfl)))) fa_n)))) (by decide +kernel)) ggX9_either_X9_all
theorem dX9_either_2 : decode cX9_either 2 = .ok (.invokevirtual 97, 3) := by decide +kernel
theorem dX9_either_5 : decode cX9_either 5 = .ok (.ifCond .ne 5, 3) := by decide +kernel
theorem dX9_either_10 : decode cX9_either 10 = .ok (.iconst 0, 1) := by decide +kernel
theorem dX9_either_11 : decode cX9_either 11 = .ok (.istore_n 2, 1) := by decide +kernel
theorem dX9_either_12 : decode cX9_either 12 = .ok (.iload_n 2, 1) := by decide +kernel
theorem dX9_either_13 : decode cX9_either 13 = .ok (.sipush 500, 3) := by decide +kernel
theorem dX9_either_16 : decode cX9_either 16 = .ok (.if_icmp .ge 39, 3) := by decide +kernel
theorem dX9_either_55 : decode cX9_either 55 = .ok (.iconst 1, 1) := by decide +kernel
theorem dX9_either_56 : decode cX9_either 56 = .ok (.ireturn, 1) := by decide +kernel
theorem dX9_either_19 : decode cX9_either 19 = .ok (.aload_n 0, 1) := by decide +kernel
theorem dX9_either_20 : decode cX9_either 20 = .ok (.getfield 62, 3) := by decide +kernel
theorem dX9_either_23 : decode cX9_either 23 = .ok (.sipush 309, 3) := by decide +kernel
theorem dX9_either_26 : decode cX9_either 26 = .ok (.if_icmp .ne 29, 3) := by decide +kernel
theorem dX9_either_29 : decode cX9_either 29 = .ok (.aload_n 0, 1) := by decide +kernel
set_option maxRecDepth 20000 in
theorem ggX9_either_X9_step : GoodIn wsX9_either wsX9_step := goodIn_sub (fa_c (me_s (me_l (me_l (List.mem_of_getElem? (i := 8) rfl)))) (fa_a (fa_c (me_s (me_l (me_l (List.mem_of_getElem? (i := 9) rfl)))) (fa_c (me_s (me_l (me_l (List.mem_of_getElem? (i := 10) rfl)))) (fa_c (me_s (me_l (me_l (List.mem_of_getElem? (i := 11) rfl)))) (fa_c (me_s (me_l (me_l (List.mem_of_getElem? (i := 0) rfl)))) fa_n)))) (fun w h => (me_s (me_r h))))) (by decide +kernel)
set_option maxRecDepth 20000 in
theorem gX9_either_X9_step : GoodIn wsX9_either (wsV RX9 59 RX9 yX9_step wsX9_step) := goodIn_app (goodIn_sub (fa_c (me_s (me_l (me_l (List.mem_of_getElem? (i := 5) rfl)))) (fa_c (me_s (me_l (me_l (List.mem_of_getElem? (i := 6) rfl)))) (fa_c (me_s (me_l (me_l (List.mem_of_getElem? (i := 7) rfl)))) (fa_c (me_s (me_l (me_l (List.mem_of_getElem? (i := 4) rfl)))) fa_n)))) (by decide +kernel)) ggX9_either_X9_step
theorem dX9_either_30 : decode cX9_either 30 = .ok (.invokevirtual 59, 3) := by decide +kernel
theorem dX9_either_33 : decode cX9_either 33 = .ok (.aload_n 0, 1) := by decide +kernel
theorem dX9_either_34 : decode cX9_either 34 = .ok (.iload_n 1, 1) := by decide +kernel
theorem dX9_either_35 : decode cX9_either 35 = .ok (.invokevirtual 97, 3) := by decide +kernel
theorem dX9_either_38 : decode cX9_either 38 = .ok (.ifCond .ne 5, 3) := by decide +kernel
theorem dX9_either_43 : decode cX9_either 43 = .ok (.aload_n 0, 1) := by decide +kernel
theorem dX9_either_44 : decode cX9_either 44 = .ok (.bipush (-11), 2) := by decide +kernel
set_option maxRecDepth 20000 in
theorem ggX9_either_X9_emit : GoodIn wsX9_either wsX9_emit := goodIn_sub (fa_c (me_s (me_l (me_l (List.mem_of_getElem? (i := 15) rfl)))) (fa_a (fa_c (me_s (me_l (me_l (List.mem_of_getElem? (i := 16) rfl)))) (fa_c (me_s (me_l (me_l (List.mem_of_getElem? (i := 17) rfl)))) fa_n)) (fun w h => (me_s (me_r h))))) (by decide +kernel)
set_option maxRecDepth 20000 in
theorem gX9_either_X9_emit : GoodIn wsX9_either (wsV RX9 82 RX9 yX9_emit wsX9_emit) := goodIn_app (goodIn_sub (fa_c (me_s (me_l (me_l (List.mem_of_getElem? (i := 12) rfl)))) (fa_c (me_s (me_l (me_l (List.mem_of_getElem? (i := 13) rfl)))) (fa_c (me_s (me_l (me_l (List.mem_of_getElem? (i := 14) rfl)))) (fa_c (me_s (me_l (me_l (List.mem_of_getElem? (i := 4) rfl)))) fa_n)))) (by decide +kernel)) ggX9_either_X9_emit
theorem dX9_either_46 : decode cX9_either 46 = .ok (.invokevirtual 82, 3) := by decide +kernel
theorem dX9_either_49 : decode cX9_either 49 = .ok (.iinc 2 1, 3) := by decide +kernel
theorem dX9_either_52 : decode cX9_either 52 = .ok (.goto (-40), 3) := by decide +kernel
theorem dX9_either_41 : decode cX9_either 41 = .ok (.iconst 0, 1) := by decide +kernel
theorem dX9_either_42 : decode cX9_either 42 = .ok (.ireturn, 1) := by decide +kernel
theorem dX9_either_8 : decode cX9_either 8 = .ok (.iconst 0, 1) := by decide +kernel
theorem dX9_either_9 : decode cX9_either 9 = .ok (.ireturn, 1) := by decide +kernel
theorem dX9_atom_101 : decode cX9_atom 101 = .ok (.aload_n 0, 1) := by decide +kernel
theorem dX9_atom_102 : decode cX9_atom 102 = .ok (.invokevirtual 59, 3) := by decide +kernel
theorem dX9_atom_105 : decode cX9_atom 105 = .ok (.iload_n 2, 1) := by decide +kernel
theorem dX9_atom_106 : decode cX9_atom 106 = .ok (.bipush 40, 2) := by decide +kernel
theorem dX9_atom_108 : decode cX9_atom 108 = .ok (.if_icmp .ne 28, 3) := by decide +kernel
theorem dX9_atom_111 : decode cX9_atom 111 = .ok (.aload_n 0, 1) := by decide +kernel
theorem dX9_atom_112 : decode cX9_atom 112 = .ok (.iload_n 1, 1) := by decide +kernel
theorem dX9_atom_113 : decode cX9_atom 113 = .ok (.iconst 1, 1) := by decide +kernel
theorem dX9_atom_114 : decode cX9_atom 114 = .ok (.iadd, 1) := by decide +kernel
set_option maxRecDepth 20000 in
theorem ggX9_atom_X9_sum : GoodIn wsX9_atom wsX9_sum := goodIn_sub (fa_c (me_s (me_l (me_r (List.mem_of_getElem? (i := 7) rfl)))) (fa_a (fa_a (fa_c (me_s (me_l (me_l (List.mem_of_getElem? (i := 0) rfl)))) (fa_c (me_s (me_l (me_r (List.mem_of_getElem? (i := 8) rfl)))) (fa_c (me_s (me_l (me_r (List.mem_of_getElem? (i := 9) rfl)))) (fa_c (me_s (me_l (me_r (List.mem_of_getElem? (i := 10) rfl)))) (fa_c (me_s (me_l (me_l (List.mem_of_getElem? (i := 4) rfl)))) (fa_c (me_s (me_l (me_l (List.mem_of_getElem? (i := 14) rfl)))) (fa_c (me_s (me_l (me_l (List.mem_of_getElem? (i := 15) rfl)))) (fa_c (me_s (me_l (me_l (List.mem_of_getElem? (i := 16) rfl)))) (fa_c (me_s (me_l (me_l (List.mem_of_getElem? (i := 17) rfl)))) (fa_c (me_s (me_l (me_l (List.mem_of_getElem? (i := 6) rfl)))) (fa_c (me_s (me_l (me_l (List.mem_of_getElem? (i := 18) rfl)))) (fa_c (me_s (me_l (me_l (List.mem_of_getElem? (i := 19) rfl)))) (fa_c (me_s (me_l (me_l (List.mem_of_getElem? (i := 8) rfl)))) (fa_c (me_s (me_l (me_l (List.mem_of_getElem? (i := 9) rfl)))) (fa_c (me_s (me_l (me_l (List.mem_of_getElem? (i := 10) rfl)))) (fa_c (me_s (me_l (me_l (List.mem_of_getElem? (i := 11) rfl)))) (fa_c (me_s (me_l (me_l (List.mem_of_getElem? (i := 12) rfl)))) (fa_c (me_s (me_l (me_l (List.mem_of_getElem? (i := 13) rfl)))) (fa_c me_0 (fa_c (me_s (me_l (me_l (List.mem_of_getElem? (i := 1) rfl)))) (fa_c (me_s (me_l (me_l (List.mem_of_getElem? (i := 2) rfl)))) (fa_c (me_s (me_l (me_l (List.mem_of_getElem? (i := 3) rfl)))) (fa_c (me_s (me_l (me_l (List.mem_of_getElem? (i := 5) rfl)))) (fa_c (me_s (me_l (me_l (List.mem_of_getElem? (i := 7) rfl)))) fa_n)))))))))))))))))))))))) (fa_c (me_s (me_l (me_l (List.mem_of_getElem? (i := 20) rfl)))) (fa_c (me_s (me_l (me_l (List.mem_of_getElem? (i := 21) rfl)))) (fa_c (me_s (me_l (me_l (List.mem_of_getElem? (i := 22) rfl)))) (fa_c (me_s (me_l (me_l (List.mem_of_getElem? (i := 23) rfl)))) (fa_c (me_s (me_l (me_r (List.mem_of_getElem? (i := 0) rfl)))) (fa_c (me_s (me_l (me_r (List.mem_of_getElem? (i := 1) rfl)))) (fa_c (me_s (me_l (me_r (List.mem_of_getElem? (i := 2) rfl)))) (fa_c (me_s (me_l (me_r (List.mem_of_getElem? (i := 3) rfl)))) (fa_c (me_s (me_l (me_r (List.mem_of_getElem? (i := 4) rfl)))) (fa_c (me_s (me_l (me_r (List.mem_of_getElem? (i := 5) rfl)))) (fa_c (me_s (me_l (me_r (List.mem_of_getElem? (i := 6) rfl)))) fa_n)))))))))))) (fun w h => (me_s (me_r h))))) (by decide +kernel)
set_option maxRecDepth 20000 in
theorem gX9_atom_X9_sum : GoodIn wsX9_atom (wsV RX9 79 RX9 yX9_sum wsX9_sum) := goodIn_app (goodIn_sub (fa_c (me_s (me_l (me_l (List.mem_of_getElem? (i := 20) rfl)))) (fa_c (me_s (me_l (me_l (List.mem_of_getElem? (i := 21) rfl)))) (fa_c (me_s (me_l (me_l (List.mem_of_getElem? (i := 22) rfl)))) (fa_c (me_s (me_l (me_l (List.mem_of_getElem? (i := 4) rfl)))) fa_n)))) (by decide +kernel)) ggX9_atom_X9_sum
theorem dX9_atom_115 : decode cX9_atom 115 = .ok (.invokevirtual 79, 3) := by decide +kernel
theorem dX9_atom_118 : decode cX9_atom 118 = .ok (.ifCond .eq 16, 3) := by decide +kernel
theorem dX9_atom_121 : decode cX9_atom 121 = .ok (.aload_n 0, 1) := by decide +kernel
theorem dX9_atom_122 : decode cX9_atom 122 = .ok (.bipush 41, 2) := by decide +kernel
set_option maxRecDepth 20000 in
theorem ggX9_atom_X9_taken : GoodIn wsX9_atom wsX9_taken := goodIn_sub (fa_c (me_s (me_l (me_r (List.mem_of_getElem? (i := 2) rfl)))) (fa_a (fa_c (me_s (me_l (me_l (List.mem_of_getElem? (i := 0) rfl)))) (fa_c (me_s (me_l (me_l (List.mem_of_getElem? (i := 14) rfl)))) (fa_c (me_s (me_l (me_l (List.mem_of_getElem? (i := 15) rfl)))) (fa_c (me_s (me_l (me_l (List.mem_of_getElem? (i := 16) rfl)))) (fa_c (me_s (me_l (me_l (List.mem_of_getElem? (i := 4) rfl)))) (fa_c (me_s (me_l (me_l (List.mem_of_getElem? (i := 17) rfl)))) (fa_c (me_s (me_l (me_l (List.mem_of_getElem? (i := 6) rfl)))) (fa_c (me_s (me_l (me_l (List.mem_of_getElem? (i := 18) rfl)))) (fa_c (me_s (me_l (me_l (List.mem_of_getElem? (i := 19) rfl)))) fa_n))))))))) (fun w h => (me_s (me_r h))))) (by decide +kernel)
set_option maxRecDepth 20000 in
theorem gX9_atom_X9_taken : GoodIn wsX9_atom (wsV RX9 69 RX9 yX9_taken wsX9_taken) := goodIn_app (goodIn_sub (fa_c (me_s (me_l (me_l (List.mem_of_getElem? (i := 23) rfl)))) (fa_c (me_s (me_l (me_r (List.mem_of_getElem? (i := 0) rfl)))) (fa_c (me_s (me_l (me_r (List.mem_of_getElem? (i := 1) rfl)))) (fa_c (me_s (me_l (me_l (List.mem_of_getElem? (i := 4) rfl)))) fa_n)))) (by decide +kernel)) ggX9_atom_X9_taken
theorem dX9_atom_124 : decode cX9_atom 124 = .ok (.invokevirtual 69, 3) := by decide +kernel
theorem dX9_atom_127 : decode cX9_atom 127 = .ok (.ifCond .eq 7, 3) := by decide +kernel
theorem dX9_atom_130 : decode cX9_atom 130 = .ok (.iconst 1, 1) := by decide +kernel
theorem dX9_atom_131 : decode cX9_atom 131 = .ok (.goto 4, 3) := by decide +kernel
theorem dX9_atom_135 : decode cX9_atom 135 = .ok (.ireturn, 1) := by decide +kernel
theorem dX9_atom_134 : decode cX9_atom 134 = .ok (.iconst 0, 1) := by decide +kernel
theorem dX9_atom_136 : decode cX9_atom 136 = .ok (.aload_n 0, 1) := by decide +kernel
theorem dX9_atom_137 : decode cX9_atom 137 = .ok (.bipush 40, 2) := by decide +kernel
theorem dX9_atom_139 : decode cX9_atom 139 = .ok (.invokevirtual 69, 3) := by decide +kernel
theorem dX9_atom_142 : decode cX9_atom 142 = .ok (.ifCond .eq 41, 3) := by decide +kernel
theorem dX9_atom_145 : decode cX9_atom 145 = .ok (.aload_n 0, 1) := by decide +kernel
theorem dX9_atom_146 : decode cX9_atom 146 = .ok (.iload_n 1, 1) := by decide +kernel
theorem dX9_atom_147 : decode cX9_atom 147 = .ok (.iconst 1, 1) := by decide +kernel
theorem dX9_atom_148 : decode cX9_atom 148 = .ok (.iadd, 1) := by decide +kernel
theorem dX9_atom_149 : decode cX9_atom 149 = .ok (.invokevirtual 79, 3) := by decide +kernel
theorem dX9_atom_152 : decode cX9_atom 152 = .ok (.ifCond .eq 31, 3) := by decide +kernel
theorem dX9_atom_155 : decode cX9_atom 155 = .ok (.aload_n 0, 1) := by decide +kernel
theorem dX9_atom_156 : decode cX9_atom 156 = .ok (.bipush 44, 2) := by decide +kernel
theorem dX9_atom_158 : decode cX9_atom 158 = .ok (.invokevirtual 69, 3) := by decide +kernel
theorem dX9_atom_161 : decode cX9_atom 161 = .ok (.ifCond .eq 22, 3) := by decide +kernel
theorem dX9_atom_164 : decode cX9_atom 164 = .ok (.aload_n 0, 1) := by decide +kernel
theorem dX9_atom_165 : decode cX9_atom 165 = .ok (.iload_n 1, 1) := by decide +kernel
theorem dX9_atom_166 : decode cX9_atom 166 = .ok (.iconst 1, 1) := by decide +kernel
theorem dX9_atom_167 : decode cX9_atom 167 = .ok (.iadd, 1) := by decide +kernel
theorem dX9_atom_168 : decode cX9_atom 168 = .ok (.invokevirtual 79, 3) := by decide +kernel
theorem dX9_atom_171 : decode cX9_atom 171 = .ok (.ifCond .eq 12, 3) := by decide +kernel
theorem dX9_atom_174 : decode cX9_atom 174 = .ok (.aload_n 0, 1) := by decide +kernel
theorem dX9_atom_175 : decode cX9_atom 175 = .ok (.bipush 41, 2) := by decide +kernel
theorem dX9_atom_177 : decode cX9_atom 177 = .ok (.invokevirtual 69, 3) := by decide +kernel
theorem dX9_atom_180 : decode cX9_atom 180 = .ok (.ifCond .ne 5, 3) := by decide +kernel
theorem dX9_atom_185 : decode cX9_atom 185 = .ok (.aload_n 0, 1) := by decide +kernel
theorem dX9_atom_186 : decode cX9_atom 186 = .ok (.iload_n 2, 1) := by decide +kernel
theorem dX9_atom_187 : decode cX9_atom 187 = .ok (.sipush 312, 3) := by decide +kernel
theorem dX9_atom_190 : decode cX9_atom 190 = .ok (.if_icmp .ne 8, 3) := by decide +kernel
theorem dX9_atom_193 : decode cX9_atom 193 = .ok (.bipush (-5), 2) := by decide +kernel
theorem dX9_atom_195 : decode cX9_atom 195 = .ok (.goto 5, 3) := by decide +kernel
theorem dX9_atom_200 : decode cX9_atom 200 = .ok (.invokevirtual 82, 3) := by decide +kernel
theorem dX9_atom_203 : decode cX9_atom 203 = .ok (.iconst 1, 1) := by decide +kernel
theorem dX9_atom_204 : decode cX9_atom 204 = .ok (.ireturn, 1) := by decide +kernel
theorem dX9_atom_183 : decode cX9_atom 183 = .ok (.iconst 0, 1) := by decide +kernel
theorem dX9_atom_184 : decode cX9_atom 184 = .ok (.ireturn, 1) := by decide +kernel
theorem dX9_atom_198 : decode cX9_atom 198 = .ok (.bipush (-6), 2) := by decide +kernel
theorem dX9_opened_8 : decode cX9_opened 8 = .ok (.aload_n 0, 1) := by decide +kernel
theorem dX9_opened_9 : decode cX9_opened 9 = .ok (.getfield 62, 3) := by decide +kernel
theorem dX9_opened_12 : decode cX9_opened 12 = .ok (.sipush 311, 3) := by decide +kernel
theorem dX9_opened_15 : decode cX9_opened 15 = .ok (.if_icmp .ne 7, 3) := by decide +kernel
theorem dX9_opened_22 : decode cX9_opened 22 = .ok (.iconst 0, 1) := by decide +kernel
theorem dX9_opened_23 : decode cX9_opened 23 = .ok (.istore_n 2, 1) := by decide +kernel
theorem dX9_opened_24 : decode cX9_opened 24 = .ok (.aload_n 0, 1) := by decide +kernel
set_option maxRecDepth 20000 in
theorem ggX9_opened_X9_step : GoodIn wsX9_opened wsX9_step := goodIn_sub (fa_c (me_s (me_l (me_l (List.mem_of_getElem? (i := 5) rfl)))) (fa_a (fa_c (me_s (me_l (me_l (List.mem_of_getElem? (i := 6) rfl)))) (fa_c (me_s (me_l (me_l (List.mem_of_getElem? (i := 7) rfl)))) (fa_c (me_s (me_l (me_l (List.mem_of_getElem? (i := 8) rfl)))) (fa_c (me_s (me_l (me_l (List.mem_of_getElem? (i := 0) rfl)))) fa_n)))) (fun w h => (me_s (me_r h))))) (by decide +kernel)
set_option maxRecDepth 20000 in
theorem gX9_opened_X9_step : GoodIn wsX9_opened (wsV RX9 59 RX9 yX9_step wsX9_step) := goodIn_app (goodIn_sub (fa_c (me_s (me_l (me_l (List.mem_of_getElem? (i := 1) rfl)))) (fa_c (me_s (me_l (me_l (List.mem_of_getElem? (i := 2) rfl)))) (fa_c (me_s (me_l (me_l (List.mem_of_getElem? (i := 3) rfl)))) (fa_c (me_s (me_l (me_l (List.mem_of_getElem? (i := 4) rfl)))) fa_n)))) (by decide +kernel)) ggX9_opened_X9_step
theorem dX9_opened_25 : decode cX9_opened 25 = .ok (.invokevirtual 59, 3) := by decide +kernel
theorem dX9_opened_28 : decode cX9_opened 28 = .ok (.iload_n 2, 1) := by decide +kernel
theorem dX9_opened_29 : decode cX9_opened 29 = .ok (.ifCond .ne 28, 3) := by decide +kernel
theorem dX9_opened_32 : decode cX9_opened 32 = .ok (.aload_n 0, 1) := by decide +kernel
theorem dX9_opened_33 : decode cX9_opened 33 = .ok (.iload_n 1, 1) := by decide +kernel
theorem dX9_opened_34 : decode cX9_opened 34 = .ok (.iconst 1, 1) := by decide +kernel
theorem dX9_opened_35 : decode cX9_opened 35 = .ok (.iadd, 1) := by decide +kernel
set_option maxRecDepth 20000 in
theorem ggX9_opened_X9_either : GoodIn wsX9_opened wsX9_either := goodIn_sub (fa_c (me_s (me_l (me_r (me_l (List.mem_of_getElem? (i := 2) rfl))))) (fa_a (fa_a (fa_c (me_s (me_l (me_l (List.mem_of_getElem? (i := 0) rfl)))) (fa_c (me_s (me_l (me_r (me_l (List.mem_of_getElem? (i := 3) rfl))))) (fa_c (me_s (me_l (me_r (me_l (List.mem_of_getElem? (i := 4) rfl))))) (fa_c (me_s (me_l (me_r (me_l (List.mem_of_getElem? (i := 5) rfl))))) (fa_c (me_s (me_l (me_l (List.mem_of_getElem? (i := 4) rfl)))) (fa_c (me_s (me_l (me_l (List.mem_of_getElem? (i := 1) rfl)))) (fa_c (me_s (me_l (me_l (List.mem_of_getElem? (i := 2) rfl)))) (fa_c (me_s (me_l (me_l (List.mem_of_getElem? (i := 3) rfl)))) (fa_c (me_s (me_l (me_l (List.mem_of_getElem? (i := 5) rfl)))) (fa_c (me_s (me_l (me_l (List.mem_of_getElem? (i := 6) rfl)))) (fa_c (me_s (me_l (me_l (List.mem_of_getElem? (i := 7) rfl)))) (fa_c (me_s (me_l (me_l (List.mem_of_getElem? (i := 8) rfl)))) (fa_c (me_s (me_l (me_l (List.mem_of_getElem? (i := 19) rfl)))) (fa_c (me_s (me_l (me_l (List.mem_of_getElem? (i := 20) rfl)))) (fa_c (me_s (me_l (me_l (List.mem_of_getElem? (i := 21) rfl)))) (fa_c (me_s (me_l (me_l (List.mem_of_getElem? (i := 22) rfl)))) (fa_c (me_s (me_l (me_l (List.mem_of_getElem? (i := 23) rfl)))) (fa_c (me_s (me_l (me_r (me_l (List.mem_of_getElem? (i := 0) rfl))))) (fa_c (me_s (me_l (me_r (me_l (List.mem_of_getElem? (i := 1) rfl))))) (fa_c (me_s (me_l (me_l (List.mem_of_getElem? (i := 16) rfl)))) (fa_c (me_s (me_l (me_l (List.mem_of_getElem? (i := 17) rfl)))) (fa_c (me_s (me_l (me_l (List.mem_of_getElem? (i := 18) rfl)))) (fa_c (me_s (me_l (me_r (me_l (List.mem_of_getElem? (i := 6) rfl))))) (fa_c (me_s (me_l (me_r (me_l (List.mem_of_getElem? (i := 7) rfl))))) fa_n)))))))))))))))))))))))) (fa_a (fa_c (me_s (me_l (me_r (me_l (List.mem_of_getElem? (i := 8) rfl))))) (fa_c (me_s (me_l (me_r (me_l (List.mem_of_getElem? (i := 9) rfl))))) (fa_c (me_s (me_l (me_r (me_l (List.mem_of_getElem? (i := 10) rfl))))) (fa_c (me_s (me_l (me_r (me_l (List.mem_of_getElem? (i := 11) rfl))))) (fa_c (me_s (me_l (me_r (me_l (List.mem_of_getElem? (i := 12) rfl))))) (fa_c (me_s (me_l (me_r (me_l (List.mem_of_getElem? (i := 13) rfl))))) (fa_c (me_s (me_l (me_r (me_l (List.mem_of_getElem? (i := 14) rfl))))) (fa_c (me_s (me_l (me_r (me_l (List.mem_of_getElem? (i := 15) rfl))))) (fa_c (me_s (me_l (me_r (me_l (List.mem_of_getElem? (i := 16) rfl))))) (fa_c (me_s (me_l (me_r (me_l (List.mem_of_getElem? (i := 17) rfl))))) (fa_c (me_s (me_l (me_r (me_l (List.mem_of_getElem? (i := 18) rfl))))) (fa_c (me_s (me_l (me_r (me_l (List.mem_of_getElem? (i := 19) rfl))))) (fa_c (me_s (me_l (me_r (me_l (List.mem_of_getElem? (i := 20) rfl))))) (fa_c (me_s (me_l (me_r (me_l (List.mem_of_getElem? (i := 21) rfl))))) (fa_c (me_s (me_l (me_r (me_l (List.mem_of_getElem? (i := 22) rfl))))) (fa_c (me_s (me_l (me_l (List.mem_of_getElem? (i := 12) rfl)))) (fa_c (me_s (me_l (me_l (List.mem_of_getElem? (i := 13) rfl)))) (fa_c (me_s (me_l (me_l (List.mem_of_getElem? (i := 14) rfl)))) (fa_c (me_s (me_l (me_l (List.mem_of_getElem? (i := 15) rfl)))) (fa_c (me_s (me_l (me_r (me_l (List.mem_of_getElem? (i := 23) rfl))))) (fa_c (me_s (me_l (me_r (me_r (List.mem_of_getElem? (i := 0) rfl))))) (fa_c (me_s (me_l (me_r (me_r (List.mem_of_getElem? (i := 1) rfl))))) (fa_c (me_s (me_l (me_r (me_r (List.mem_of_getElem? (i := 2) rfl))))) (fa_c me_0 fa_n)))))))))))))))))))))))) (fa_c (me_s (me_l (me_l (List.mem_of_getElem? (i := 9) rfl)))) (fa_c (me_s (me_l (me_l (List.mem_of_getElem? (i := 10) rfl)))) (fa_c (me_s (me_l (me_l (List.mem_of_getElem? (i := 11) rfl)))) fa_n))))) (fun w h => (me_s (me_r h))))) (by decide +kernel)
set_option maxRecDepth 20000 in
theorem gX9_opened_X9_either : GoodIn wsX9_opened (wsV RX9 91 RX9 yX9_either wsX9_either) := goodIn_app (goodIn_sub (fa_c (me_s (me_l (me_l (List.mem_of_getElem? (i := 9) rfl)))) (fa_c (me_s (me_l (me_l (List.mem_of_getElem? (i := 10) rfl)))) (fa_c (me_s (me_l (me_l (List.mem_of_getElem? (i := 11) rfl)))) (fa_c (me_s (me_l (me_l (List.mem_of_getElem? (i := 4) rfl)))) fa_n)))) (by decide +kernel)) ggX9_opened_X9_either
theorem dX9_opened_36 : decode cX9_opened 36 = .ok (.invokevirtual 91, 3) := by decide +kernel
theorem dX9_opened_39 : decode cX9_opened 39 = .ok (.ifCond .eq 16, 3) := by decide +kernel
theorem dX9_opened_42 : decode cX9_opened 42 = .ok (.aload_n 0, 1) := by decide +kernel
theorem dX9_opened_43 : decode cX9_opened 43 = .ok (.bipush 125, 2) := by decide +kernel
set_option maxRecDepth 20000 in
theorem ggX9_opened_X9_taken : GoodIn wsX9_opened wsX9_taken := goodIn_sub (fa_c (me_s (me_l (me_l (List.mem_of_getElem? (i := 15) rfl)))) (fa_a (fa_c (me_s (me_l (me_l (List.mem_of_getElem? (i := 0) rfl)))) (fa_c (me_s (me_l (me_l (List.mem_of_getElem? (i := 1) rfl)))) (fa_c (me_s (me_l (me_l (List.mem_of_getElem? (i := 2) rfl)))) (fa_c (me_s (me_l (me_l (List.mem_of_getElem? (i := 3) rfl)))) (fa_c (me_s (me_l (me_l (List.mem_of_getElem? (i := 4) rfl)))) (fa_c (me_s (me_l (me_l (List.mem_of_getElem? (i := 5) rfl)))) (fa_c (me_s (me_l (me_l (List.mem_of_getElem? (i := 6) rfl)))) (fa_c (me_s (me_l (me_l (List.mem_of_getElem? (i := 7) rfl)))) (fa_c (me_s (me_l (me_l (List.mem_of_getElem? (i := 8) rfl)))) fa_n))))))))) (fun w h => (me_s (me_r h))))) (by decide +kernel)
set_option maxRecDepth 20000 in
theorem gX9_opened_X9_taken : GoodIn wsX9_opened (wsV RX9 69 RX9 yX9_taken wsX9_taken) := goodIn_app (goodIn_sub (fa_c (me_s (me_l (me_l (List.mem_of_getElem? (i := 12) rfl)))) (fa_c (me_s (me_l (me_l (List.mem_of_getElem? (i := 13) rfl)))) (fa_c (me_s (me_l (me_l (List.mem_of_getElem? (i := 14) rfl)))) (fa_c (me_s (me_l (me_l (List.mem_of_getElem? (i := 4) rfl)))) fa_n)))) (by decide +kernel)) ggX9_opened_X9_taken
theorem dX9_opened_45 : decode cX9_opened 45 = .ok (.invokevirtual 69, 3) := by decide +kernel
theorem dX9_opened_48 : decode cX9_opened 48 = .ok (.ifCond .eq 7, 3) := by decide +kernel
theorem dX9_opened_51 : decode cX9_opened 51 = .ok (.iconst 1, 1) := by decide +kernel
theorem dX9_opened_52 : decode cX9_opened 52 = .ok (.goto 4, 3) := by decide +kernel
theorem dX9_opened_56 : decode cX9_opened 56 = .ok (.ireturn, 1) := by decide +kernel
theorem dX9_opened_55 : decode cX9_opened 55 = .ok (.iconst 0, 1) := by decide +kernel
theorem dX9_opened_18 : decode cX9_opened 18 = .ok (.iconst 1, 1) := by decide +kernel
theorem dX9_opened_19 : decode cX9_opened 19 = .ok (.goto 4, 3) := by decide +kernel
theorem dX9_opened_57 : decode cX9_opened 57 = .ok (.aload_n 0, 1) := by decide +kernel
theorem dX9_opened_58 : decode cX9_opened 58 = .ok (.iload_n 1, 1) := by decide +kernel
theorem dX9_opened_59 : decode cX9_opened 59 = .ok (.iconst 1, 1) := by decide +kernel
theorem dX9_opened_60 : decode cX9_opened 60 = .ok (.iadd, 1) := by decide +kernel
set_option maxRecDepth 20000 in
theorem ggX9_opened_X9_one : GoodIn wsX9_opened wsX9_one := goodIn_sub (fa_c (me_s (me_l (me_r (me_l (List.mem_of_getElem? (i := 6) rfl))))) (fa_a (fa_a (fa_c (me_s (me_l (me_l (List.mem_of_getElem? (i := 0) rfl)))) (fa_c (me_s (me_l (me_r (me_l (List.mem_of_getElem? (i := 7) rfl))))) (fa_c (me_s (me_l (me_r (me_l (List.mem_of_getElem? (i := 8) rfl))))) (fa_c (me_s (me_l (me_r (me_l (List.mem_of_getElem? (i := 9) rfl))))) (fa_c (me_s (me_l (me_l (List.mem_of_getElem? (i := 4) rfl)))) (fa_c (me_s (me_l (me_r (me_l (List.mem_of_getElem? (i := 10) rfl))))) (fa_c (me_s (me_l (me_r (me_l (List.mem_of_getElem? (i := 11) rfl))))) (fa_c (me_s (me_l (me_r (me_l (List.mem_of_getElem? (i := 12) rfl))))) (fa_c (me_s (me_l (me_r (me_l (List.mem_of_getElem? (i := 13) rfl))))) (fa_c (me_s (me_l (me_r (me_l (List.mem_of_getElem? (i := 14) rfl))))) (fa_c (me_s (me_l (me_r (me_l (List.mem_of_getElem? (i := 15) rfl))))) (fa_c (me_s (me_l (me_r (me_l (List.mem_of_getElem? (i := 16) rfl))))) (fa_c (me_s (me_l (me_l (List.mem_of_getElem? (i := 1) rfl)))) (fa_c (me_s (me_l (me_l (List.mem_of_getElem? (i := 2) rfl)))) (fa_c (me_s (me_l (me_l (List.mem_of_getElem? (i := 3) rfl)))) (fa_c (me_s (me_l (me_l (List.mem_of_getElem? (i := 5) rfl)))) (fa_c (me_s (me_l (me_l (List.mem_of_getElem? (i := 6) rfl)))) (fa_c (me_s (me_l (me_l (List.mem_of_getElem? (i := 7) rfl)))) (fa_c (me_s (me_l (me_l (List.mem_of_getElem? (i := 8) rfl)))) (fa_c (me_s (me_l (me_l (List.mem_of_getElem? (i := 19) rfl)))) (fa_c (me_s (me_l (me_l (List.mem_of_getElem? (i := 20) rfl)))) (fa_c (me_s (me_l (me_l (List.mem_of_getElem? (i := 21) rfl)))) (fa_c (me_s (me_l (me_l (List.mem_of_getElem? (i := 22) rfl)))) (fa_c (me_s (me_l (me_l (List.mem_of_getElem? (i := 23) rfl)))) fa_n)))))))))))))))))))))))) (fa_a (fa_c (me_s (me_l (me_r (me_l (List.mem_of_getElem? (i := 0) rfl))))) (fa_c (me_s (me_l (me_r (me_l (List.mem_of_getElem? (i := 17) rfl))))) (fa_c (me_s (me_l (me_r (me_l (List.mem_of_getElem? (i := 18) rfl))))) (fa_c (me_s (me_l (me_r (me_l (List.mem_of_getElem? (i := 19) rfl))))) (fa_c (me_s (me_l (me_r (me_l (List.mem_of_getElem? (i := 20) rfl))))) (fa_c (me_s (me_l (me_r (me_l (List.mem_of_getElem? (i := 21) rfl))))) (fa_c (me_s (me_l (me_r (me_l (List.mem_of_getElem? (i := 22) rfl))))) (fa_c (me_s (me_l (me_l (List.mem_of_getElem? (i := 12) rfl)))) (fa_c (me_s (me_l (me_l (List.mem_of_getElem? (i := 13) rfl)))) (fa_c (me_s (me_l (me_l (List.mem_of_getElem? (i := 14) rfl)))) (fa_c (me_s (me_l (me_l (List.mem_of_getElem? (i := 15) rfl)))) (fa_c (me_s (me_l (me_r (me_l (List.mem_of_getElem? (i := 23) rfl))))) (fa_c (me_s (me_l (me_r (me_r (List.mem_of_getElem? (i := 0) rfl))))) (fa_c (me_s (me_l (me_r (me_r (List.mem_of_getElem? (i := 1) rfl))))) (fa_c (me_s (me_l (me_r (me_r (List.mem_of_getElem? (i := 2) rfl))))) (fa_c (me_s (me_l (me_r (me_l (List.mem_of_getElem? (i := 1) rfl))))) (fa_c (me_s (me_l (me_l (List.mem_of_getElem? (i := 16) rfl)))) (fa_c (me_s (me_l (me_l (List.mem_of_getElem? (i := 17) rfl)))) (fa_c (me_s (me_l (me_l (List.mem_of_getElem? (i := 18) rfl)))) (fa_c (me_s (me_l (me_r (me_l (List.mem_of_getElem? (i := 2) rfl))))) (fa_c (me_s (me_l (me_r (me_l (List.mem_of_getElem? (i := 3) rfl))))) (fa_c (me_s (me_l (me_r (me_l (List.mem_of_getElem? (i := 4) rfl))))) (fa_c (me_s (me_l (me_r (me_l (List.mem_of_getElem? (i := 5) rfl))))) (fa_c me_0 fa_n)))))))))))))))))))))))) (fa_c (me_s (me_l (me_l (List.mem_of_getElem? (i := 9) rfl)))) (fa_c (me_s (me_l (me_l (List.mem_of_getElem? (i := 10) rfl)))) (fa_c (me_s (me_l (me_l (List.mem_of_getElem? (i := 11) rfl)))) fa_n))))) (fun w h => (me_s (me_r h))))) (by decide +kernel)
set_option maxRecDepth 20000 in
theorem gX9_opened_X9_one : GoodIn wsX9_opened (wsV RX9 100 RX9 yX9_one wsX9_one) := goodIn_app (goodIn_sub (fa_c (me_s (me_l (me_l (List.mem_of_getElem? (i := 16) rfl)))) (fa_c (me_s (me_l (me_l (List.mem_of_getElem? (i := 17) rfl)))) (fa_c (me_s (me_l (me_l (List.mem_of_getElem? (i := 18) rfl)))) (fa_c (me_s (me_l (me_l (List.mem_of_getElem? (i := 4) rfl)))) fa_n)))) (by decide +kernel)) ggX9_opened_X9_one
theorem dX9_opened_61 : decode cX9_opened 61 = .ok (.invokevirtual 100, 3) := by decide +kernel
theorem dX9_opened_64 : decode cX9_opened 64 = .ok (.ifCond .ne 5, 3) := by decide +kernel
theorem dX9_opened_69 : decode cX9_opened 69 = .ok (.aload_n 0, 1) := by decide +kernel
theorem dX9_opened_70 : decode cX9_opened 70 = .ok (.bipush (-12), 2) := by decide +kernel
set_option maxRecDepth 20000 in
theorem ggX9_opened_X9_emit : GoodIn wsX9_opened wsX9_emit := goodIn_sub (fa_c (me_s (me_l (me_l (List.mem_of_getElem? (i := 22) rfl)))) (fa_a (fa_c (me_s (me_l (me_l (List.mem_of_getElem? (i := 23) rfl)))) (fa_c (me_s (me_l (me_r (me_l (List.mem_of_getElem? (i := 0) rfl))))) fa_n)) (fun w h => (me_s (me_r h))))) (by decide +kernel)
set_option maxRecDepth 20000 in
theorem gX9_opened_X9_emit : GoodIn wsX9_opened (wsV RX9 82 RX9 yX9_emit wsX9_emit) := goodIn_app (goodIn_sub (fa_c (me_s (me_l (me_l (List.mem_of_getElem? (i := 19) rfl)))) (fa_c (me_s (me_l (me_l (List.mem_of_getElem? (i := 20) rfl)))) (fa_c (me_s (me_l (me_l (List.mem_of_getElem? (i := 21) rfl)))) (fa_c (me_s (me_l (me_l (List.mem_of_getElem? (i := 4) rfl)))) fa_n)))) (by decide +kernel)) ggX9_opened_X9_emit
theorem dX9_opened_72 : decode cX9_opened 72 = .ok (.invokevirtual 82, 3) := by decide +kernel
theorem dX9_opened_75 : decode cX9_opened 75 = .ok (.iconst 1, 1) := by decide +kernel
theorem dX9_opened_76 : decode cX9_opened 76 = .ok (.ireturn, 1) := by decide +kernel
theorem dX9_opened_67 : decode cX9_opened 67 = .ok (.iconst 0, 1) := by decide +kernel
theorem dX9_opened_68 : decode cX9_opened 68 = .ok (.ireturn, 1) := by decide +kernel
theorem z_l309 : (309 : Int32).toInt = 309 := by decide
theorem z_l310 : (310 : Int32).toInt = 310 := by decide
theorem z_l311 : (311 : Int32).toInt = 311 := by decide
theorem z_l312 : (312 : Int32).toInt = 312 := by decide
theorem z_l313 : (313 : Int32).toInt = 313 := by decide
theorem z_l314 : (314 : Int32).toInt = 314 := by decide
theorem z_l320 : (320 : Int32).toInt = 320 := by decide
theorem z_l400 : (400 : Int32).toInt = 400 := by decide
theorem z_l401 : (401 : Int32).toInt = 401 := by decide
theorem z_l501 : (501 : Int32).toInt = 501 := by decide
noncomputable def z_iT (I : z_I) : Prop := (I 12 6).toInt ≤ 501 ∧ ((I 12 7).toInt = 401 ∨ (I 12 6).toInt ≤ 500)
theorem zj_X9_put_X9 : ∀ w ∈ wsX90, w ∈ wsX9_put := fun w h => (List.mem_cons_of_mem _ (List.mem_append_right _ h))
theorem zj_X9_step_X9 : ∀ w ∈ wsX90, w ∈ wsX9_step := fun w h => (List.mem_cons_of_mem _ (List.mem_append_right _ h))
theorem zj_X9_taken_X9 : ∀ w ∈ wsX90, w ∈ wsX9_taken := fun w h => (List.mem_cons_of_mem _ (List.mem_append_right _ h))
theorem zj_X9_emit_X9 : ∀ w ∈ wsX90, w ∈ wsX9_emit := fun w h => (List.mem_cons_of_mem _ (List.mem_append_right _ h))
theorem zj_X9_numberHere_X9 : ∀ w ∈ wsX90, w ∈ wsX9_numberHere := fun w h => (List.mem_cons_of_mem _ (List.mem_append_right _ h))
theorem zj_X9_place_X9 : ∀ w ∈ wsX90, w ∈ wsX9_place := fun w h => (List.mem_cons_of_mem _ (List.mem_append_right _ h))
theorem zj_X9_atom_X9 : ∀ w ∈ wsX90, w ∈ wsX9_atom := fun w h => (List.mem_cons_of_mem _ (List.mem_append_right _ h))
theorem zj_X9_product_X9 : ∀ w ∈ wsX90, w ∈ wsX9_product := fun w h => (List.mem_cons_of_mem _ (List.mem_append_right _ h))
theorem zj_X9_sum_X9 : ∀ w ∈ wsX90, w ∈ wsX9_sum := fun w h => (List.mem_cons_of_mem _ (List.mem_append_right _ h))
theorem zj_X9_one_X9 : ∀ w ∈ wsX90, w ∈ wsX9_one := fun w h => (List.mem_cons_of_mem _ (List.mem_append_right _ h))
theorem zj_X9_all_X9 : ∀ w ∈ wsX90, w ∈ wsX9_all := fun w h => (List.mem_cons_of_mem _ (List.mem_append_right _ h))
theorem zj_X9_either_X9 : ∀ w ∈ wsX90, w ∈ wsX9_either := fun w h => (List.mem_cons_of_mem _ (List.mem_append_right _ h))
theorem zj_X9_opened_X9 : ∀ w ∈ wsX90, w ∈ wsX9_opened := fun w h => (List.mem_cons_of_mem _ (List.mem_append_right _ h))