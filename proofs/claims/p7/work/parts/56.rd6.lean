theorem dX9_condition_0 : decode cX9_condition 0 = .ok (.iload_n 1, 1) := by decide +kernel
theorem dX9_condition_1 : decode cX9_condition 1 = .ok (.ifCond .lt 9, 3) := by decide +kernel
theorem dX9_condition_4 : decode cX9_condition 4 = .ok (.iload_n 1, 1) := by decide +kernel
theorem dX9_condition_5 : decode cX9_condition 5 = .ok (.bipush 24, 2) := by decide +kernel
theorem dX9_condition_7 : decode cX9_condition 7 = .ok (.if_icmp .lt 5, 3) := by decide +kernel
theorem dX9_condition_12 : decode cX9_condition 12 = .ok (.aload_n 0, 1) := by decide +kernel
set_option maxRecDepth 20000 in
theorem ggX9_condition_X9_step : GoodIn wsX9_condition wsX9_step := goodIn_sub (fa_c (me_s (me_l (me_l (List.mem_of_getElem? (i := 6) rfl)))) (fa_a (fa_c (me_s (me_l (me_l (List.mem_of_getElem? (i := 7) rfl)))) (fa_c (me_s (me_l (me_l (List.mem_of_getElem? (i := 8) rfl)))) (fa_c (me_s (me_l (me_l (List.mem_of_getElem? (i := 9) rfl)))) (fa_c (me_s (me_l (me_l (List.mem_of_getElem? (i := 10) rfl)))) fa_n)))) (fun w h => (me_s (me_r h))))) (by decide +kernel)
set_option maxRecDepth 20000 in
theorem gX9_condition_X9_step : GoodIn wsX9_condition (wsV RX9 59 RX9 yX9_step wsX9_step) := goodIn_app (goodIn_sub (fa_c (me_s (me_l (me_l (List.mem_of_getElem? (i := 2) rfl)))) (fa_c (me_s (me_l (me_l (List.mem_of_getElem? (i := 3) rfl)))) (fa_c (me_s (me_l (me_l (List.mem_of_getElem? (i := 4) rfl)))) (fa_c (me_s (me_l (me_l (List.mem_of_getElem? (i := 5) rfl)))) fa_n)))) (by decide +kernel)) ggX9_condition_X9_step
theorem dX9_condition_13 : decode cX9_condition 13 = .ok (.invokevirtual 59, 3) := by decide +kernel
theorem dX9_condition_16 : decode cX9_condition 16 = .ok (.aload_n 0, 1) := by decide +kernel
theorem dX9_condition_17 : decode cX9_condition 17 = .ok (.getfield 33, 3) := by decide +kernel
theorem dX9_condition_20 : decode cX9_condition 20 = .ok (.iload_n 1, 1) := by decide +kernel
theorem dX9_condition_21 : decode cX9_condition 21 = .ok (.aload_n 0, 1) := by decide +kernel
theorem dX9_condition_22 : decode cX9_condition 22 = .ok (.getfield 50, 3) := by decide +kernel
theorem dX9_condition_25 : decode cX9_condition 25 = .ok (.iastore, 1) := by decide +kernel
theorem dX9_condition_26 : decode cX9_condition 26 = .ok (.aload_n 0, 1) := by decide +kernel
theorem dX9_condition_27 : decode cX9_condition 27 = .ok (.iconst 0, 1) := by decide +kernel
set_option maxRecDepth 20000 in
theorem ggX9_condition_X9_either : GoodIn wsX9_condition wsX9_either := goodIn_sub (fa_c (me_s (me_l (me_l (List.mem_of_getElem? (i := 14) rfl)))) (fa_a (fa_a (fa_c (me_s (me_l (me_l (List.mem_of_getElem? (i := 10) rfl)))) (fa_c (me_s (me_l (me_l (List.mem_of_getElem? (i := 15) rfl)))) (fa_c (me_s (me_l (me_l (List.mem_of_getElem? (i := 16) rfl)))) (fa_c (me_s (me_l (me_l (List.mem_of_getElem? (i := 17) rfl)))) (fa_c (me_s (me_l (me_l (List.mem_of_getElem? (i := 5) rfl)))) (fa_c (me_s (me_l (me_l (List.mem_of_getElem? (i := 2) rfl)))) (fa_c (me_s (me_l (me_l (List.mem_of_getElem? (i := 3) rfl)))) (fa_c (me_s (me_l (me_l (List.mem_of_getElem? (i := 4) rfl)))) (fa_c (me_s (me_l (me_l (List.mem_of_getElem? (i := 6) rfl)))) (fa_c (me_s (me_l (me_l (List.mem_of_getElem? (i := 7) rfl)))) (fa_c (me_s (me_l (me_l (List.mem_of_getElem? (i := 8) rfl)))) (fa_c (me_s (me_l (me_l (List.mem_of_getElem? (i := 9) rfl)))) (fa_c (me_s (me_l (me_l (List.mem_of_getElem? (i := 18) rfl)))) (fa_c (me_s (me_l (me_l (List.mem_of_getElem? (i := 19) rfl)))) (fa_c (me_s (me_l (me_l (List.mem_of_getElem? (i := 20) rfl)))) (fa_c (me_s (me_l (me_l (List.mem_of_getElem? (i := 21) rfl)))) (fa_c (me_s (me_l (me_l (List.mem_of_getElem? (i := 1) rfl)))) (fa_c (me_s (me_l (me_l (List.mem_of_getElem? (i := 22) rfl)))) (fa_c (me_s (me_l (me_l (List.mem_of_getElem? (i := 23) rfl)))) (fa_c (me_s (me_l (me_r (me_l (List.mem_of_getElem? (i := 0) rfl))))) (fa_c (me_s (me_l (me_r (me_l (List.mem_of_getElem? (i := 1) rfl))))) (fa_c (me_s (me_l (me_r (me_l (List.mem_of_getElem? (i := 2) rfl))))) (fa_c (me_s (me_l (me_r (me_l (List.mem_of_getElem? (i := 3) rfl))))) (fa_c (me_s (me_l (me_r (me_l (List.mem_of_getElem? (i := 4) rfl))))) fa_n)))))))))))))))))))))))) (fa_a (fa_c (me_s (me_l (me_r (me_l (List.mem_of_getElem? (i := 5) rfl))))) (fa_c (me_s (me_l (me_r (me_l (List.mem_of_getElem? (i := 6) rfl))))) (fa_c (me_s (me_l (me_r (me_l (List.mem_of_getElem? (i := 7) rfl))))) (fa_c (me_s (me_l (me_r (me_l (List.mem_of_getElem? (i := 8) rfl))))) (fa_c (me_s (me_l (me_r (me_l (List.mem_of_getElem? (i := 9) rfl))))) (fa_c (me_s (me_l (me_r (me_l (List.mem_of_getElem? (i := 10) rfl))))) (fa_c (me_s (me_l (me_r (me_l (List.mem_of_getElem? (i := 11) rfl))))) (fa_c (me_s (me_l (me_r (me_l (List.mem_of_getElem? (i := 12) rfl))))) (fa_c (me_s (me_l (me_r (me_l (List.mem_of_getElem? (i := 13) rfl))))) (fa_c (me_s (me_l (me_r (me_l (List.mem_of_getElem? (i := 14) rfl))))) (fa_c (me_s (me_l (me_r (me_l (List.mem_of_getElem? (i := 15) rfl))))) (fa_c (me_s (me_l (me_r (me_l (List.mem_of_getElem? (i := 16) rfl))))) (fa_c (me_s (me_l (me_r (me_l (List.mem_of_getElem? (i := 17) rfl))))) (fa_c (me_s (me_l (me_r (me_l (List.mem_of_getElem? (i := 18) rfl))))) (fa_c (me_s (me_l (me_r (me_l (List.mem_of_getElem? (i := 19) rfl))))) (fa_c (me_s (me_l (me_r (me_l (List.mem_of_getElem? (i := 20) rfl))))) (fa_c (me_s (me_l (me_r (me_l (List.mem_of_getElem? (i := 21) rfl))))) (fa_c (me_s (me_l (me_r (me_l (List.mem_of_getElem? (i := 22) rfl))))) (fa_c (me_s (me_l (me_r (me_l (List.mem_of_getElem? (i := 23) rfl))))) (fa_c (me_s (me_l (me_r (me_r (List.mem_of_getElem? (i := 0) rfl))))) (fa_c (me_s (me_l (me_r (me_r (List.mem_of_getElem? (i := 1) rfl))))) (fa_c (me_s (me_l (me_r (me_r (List.mem_of_getElem? (i := 2) rfl))))) (fa_c (me_s (me_l (me_r (me_r (List.mem_of_getElem? (i := 3) rfl))))) (fa_c (me_s (me_l (me_r (me_r (List.mem_of_getElem? (i := 4) rfl))))) fa_n)))))))))))))))))))))))) (fa_c (me_s (me_l (me_l (List.mem_of_getElem? (i := 11) rfl)))) (fa_c (me_s (me_l (me_l (List.mem_of_getElem? (i := 12) rfl)))) (fa_c (me_s (me_l (me_l (List.mem_of_getElem? (i := 13) rfl)))) fa_n))))) (fun w h => (me_s (me_r h))))) (by decide +kernel)
set_option maxRecDepth 20000 in
theorem gX9_condition_X9_either : GoodIn wsX9_condition (wsV RX9 91 RX9 yX9_either wsX9_either) := goodIn_app (goodIn_sub (fa_c (me_s (me_l (me_l (List.mem_of_getElem? (i := 11) rfl)))) (fa_c (me_s (me_l (me_l (List.mem_of_getElem? (i := 12) rfl)))) (fa_c (me_s (me_l (me_l (List.mem_of_getElem? (i := 13) rfl)))) (fa_c (me_s (me_l (me_l (List.mem_of_getElem? (i := 5) rfl)))) fa_n)))) (by decide +kernel)) ggX9_condition_X9_either
theorem dX9_condition_28 : decode cX9_condition 28 = .ok (.invokevirtual 91, 3) := by decide +kernel
theorem dX9_condition_31 : decode cX9_condition 31 = .ok (.ifCond .ne 5, 3) := by decide +kernel
theorem dX9_condition_36 : decode cX9_condition 36 = .ok (.aload_n 0, 1) := by decide +kernel
theorem dX9_condition_37 : decode cX9_condition 37 = .ok (.bipush (-13), 2) := by decide +kernel
set_option maxRecDepth 20000 in
theorem ggX9_condition_X9_emit : GoodIn wsX9_condition wsX9_emit := goodIn_sub (fa_c (me_s (me_l (me_l (List.mem_of_getElem? (i := 21) rfl)))) (fa_a (fa_c (me_s (me_l (me_l (List.mem_of_getElem? (i := 1) rfl)))) (fa_c (me_s (me_l (me_l (List.mem_of_getElem? (i := 22) rfl)))) fa_n)) (fun w h => (me_s (me_r h))))) (by decide +kernel)
set_option maxRecDepth 20000 in
theorem gX9_condition_X9_emit : GoodIn wsX9_condition (wsV RX9 82 RX9 yX9_emit wsX9_emit) := goodIn_app (goodIn_sub (fa_c (me_s (me_l (me_l (List.mem_of_getElem? (i := 18) rfl)))) (fa_c (me_s (me_l (me_l (List.mem_of_getElem? (i := 19) rfl)))) (fa_c (me_s (me_l (me_l (List.mem_of_getElem? (i := 20) rfl)))) (fa_c (me_s (me_l (me_l (List.mem_of_getElem? (i := 5) rfl)))) fa_n)))) (by decide +kernel)) ggX9_condition_X9_emit
theorem dX9_condition_39 : decode cX9_condition 39 = .ok (.invokevirtual 82, 3) := by decide +kernel
theorem dX9_condition_42 : decode cX9_condition 42 = .ok (.iconst 1, 1) := by decide +kernel
theorem dX9_condition_43 : decode cX9_condition 43 = .ok (.ireturn, 1) := by decide +kernel
theorem dX9_condition_34 : decode cX9_condition 34 = .ok (.iconst 0, 1) := by decide +kernel
theorem dX9_condition_35 : decode cX9_condition 35 = .ok (.ireturn, 1) := by decide +kernel
theorem dX9_amountOf_0 : decode cX9_amountOf 0 = .ok (.iload_n 1, 1) := by decide +kernel
theorem dX9_amountOf_1 : decode cX9_amountOf 1 = .ok (.ifCond .lt 9, 3) := by decide +kernel
theorem dX9_amountOf_4 : decode cX9_amountOf 4 = .ok (.iload_n 1, 1) := by decide +kernel
theorem dX9_amountOf_5 : decode cX9_amountOf 5 = .ok (.bipush 24, 2) := by decide +kernel
theorem dX9_amountOf_7 : decode cX9_amountOf 7 = .ok (.if_icmp .lt 5, 3) := by decide +kernel
theorem dX9_amountOf_12 : decode cX9_amountOf 12 = .ok (.aload_n 0, 1) := by decide +kernel
set_option maxRecDepth 20000 in
theorem ggX9_amountOf_X9_step : GoodIn wsX9_amountOf wsX9_step := goodIn_sub (fa_c (me_s (me_l (List.mem_of_getElem? (i := 7) rfl))) (fa_a (fa_c (me_s (me_l (List.mem_of_getElem? (i := 8) rfl))) (fa_c (me_s (me_l (List.mem_of_getElem? (i := 9) rfl))) (fa_c (me_s (me_l (List.mem_of_getElem? (i := 10) rfl))) (fa_c (me_s (me_l (List.mem_of_getElem? (i := 1) rfl))) fa_n)))) (fun w h => (me_s (me_r h))))) (by decide +kernel)
set_option maxRecDepth 20000 in
theorem gX9_amountOf_X9_step : GoodIn wsX9_amountOf (wsV RX9 59 RX9 yX9_step wsX9_step) := goodIn_app (goodIn_sub (fa_c (me_s (me_l (List.mem_of_getElem? (i := 3) rfl))) (fa_c (me_s (me_l (List.mem_of_getElem? (i := 4) rfl))) (fa_c (me_s (me_l (List.mem_of_getElem? (i := 5) rfl))) (fa_c (me_s (me_l (List.mem_of_getElem? (i := 6) rfl))) fa_n)))) (by decide +kernel)) ggX9_amountOf_X9_step
theorem dX9_amountOf_13 : decode cX9_amountOf 13 = .ok (.invokevirtual 59, 3) := by decide +kernel
theorem dX9_amountOf_16 : decode cX9_amountOf 16 = .ok (.aload_n 0, 1) := by decide +kernel
theorem dX9_amountOf_17 : decode cX9_amountOf 17 = .ok (.getfield 27, 3) := by decide +kernel
theorem dX9_amountOf_20 : decode cX9_amountOf 20 = .ok (.iload_n 1, 1) := by decide +kernel
theorem dX9_amountOf_21 : decode cX9_amountOf 21 = .ok (.iaload, 1) := by decide +kernel
theorem dX9_amountOf_22 : decode cX9_amountOf 22 = .ok (.sipush 303, 3) := by decide +kernel
theorem dX9_amountOf_25 : decode cX9_amountOf 25 = .ok (.if_icmp .ne 7, 3) := by decide +kernel
theorem dX9_amountOf_32 : decode cX9_amountOf 32 = .ok (.iconst 0, 1) := by decide +kernel
theorem dX9_amountOf_33 : decode cX9_amountOf 33 = .ok (.istore_n 2, 1) := by decide +kernel
theorem dX9_amountOf_34 : decode cX9_amountOf 34 = .ok (.aload_n 0, 1) := by decide +kernel
theorem dX9_amountOf_35 : decode cX9_amountOf 35 = .ok (.getfield 62, 3) := by decide +kernel
theorem dX9_amountOf_38 : decode cX9_amountOf 38 = .ok (.sipush 400, 3) := by decide +kernel
theorem dX9_amountOf_41 : decode cX9_amountOf 41 = .ok (.if_icmp .ne 11, 3) := by decide +kernel
theorem dX9_amountOf_52 : decode cX9_amountOf 52 = .ok (.iconst 0, 1) := by decide +kernel
theorem dX9_amountOf_53 : decode cX9_amountOf 53 = .ok (.ireturn, 1) := by decide +kernel
theorem dX9_amountOf_44 : decode cX9_amountOf 44 = .ok (.aload_n 0, 1) := by decide +kernel
set_option maxRecDepth 20000 in
theorem ggX9_amountOf_X9_numberHere : GoodIn wsX9_amountOf wsX9_numberHere := goodIn_sub (fa_c (me_s (me_l (List.mem_of_getElem? (i := 14) rfl))) (fa_a (fa_c (me_s (me_l (List.mem_of_getElem? (i := 8) rfl))) (fa_c (me_s (me_l (List.mem_of_getElem? (i := 15) rfl))) fa_n)) (fun w h => (me_s (me_r h))))) (by decide +kernel)
set_option maxRecDepth 20000 in
theorem gX9_amountOf_X9_numberHere : GoodIn wsX9_amountOf (wsV RX9 94 RX9 yX9_numberHere wsX9_numberHere) := goodIn_app (goodIn_sub (fa_c (me_s (me_l (List.mem_of_getElem? (i := 11) rfl))) (fa_c (me_s (me_l (List.mem_of_getElem? (i := 12) rfl))) (fa_c (me_s (me_l (List.mem_of_getElem? (i := 13) rfl))) (fa_c (me_s (me_l (List.mem_of_getElem? (i := 6) rfl))) fa_n)))) (by decide +kernel)) ggX9_amountOf_X9_numberHere
theorem dX9_amountOf_45 : decode cX9_amountOf 45 = .ok (.invokevirtual 94, 3) := by decide +kernel
theorem dX9_amountOf_48 : decode cX9_amountOf 48 = .ok (.iload_n 2, 1) := by decide +kernel
theorem dX9_amountOf_49 : decode cX9_amountOf 49 = .ok (.if_icmp .ge 5, 3) := by decide +kernel
theorem dX9_amountOf_54 : decode cX9_amountOf 54 = .ok (.aload_n 0, 1) := by decide +kernel
theorem dX9_amountOf_55 : decode cX9_amountOf 55 = .ok (.getfield 30, 3) := by decide +kernel
theorem dX9_amountOf_58 : decode cX9_amountOf 58 = .ok (.iload_n 1, 1) := by decide +kernel
theorem dX9_amountOf_59 : decode cX9_amountOf 59 = .ok (.aload_n 0, 1) := by decide +kernel
theorem dX9_amountOf_60 : decode cX9_amountOf 60 = .ok (.invokevirtual 94, 3) := by decide +kernel
theorem dX9_amountOf_63 : decode cX9_amountOf 63 = .ok (.iastore, 1) := by decide +kernel
theorem dX9_amountOf_64 : decode cX9_amountOf 64 = .ok (.aload_n 0, 1) := by decide +kernel
theorem dX9_amountOf_65 : decode cX9_amountOf 65 = .ok (.invokevirtual 59, 3) := by decide +kernel
theorem dX9_amountOf_68 : decode cX9_amountOf 68 = .ok (.iconst 1, 1) := by decide +kernel
theorem dX9_amountOf_69 : decode cX9_amountOf 69 = .ok (.ireturn, 1) := by decide +kernel
theorem dX9_amountOf_28 : decode cX9_amountOf 28 = .ok (.iconst 1, 1) := by decide +kernel
theorem dX9_amountOf_29 : decode cX9_amountOf 29 = .ok (.goto 4, 3) := by decide +kernel
theorem dX9_statement_0 : decode cX9_statement 0 = .ok (.iload_n 1, 1) := by decide +kernel
theorem dX9_statement_1 : decode cX9_statement 1 = .ok (.ifCond .lt 9, 3) := by decide +kernel
theorem dX9_statement_4 : decode cX9_statement 4 = .ok (.iload_n 1, 1) := by decide +kernel
theorem dX9_statement_5 : decode cX9_statement 5 = .ok (.bipush 24, 2) := by decide +kernel
theorem dX9_statement_7 : decode cX9_statement 7 = .ok (.if_icmp .lt 5, 3) := by decide +kernel
theorem dX9_statement_12 : decode cX9_statement 12 = .ok (.aload_n 0, 1) := by decide +kernel
theorem dX9_statement_13 : decode cX9_statement 13 = .ok (.getfield 27, 3) := by decide +kernel
theorem dX9_statement_16 : decode cX9_statement 16 = .ok (.iload_n 1, 1) := by decide +kernel
theorem dX9_statement_17 : decode cX9_statement 17 = .ok (.aload_n 0, 1) := by decide +kernel
theorem dX9_statement_18 : decode cX9_statement 18 = .ok (.getfield 62, 3) := by decide +kernel
theorem dX9_statement_21 : decode cX9_statement 21 = .ok (.iastore, 1) := by decide +kernel
theorem dX9_statement_22 : decode cX9_statement 22 = .ok (.aload_n 0, 1) := by decide +kernel
theorem dX9_statement_23 : decode cX9_statement 23 = .ok (.getfield 30, 3) := by decide +kernel
theorem dX9_statement_26 : decode cX9_statement 26 = .ok (.iload_n 1, 1) := by decide +kernel
theorem dX9_statement_27 : decode cX9_statement 27 = .ok (.aload_n 0, 1) := by decide +kernel
theorem dX9_statement_28 : decode cX9_statement 28 = .ok (.getfield 50, 3) := by decide +kernel
theorem dX9_statement_31 : decode cX9_statement 31 = .ok (.iastore, 1) := by decide +kernel
theorem dX9_statement_32 : decode cX9_statement 32 = .ok (.aload_n 0, 1) := by decide +kernel
theorem dX9_statement_33 : decode cX9_statement 33 = .ok (.getfield 33, 3) := by decide +kernel
theorem dX9_statement_36 : decode cX9_statement 36 = .ok (.iload_n 1, 1) := by decide +kernel
theorem dX9_statement_37 : decode cX9_statement 37 = .ok (.iconst (-1), 1) := by decide +kernel
theorem dX9_statement_38 : decode cX9_statement 38 = .ok (.iastore, 1) := by decide +kernel
theorem dX9_statement_39 : decode cX9_statement 39 = .ok (.aload_n 0, 1) := by decide +kernel
theorem dX9_statement_40 : decode cX9_statement 40 = .ok (.getfield 62, 3) := by decide +kernel
theorem dX9_statement_43 : decode cX9_statement 43 = .ok (.sipush 300, 3) := by decide +kernel
theorem dX9_statement_46 : decode cX9_statement 46 = .ok (.if_icmp .eq 13, 3) := by decide +kernel
theorem dX9_statement_59 : decode cX9_statement 59 = .ok (.aload_n 0, 1) := by decide +kernel
set_option maxRecDepth 20000 in
theorem ggX9_statement_X9_step : GoodIn wsX9_statement wsX9_step := goodIn_sub (fa_c (me_s (me_l (me_l (List.mem_of_getElem? (i := 9) rfl)))) (fa_a (fa_c (me_s (me_l (me_l (List.mem_of_getElem? (i := 10) rfl)))) (fa_c (me_s (me_l (me_l (List.mem_of_getElem? (i := 11) rfl)))) (fa_c (me_s (me_l (me_l (List.mem_of_getElem? (i := 12) rfl)))) (fa_c (me_s (me_l (me_l (List.mem_of_getElem? (i := 1) rfl)))) fa_n)))) (fun w h => (me_s (me_r h))))) (by decide +kernel)
set_option maxRecDepth 20000 in
theorem gX9_statement_X9_step : GoodIn wsX9_statement (wsV RX9 59 RX9 yX9_step wsX9_step) := goodIn_app (goodIn_sub (fa_c (me_s (me_l (me_l (List.mem_of_getElem? (i := 5) rfl)))) (fa_c (me_s (me_l (me_l (List.mem_of_getElem? (i := 6) rfl)))) (fa_c (me_s (me_l (me_l (List.mem_of_getElem? (i := 7) rfl)))) (fa_c (me_s (me_l (me_l (List.mem_of_getElem? (i := 8) rfl)))) fa_n)))) (by decide +kernel)) ggX9_statement_X9_step
theorem dX9_statement_60 : decode cX9_statement 60 = .ok (.invokevirtual 59, 3) := by decide +kernel
theorem dX9_statement_63 : decode cX9_statement 63 = .ok (.aload_n 0, 1) := by decide +kernel
theorem dX9_statement_64 : decode cX9_statement 64 = .ok (.iconst 0, 1) := by decide +kernel
set_option maxRecDepth 20000 in
theorem ggX9_statement_X9_sum : GoodIn wsX9_statement wsX9_sum := goodIn_sub (fa_c (me_s (me_l (me_l (List.mem_of_getElem? (i := 16) rfl)))) (fa_a (fa_a (fa_c (me_s (me_l (me_l (List.mem_of_getElem? (i := 1) rfl)))) (fa_c (me_s (me_l (me_l (List.mem_of_getElem? (i := 17) rfl)))) (fa_c (me_s (me_l (me_l (List.mem_of_getElem? (i := 18) rfl)))) (fa_c (me_s (me_l (me_l (List.mem_of_getElem? (i := 19) rfl)))) (fa_c (me_s (me_l (me_l (List.mem_of_getElem? (i := 8) rfl)))) (fa_c (me_s (me_l (me_l (List.mem_of_getElem? (i := 5) rfl)))) (fa_c (me_s (me_l (me_l (List.mem_of_getElem? (i := 6) rfl)))) (fa_c (me_s (me_l (me_l (List.mem_of_getElem? (i := 7) rfl)))) (fa_c (me_s (me_l (me_l (List.mem_of_getElem? (i := 9) rfl)))) (fa_c (me_s (me_l (me_l (List.mem_of_getElem? (i := 10) rfl)))) (fa_c (me_s (me_l (me_l (List.mem_of_getElem? (i := 11) rfl)))) (fa_c (me_s (me_l (me_l (List.mem_of_getElem? (i := 12) rfl)))) (fa_c (me_s (me_l (me_l (List.mem_of_getElem? (i := 20) rfl)))) (fa_c (me_s (me_l (me_l (List.mem_of_getElem? (i := 21) rfl)))) (fa_c (me_s (me_l (me_l (List.mem_of_getElem? (i := 22) rfl)))) (fa_c (me_s (me_l (me_l (List.mem_of_getElem? (i := 23) rfl)))) (fa_c (me_s (me_l (me_l (List.mem_of_getElem? (i := 3) rfl)))) (fa_c (me_s (me_l (me_r (me_l (List.mem_of_getElem? (i := 0) rfl))))) (fa_c (me_s (me_l (me_r (me_l (List.mem_of_getElem? (i := 1) rfl))))) (fa_c (me_s (me_l (me_r (me_l (List.mem_of_getElem? (i := 2) rfl))))) (fa_c (me_s (me_l (me_r (me_l (List.mem_of_getElem? (i := 3) rfl))))) (fa_c (me_s (me_l (me_r (me_l (List.mem_of_getElem? (i := 4) rfl))))) (fa_c (me_s (me_l (me_r (me_l (List.mem_of_getElem? (i := 5) rfl))))) (fa_c (me_s (me_l (me_r (me_l (List.mem_of_getElem? (i := 6) rfl))))) fa_n)))))))))))))))))))))))) (fa_c (me_s (me_l (me_l (List.mem_of_getElem? (i := 13) rfl)))) (fa_c (me_s (me_l (me_l (List.mem_of_getElem? (i := 14) rfl)))) (fa_c (me_s (me_l (me_l (List.mem_of_getElem? (i := 15) rfl)))) (fa_c (me_s (me_l (me_r (me_l (List.mem_of_getElem? (i := 7) rfl))))) (fa_c (me_s (me_l (me_r (me_l (List.mem_of_getElem? (i := 8) rfl))))) (fa_c (me_s (me_l (me_r (me_l (List.mem_of_getElem? (i := 9) rfl))))) (fa_c (me_s (me_l (me_r (me_l (List.mem_of_getElem? (i := 10) rfl))))) (fa_c (me_s (me_l (me_r (me_l (List.mem_of_getElem? (i := 11) rfl))))) (fa_c (me_s (me_l (me_r (me_l (List.mem_of_getElem? (i := 12) rfl))))) (fa_c (me_s (me_l (me_r (me_l (List.mem_of_getElem? (i := 13) rfl))))) (fa_c (me_s (me_l (me_r (me_l (List.mem_of_getElem? (i := 14) rfl))))) fa_n)))))))))))) (fun w h => (me_s (me_r h))))) (by decide +kernel)
set_option maxRecDepth 20000 in
theorem gX9_statement_X9_sum : GoodIn wsX9_statement (wsV RX9 79 RX9 yX9_sum wsX9_sum) := goodIn_app (goodIn_sub (fa_c (me_s (me_l (me_l (List.mem_of_getElem? (i := 13) rfl)))) (fa_c (me_s (me_l (me_l (List.mem_of_getElem? (i := 14) rfl)))) (fa_c (me_s (me_l (me_l (List.mem_of_getElem? (i := 15) rfl)))) (fa_c (me_s (me_l (me_l (List.mem_of_getElem? (i := 8) rfl)))) fa_n)))) (by decide +kernel)) ggX9_statement_X9_sum
theorem dX9_statement_65 : decode cX9_statement 65 = .ok (.invokevirtual 79, 3) := by decide +kernel
theorem dX9_statement_68 : decode cX9_statement 68 = .ok (.ifCond .ne 5, 3) := by decide +kernel
theorem dX9_statement_73 : decode cX9_statement 73 = .ok (.aload_n 0, 1) := by decide +kernel
theorem dX9_statement_74 : decode cX9_statement 74 = .ok (.bipush (-13), 2) := by decide +kernel
set_option maxRecDepth 20000 in
theorem ggX9_statement_X9_emit : GoodIn wsX9_statement wsX9_emit := goodIn_sub (fa_c (me_s (me_l (me_l (List.mem_of_getElem? (i := 23) rfl)))) (fa_a (fa_c (me_s (me_l (me_l (List.mem_of_getElem? (i := 3) rfl)))) (fa_c (me_s (me_l (me_r (me_l (List.mem_of_getElem? (i := 0) rfl))))) fa_n)) (fun w h => (me_s (me_r h))))) (by decide +kernel)
set_option maxRecDepth 20000 in
theorem gX9_statement_X9_emit : GoodIn wsX9_statement (wsV RX9 82 RX9 yX9_emit wsX9_emit) := goodIn_app (goodIn_sub (fa_c (me_s (me_l (me_l (List.mem_of_getElem? (i := 20) rfl)))) (fa_c (me_s (me_l (me_l (List.mem_of_getElem? (i := 21) rfl)))) (fa_c (me_s (me_l (me_l (List.mem_of_getElem? (i := 22) rfl)))) (fa_c (me_s (me_l (me_l (List.mem_of_getElem? (i := 8) rfl)))) fa_n)))) (by decide +kernel)) ggX9_statement_X9_emit
theorem dX9_statement_76 : decode cX9_statement 76 = .ok (.invokevirtual 82, 3) := by decide +kernel
theorem dX9_statement_79 : decode cX9_statement 79 = .ok (.aload_n 0, 1) := by decide +kernel
theorem dX9_statement_80 : decode cX9_statement 80 = .ok (.getfield 62, 3) := by decide +kernel
theorem dX9_statement_83 : decode cX9_statement 83 = .ok (.sipush 308, 3) := by decide +kernel
theorem dX9_statement_86 : decode cX9_statement 86 = .ok (.if_icmp .ne 11, 3) := by decide +kernel
theorem dX9_statement_97 : decode cX9_statement 97 = .ok (.iconst 1, 1) := by decide +kernel
theorem dX9_statement_98 : decode cX9_statement 98 = .ok (.goto 4, 3) := by decide +kernel
theorem dX9_statement_102 : decode cX9_statement 102 = .ok (.ireturn, 1) := by decide +kernel
theorem dX9_statement_89 : decode cX9_statement 89 = .ok (.aload_n 0, 1) := by decide +kernel
theorem dX9_statement_90 : decode cX9_statement 90 = .ok (.iload_n 1, 1) := by decide +kernel
set_option maxRecDepth 20000 in
theorem ggX9_statement_X9_condition : GoodIn wsX9_statement wsX9_condition := goodIn_sub (fa_c (me_s (me_l (me_r (me_l (List.mem_of_getElem? (i := 18) rfl))))) (fa_a (fa_a (fa_c (me_s (me_l (me_l (List.mem_of_getElem? (i := 4) rfl)))) (fa_c (me_s (me_l (me_l (List.mem_of_getElem? (i := 3) rfl)))) (fa_c (me_s (me_l (me_l (List.mem_of_getElem? (i := 5) rfl)))) (fa_c (me_s (me_l (me_l (List.mem_of_getElem? (i := 6) rfl)))) (fa_c (me_s (me_l (me_l (List.mem_of_getElem? (i := 7) rfl)))) (fa_c (me_s (me_l (me_l (List.mem_of_getElem? (i := 8) rfl)))) (fa_c (me_s (me_l (me_l (List.mem_of_getElem? (i := 9) rfl)))) (fa_c (me_s (me_l (me_l (List.mem_of_getElem? (i := 10) rfl)))) (fa_c (me_s (me_l (me_l (List.mem_of_getElem? (i := 11) rfl)))) (fa_c (me_s (me_l (me_l (List.mem_of_getElem? (i := 12) rfl)))) (fa_c (me_s (me_l (me_l (List.mem_of_getElem? (i := 1) rfl)))) (fa_c (me_s (me_l (me_r (me_l (List.mem_of_getElem? (i := 19) rfl))))) (fa_c (me_s (me_l (me_r (me_l (List.mem_of_getElem? (i := 20) rfl))))) (fa_c (me_s (me_l (me_r (me_l (List.mem_of_getElem? (i := 21) rfl))))) (fa_c (me_s (me_l (me_r (me_l (List.mem_of_getElem? (i := 22) rfl))))) (fa_c (me_s (me_l (me_r (me_l (List.mem_of_getElem? (i := 23) rfl))))) (fa_c (me_s (me_l (me_r (me_r (List.mem_of_getElem? (i := 0) rfl))))) (fa_c (me_s (me_l (me_r (me_r (List.mem_of_getElem? (i := 1) rfl))))) (fa_c (me_s (me_l (me_l (List.mem_of_getElem? (i := 20) rfl)))) (fa_c (me_s (me_l (me_l (List.mem_of_getElem? (i := 21) rfl)))) (fa_c (me_s (me_l (me_l (List.mem_of_getElem? (i := 22) rfl)))) (fa_c (me_s (me_l (me_l (List.mem_of_getElem? (i := 23) rfl)))) (fa_c (me_s (me_l (me_r (me_l (List.mem_of_getElem? (i := 0) rfl))))) (fa_c (me_s (me_l (me_r (me_r (List.mem_of_getElem? (i := 2) rfl))))) fa_n)))))))))))))))))))))))) (fa_a (fa_c (me_s (me_l (me_r (me_r (List.mem_of_getElem? (i := 3) rfl))))) (fa_c (me_s (me_l (me_r (me_r (List.mem_of_getElem? (i := 4) rfl))))) (fa_c (me_s (me_l (me_r (me_r (List.mem_of_getElem? (i := 5) rfl))))) (fa_c (me_s (me_l (me_r (me_r (List.mem_of_getElem? (i := 6) rfl))))) (fa_c (me_s (me_l (me_r (me_r (List.mem_of_getElem? (i := 7) rfl))))) (fa_c (me_s (me_l (me_r (me_r (List.mem_of_getElem? (i := 8) rfl))))) (fa_c (me_s (me_l (me_r (me_r (List.mem_of_getElem? (i := 9) rfl))))) (fa_c (me_s (me_l (me_l (List.mem_of_getElem? (i := 13) rfl)))) (fa_c (me_s (me_l (me_l (List.mem_of_getElem? (i := 14) rfl)))) (fa_c (me_s (me_l (me_l (List.mem_of_getElem? (i := 15) rfl)))) (fa_c (me_s (me_l (me_l (List.mem_of_getElem? (i := 16) rfl)))) (fa_c (me_s (me_l (me_l (List.mem_of_getElem? (i := 17) rfl)))) (fa_c (me_s (me_l (me_l (List.mem_of_getElem? (i := 18) rfl)))) (fa_c (me_s (me_l (me_l (List.mem_of_getElem? (i := 19) rfl)))) (fa_c (me_s (me_l (me_r (me_l (List.mem_of_getElem? (i := 1) rfl))))) (fa_c (me_s (me_l (me_r (me_l (List.mem_of_getElem? (i := 2) rfl))))) (fa_c (me_s (me_l (me_r (me_l (List.mem_of_getElem? (i := 3) rfl))))) (fa_c (me_s (me_l (me_r (me_l (List.mem_of_getElem? (i := 4) rfl))))) (fa_c (me_s (me_l (me_r (me_l (List.mem_of_getElem? (i := 5) rfl))))) (fa_c (me_s (me_l (me_r (me_l (List.mem_of_getElem? (i := 6) rfl))))) (fa_c (me_s (me_l (me_r (me_l (List.mem_of_getElem? (i := 7) rfl))))) (fa_c (me_s (me_l (me_r (me_l (List.mem_of_getElem? (i := 8) rfl))))) (fa_c (me_s (me_l (me_r (me_l (List.mem_of_getElem? (i := 9) rfl))))) (fa_c (me_s (me_l (me_r (me_l (List.mem_of_getElem? (i := 10) rfl))))) fa_n)))))))))))))))))))))))) (fa_c (me_s (me_l (me_r (me_l (List.mem_of_getElem? (i := 11) rfl))))) (fa_c (me_s (me_l (me_r (me_l (List.mem_of_getElem? (i := 12) rfl))))) (fa_c (me_s (me_l (me_r (me_l (List.mem_of_getElem? (i := 13) rfl))))) (fa_c (me_s (me_l (me_r (me_l (List.mem_of_getElem? (i := 14) rfl))))) (fa_c (me_s (me_l (me_r (me_r (List.mem_of_getElem? (i := 10) rfl))))) fa_n))))))) (fun w h => (me_s (me_r h))))) (by decide +kernel)
set_option maxRecDepth 20000 in
theorem gX9_statement_X9_condition : GoodIn wsX9_statement (wsV RX9 85 RX9 yX9_condition wsX9_condition) := goodIn_app (goodIn_sub (fa_c (me_s (me_l (me_r (me_l (List.mem_of_getElem? (i := 15) rfl))))) (fa_c (me_s (me_l (me_r (me_l (List.mem_of_getElem? (i := 16) rfl))))) (fa_c (me_s (me_l (me_r (me_l (List.mem_of_getElem? (i := 17) rfl))))) (fa_c (me_s (me_l (me_l (List.mem_of_getElem? (i := 8) rfl)))) fa_n)))) (by decide +kernel)) ggX9_statement_X9_condition
theorem dX9_statement_91 : decode cX9_statement 91 = .ok (.invokevirtual 85, 3) := by decide +kernel
theorem dX9_statement_94 : decode cX9_statement 94 = .ok (.ifCond .eq 7, 3) := by decide +kernel
theorem dX9_statement_101 : decode cX9_statement 101 = .ok (.iconst 0, 1) := by decide +kernel
theorem dX9_statement_71 : decode cX9_statement 71 = .ok (.iconst 0, 1) := by decide +kernel
theorem dX9_statement_72 : decode cX9_statement 72 = .ok (.ireturn, 1) := by decide +kernel
theorem dX9_statement_49 : decode cX9_statement 49 = .ok (.aload_n 0, 1) := by decide +kernel
theorem dX9_statement_50 : decode cX9_statement 50 = .ok (.getfield 62, 3) := by decide +kernel
theorem dX9_statement_53 : decode cX9_statement 53 = .ok (.sipush 301, 3) := by decide +kernel
theorem dX9_statement_56 : decode cX9_statement 56 = .ok (.if_icmp .ne 47, 3) := by decide +kernel
theorem dX9_statement_103 : decode cX9_statement 103 = .ok (.aload_n 0, 1) := by decide +kernel
theorem dX9_statement_104 : decode cX9_statement 104 = .ok (.getfield 62, 3) := by decide +kernel
theorem dX9_statement_107 : decode cX9_statement 107 = .ok (.sipush 302, 3) := by decide +kernel
theorem dX9_statement_110 : decode cX9_statement 110 = .ok (.if_icmp .ne 9, 3) := by decide +kernel
theorem dX9_statement_119 : decode cX9_statement 119 = .ok (.aload_n 0, 1) := by decide +kernel
theorem dX9_statement_120 : decode cX9_statement 120 = .ok (.getfield 62, 3) := by decide +kernel
theorem dX9_statement_123 : decode cX9_statement 123 = .ok (.sipush 303, 3) := by decide +kernel
theorem dX9_statement_126 : decode cX9_statement 126 = .ok (.if_icmp .lt 25, 3) := by decide +kernel
theorem dX9_statement_151 : decode cX9_statement 151 = .ok (.iconst 0, 1) := by decide +kernel
theorem dX9_statement_152 : decode cX9_statement 152 = .ok (.ireturn, 1) := by decide +kernel
theorem dX9_statement_129 : decode cX9_statement 129 = .ok (.aload_n 0, 1) := by decide +kernel
theorem dX9_statement_130 : decode cX9_statement 130 = .ok (.getfield 62, 3) := by decide +kernel
theorem dX9_statement_133 : decode cX9_statement 133 = .ok (.sipush 307, 3) := by decide +kernel
theorem dX9_statement_136 : decode cX9_statement 136 = .ok (.if_icmp .gt 15, 3) := by decide +kernel
theorem dX9_statement_139 : decode cX9_statement 139 = .ok (.aload_n 0, 1) := by decide +kernel
theorem dX9_statement_140 : decode cX9_statement 140 = .ok (.iload_n 1, 1) := by decide +kernel
set_option maxRecDepth 20000 in
theorem ggX9_statement_X9_amountOf : GoodIn wsX9_statement wsX9_amountOf := goodIn_sub (fa_c (me_s (me_l (me_r (me_r (List.mem_of_getElem? (i := 14) rfl))))) (fa_a (fa_c (me_s (me_l (me_l (List.mem_of_getElem? (i := 0) rfl)))) (fa_c (me_s (me_l (me_l (List.mem_of_getElem? (i := 1) rfl)))) (fa_c (me_s (me_l (me_l (List.mem_of_getElem? (i := 2) rfl)))) (fa_c (me_s (me_l (me_l (List.mem_of_getElem? (i := 5) rfl)))) (fa_c (me_s (me_l (me_l (List.mem_of_getElem? (i := 6) rfl)))) (fa_c (me_s (me_l (me_l (List.mem_of_getElem? (i := 7) rfl)))) (fa_c (me_s (me_l (me_l (List.mem_of_getElem? (i := 8) rfl)))) (fa_c (me_s (me_l (me_l (List.mem_of_getElem? (i := 9) rfl)))) (fa_c (me_s (me_l (me_l (List.mem_of_getElem? (i := 10) rfl)))) (fa_c (me_s (me_l (me_l (List.mem_of_getElem? (i := 11) rfl)))) (fa_c (me_s (me_l (me_l (List.mem_of_getElem? (i := 12) rfl)))) (fa_c (me_s (me_l (me_r (me_l (List.mem_of_getElem? (i := 2) rfl))))) (fa_c (me_s (me_l (me_r (me_l (List.mem_of_getElem? (i := 3) rfl))))) (fa_c (me_s (me_l (me_r (me_l (List.mem_of_getElem? (i := 4) rfl))))) (fa_c (me_s (me_l (me_r (me_l (List.mem_of_getElem? (i := 5) rfl))))) (fa_c (me_s (me_l (me_r (me_l (List.mem_of_getElem? (i := 6) rfl))))) fa_n)))))))))))))))) (fun w h => (me_s (me_r h))))) (by decide +kernel)
set_option maxRecDepth 20000 in
theorem gX9_statement_X9_amountOf : GoodIn wsX9_statement (wsV RX9 88 RX9 yX9_amountOf wsX9_amountOf) := goodIn_app (goodIn_sub (fa_c (me_s (me_l (me_r (me_r (List.mem_of_getElem? (i := 11) rfl))))) (fa_c (me_s (me_l (me_r (me_r (List.mem_of_getElem? (i := 12) rfl))))) (fa_c (me_s (me_l (me_r (me_r (List.mem_of_getElem? (i := 13) rfl))))) (fa_c (me_s (me_l (me_l (List.mem_of_getElem? (i := 8) rfl)))) fa_n)))) (by decide +kernel)) ggX9_statement_X9_amountOf
theorem dX9_statement_141 : decode cX9_statement 141 = .ok (.invokevirtual 88, 3) := by decide +kernel
theorem dX9_statement_144 : decode cX9_statement 144 = .ok (.ifCond .eq 7, 3) := by decide +kernel
theorem dX9_statement_147 : decode cX9_statement 147 = .ok (.iconst 1, 1) := by decide +kernel
theorem dX9_statement_148 : decode cX9_statement 148 = .ok (.goto 4, 3) := by decide +kernel
theorem dX9_statement_113 : decode cX9_statement 113 = .ok (.aload_n 0, 1) := by decide +kernel
theorem dX9_statement_114 : decode cX9_statement 114 = .ok (.iload_n 1, 1) := by decide +kernel
theorem dX9_statement_115 : decode cX9_statement 115 = .ok (.invokevirtual 85, 3) := by decide +kernel
theorem dX9_statement_118 : decode cX9_statement 118 = .ok (.ireturn, 1) := by decide +kernel
theorem z_l307 : (307 : Int32).toInt = 307 := by decide
theorem z_l308 : (308 : Int32).toInt = 308 := by decide
theorem zj_X9_condition_X9 : ∀ w ∈ wsX90, w ∈ wsX9_condition := fun w h => (List.mem_cons_of_mem _ (List.mem_append_right _ h))
theorem zj_X9_amountOf_X9 : ∀ w ∈ wsX90, w ∈ wsX9_amountOf := fun w h => (List.mem_cons_of_mem _ (List.mem_append_right _ h))
theorem zj_X9_statement_X9 : ∀ w ∈ wsX90, w ∈ wsX9_statement := fun w h => (List.mem_cons_of_mem _ (List.mem_append_right _ h))