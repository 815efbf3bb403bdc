theorem dX9_condition_0 : decode cX9_condition 0 = .ok (.iload_n 1, 1) := z_dd_27 (by decide +kernel)
theorem dX9_condition_1 : decode cX9_condition 1 = .ok (.ifCond .lt 9, 3) := z_dd_155 (by decide +kernel)
theorem dX9_condition_10 : decode cX9_condition 10 = .ok (.iconst 0, 1) := z_dd_3 (by decide +kernel)
theorem dX9_condition_11 : decode cX9_condition 11 = .ok (.ireturn, 1) := z_dd_172 (by decide +kernel)
theorem dX9_condition_4 : decode cX9_condition 4 = .ok (.iload_n 1, 1) := z_dd_27 (by decide +kernel)
theorem dX9_condition_5 : decode cX9_condition 5 = .ok (.bipush 24, 2) := z_dd_16 (by decide +kernel)
theorem dX9_condition_7 : decode cX9_condition 7 = .ok (.if_icmp .lt 5, 3) := z_dd_161 (by decide +kernel)
theorem dX9_condition_12 : decode cX9_condition 12 = .ok (.aload_n 0, 1) := z_dd_42 (by decide +kernel)
set_option maxRecDepth 20000 in
theorem ggX9_condition_X9_step : GoodIn wsX9_condition wsX9_step := goodIn_sub (fa_c (me_s (me_l (me_l (List.mem_of_getElem? (i := 6) rfl)))) (fa_a (fa_c (me_s (me_l (me_l (List.mem_of_getElem? (i := 7) rfl)))) (fa_c (me_s (me_l (me_l (List.mem_of_getElem? (i := 8) rfl)))) (fa_c (me_s (me_l (me_l (List.mem_of_getElem? (i := 9) rfl)))) (fa_c (me_s (me_l (me_l (List.mem_of_getElem? (i := 10) rfl)))) fa_n)))) (fun w h => (me_s (me_r h))))) (by decide +kernel)
set_option maxRecDepth 20000 in
theorem gX9_condition_X9_step : GoodIn wsX9_condition (wsV RX9 59 RX9 yX9_step wsX9_step) := goodIn_app (goodIn_sub (fa_c (me_s (me_l (me_l (List.mem_of_getElem? (i := 2) rfl)))) (fa_c (me_s (me_l (me_l (List.mem_of_getElem? (i := 3) rfl)))) (fa_c (me_s (me_l (me_l (List.mem_of_getElem? (i := 4) rfl)))) (fa_c (me_s (me_l (me_l (List.mem_of_getElem? (i := 5) rfl)))) fa_n)))) (by decide +kernel)) ggX9_condition_X9_step
theorem dX9_condition_13 : decode cX9_condition 13 = .ok (.invokevirtual 59, 3) := z_dd_182 (by decide +kernel)
theorem dX9_condition_16 : decode cX9_condition 16 = .ok (.aload_n 0, 1) := z_dd_42 (by decide +kernel)
theorem dX9_condition_17 : decode cX9_condition 17 = .ok (.getfield 33, 3) := z_dd_180 (by decide +kernel)
theorem dX9_condition_20 : decode cX9_condition 20 = .ok (.iload_n 1, 1) := z_dd_27 (by decide +kernel)
theorem dX9_condition_21 : decode cX9_condition 21 = .ok (.aload_n 0, 1) := z_dd_42 (by decide +kernel)
theorem dX9_condition_22 : decode cX9_condition 22 = .ok (.getfield 50, 3) := z_dd_180 (by decide +kernel)
theorem dX9_condition_25 : decode cX9_condition 25 = .ok (.iastore, 1) := z_dd_79 (by decide +kernel)
theorem dX9_condition_26 : decode cX9_condition 26 = .ok (.aload_n 0, 1) := z_dd_42 (by decide +kernel)
theorem dX9_condition_27 : decode cX9_condition 27 = .ok (.iconst 0, 1) := z_dd_3 (by decide +kernel)
set_option maxRecDepth 20000 in
theorem ggX9_condition_X9_either : GoodIn wsX9_condition wsX9_either := goodIn_sub (fa_c (me_s (me_l (me_l (List.mem_of_getElem? (i := 14) rfl)))) (fa_a (fa_a (fa_c (me_s (me_l (me_l (List.mem_of_getElem? (i := 10) rfl)))) (fa_c (me_s (me_l (me_l (List.mem_of_getElem? (i := 15) rfl)))) (fa_c (me_s (me_l (me_l (List.mem_of_getElem? (i := 16) rfl)))) (fa_c (me_s (me_l (me_l (List.mem_of_getElem? (i := 17) rfl)))) (fa_c (me_s (me_l (me_l (List.mem_of_getElem? (i := 5) rfl)))) (fa_c (me_s (me_l (me_l (List.mem_of_getElem? (i := 2) rfl)))) (fa_c (me_s (me_l (me_l (List.mem_of_getElem? (i := 3) rfl)))) (fa_c (me_s (me_l (me_l (List.mem_of_getElem? (i := 4) rfl)))) (fa_c (me_s (me_l (me_l (List.mem_of_getElem? (i := 6) rfl)))) (fa_c (me_s (me_l (me_l (List.mem_of_getElem? (i := 7) rfl)))) (fa_c (me_s (me_l (me_l (List.mem_of_getElem? (i := 8) rfl)))) (fa_c (me_s (me_l (me_l (List.mem_of_getElem? (i := 9) rfl)))) (fa_c (me_s (me_l (me_l (List.mem_of_getElem? (i := 18) rfl)))) (fa_c (me_s (me_l (me_l (List.mem_of_getElem? (i := 19) rfl)))) (fa_c (me_s (me_l (me_l (List.mem_of_getElem? (i := 20) rfl)))) (fa_c (me_s (me_l (me_l (List.mem_of_getElem? (i := 21) rfl)))) (fa_c (me_s (me_l (me_l (List.mem_of_getElem? (i := 1) rfl)))) (fa_c (me_s (me_l (me_l (List.mem_of_getElem? (i := 22) rfl)))) (fa_c (me_s (me_l (me_l (List.mem_of_getElem? (i := 23) rfl)))) (fa_c (me_s (me_l (me_r (me_l (List.mem_of_getElem? (i := 0) rfl))))) (fa_c (me_s (me_l (me_r (me_l (List.mem_of_getElem? (i := 1) rfl))))) (fa_c (me_s (me_l (me_r (me_l (List.mem_of_getElem? (i := 2) rfl))))) (fa_c (me_s (me_l (me_r (me_l (List.mem_of_getElem? (i := 3) rfl))))) (fa_c (me_s (me_l (me_r (me_l (List.mem_of_getElem? (i := 4) rfl))))) fa_n)))))))))))))))))))))))) (fa_a (fa_c (me_s (me_l (me_r (me_l (List.mem_of_getElem? (i := 5) rfl))))) (fa_c (me_s (me_l (me_r (me_l (List.mem_of_getElem? (i := 6) rfl))))) (fa_c (me_s (me_l (me_r (me_l (List.mem_of_getElem? (i := 7) rfl))))) (fa_c (me_s (me_l (me_r (me_l (List.mem_of_getElem? (i := 8) rfl))))) (fa_c (me_s (me_l (me_r (me_l (List.mem_of_getElem? (i := 9) rfl))))) (fa_c (me_s (me_l (me_r (me_l (List.mem_of_getElem? (i := 10) rfl))))) (fa_c (me_s (me_l (me_r (me_l (List.mem_of_getElem? (i := 11) rfl))))) (fa_c (me_s (me_l (me_r (me_l (List.mem_of_getElem? (i := 12) rfl))))) (fa_c (me_s (me_l (me_r (me_l (List.mem_of_getElem? (i := 13) rfl))))) (fa_c (me_s (me_l (me_r (me_l (List.mem_of_getElem? (i := 14) rfl))))) (fa_c (me_s (me_l (me_r (me_l (List.mem_of_getElem? (i := 15) rfl))))) (fa_c (me_s (me_l (me_r (me_l (List.mem_of_getElem? (i := 16) rfl))))) (fa_c (me_s (me_l (me_r (me_l (List.mem_of_getElem? (i := 17) rfl))))) (fa_c (me_s (me_l (me_r (me_l (List.mem_of_getElem? (i := 18) rfl))))) (fa_c (me_s (me_l (me_r (me_l (List.mem_of_getElem? (i := 19) rfl))))) (fa_c (me_s (me_l (me_r (me_l (List.mem_of_getElem? (i := 20) rfl))))) (fa_c (me_s (me_l (me_r (me_l (List.mem_of_getElem? (i := 21) rfl))))) (fa_c (me_s (me_l (me_r (me_l (List.mem_of_getElem? (i := 22) rfl))))) (fa_c (me_s (me_l (me_r (me_l (List.mem_of_getElem? (i := 23) rfl))))) (fa_c (me_s (me_l (me_r (me_r (List.mem_of_getElem? (i := 0) rfl))))) (fa_c (me_s (me_l (me_r (me_r (List.mem_of_getElem? (i := 1) rfl))))) (fa_c (me_s (me_l (me_r (me_r (List.mem_of_getElem? (i := 2) rfl))))) (fa_c (me_s (me_l (me_r (me_r (List.mem_of_getElem? (i := 3) rfl))))) (fa_c (me_s (me_l (me_r (me_r (List.mem_of_getElem? (i := 4) rfl))))) fa_n)))))))))))))))))))))))) (fa_c (me_s (me_l (me_l (List.mem_of_getElem? (i := 11) rfl)))) (fa_c (me_s (me_l (me_l (List.mem_of_getElem? (i := 12) rfl)))) (fa_c (me_s (me_l (me_l (List.mem_of_getElem? (i := 13) rfl)))) fa_n))))) (fun w h => (me_s (me_r h))))) (by decide +kernel)
set_option maxRecDepth 20000 in
theorem gX9_condition_X9_either : GoodIn wsX9_condition (wsV RX9 91 RX9 yX9_either wsX9_either) := goodIn_app (goodIn_sub (fa_c (me_s (me_l (me_l (List.mem_of_getElem? (i := 11) rfl)))) (fa_c (me_s (me_l (me_l (List.mem_of_getElem? (i := 12) rfl)))) (fa_c (me_s (me_l (me_l (List.mem_of_getElem? (i := 13) rfl)))) (fa_c (me_s (me_l (me_l (List.mem_of_getElem? (i := 5) rfl)))) fa_n)))) (by decide +kernel)) ggX9_condition_X9_either
theorem dX9_condition_28 : decode cX9_condition 28 = .ok (.invokevirtual 91, 3) := z_dd_182 (by decide +kernel)
theorem dX9_condition_31 : decode cX9_condition 31 = .ok (.ifCond .ne 5, 3) := z_dd_154 (by decide +kernel)
theorem dX9_condition_36 : decode cX9_condition 36 = .ok (.aload_n 0, 1) := z_dd_42 (by decide +kernel)
theorem dX9_condition_37 : decode cX9_condition 37 = .ok (.bipush (-13), 2) := z_dd_16 (by decide +kernel)
set_option maxRecDepth 20000 in
theorem ggX9_condition_X9_emit : GoodIn wsX9_condition wsX9_emit := goodIn_sub (fa_c (me_s (me_l (me_l (List.mem_of_getElem? (i := 21) rfl)))) (fa_a (fa_c (me_s (me_l (me_l (List.mem_of_getElem? (i := 1) rfl)))) (fa_c (me_s (me_l (me_l (List.mem_of_getElem? (i := 22) rfl)))) fa_n)) (fun w h => (me_s (me_r h))))) (by decide +kernel)
set_option maxRecDepth 20000 in
theorem gX9_condition_X9_emit : GoodIn wsX9_condition (wsV RX9 82 RX9 yX9_emit wsX9_emit) := goodIn_app (goodIn_sub (fa_c (me_s (me_l (me_l (List.mem_of_getElem? (i := 18) rfl)))) (fa_c (me_s (me_l (me_l (List.mem_of_getElem? (i := 19) rfl)))) (fa_c (me_s (me_l (me_l (List.mem_of_getElem? (i := 20) rfl)))) (fa_c (me_s (me_l (me_l (List.mem_of_getElem? (i := 5) rfl)))) fa_n)))) (by decide +kernel)) ggX9_condition_X9_emit
theorem dX9_condition_39 : decode cX9_condition 39 = .ok (.invokevirtual 82, 3) := z_dd_182 (by decide +kernel)
theorem dX9_condition_42 : decode cX9_condition 42 = .ok (.iconst 1, 1) := z_dd_4 (by decide +kernel)
theorem dX9_condition_43 : decode cX9_condition 43 = .ok (.ireturn, 1) := z_dd_172 (by decide +kernel)
theorem dX9_condition_34 : decode cX9_condition 34 = .ok (.iconst 0, 1) := z_dd_3 (by decide +kernel)
theorem dX9_condition_35 : decode cX9_condition 35 = .ok (.ireturn, 1) := z_dd_172 (by decide +kernel)
theorem dX9_amountOf_0 : decode cX9_amountOf 0 = .ok (.iload_n 1, 1) := z_dd_27 (by decide +kernel)
theorem dX9_amountOf_1 : decode cX9_amountOf 1 = .ok (.ifCond .lt 9, 3) := z_dd_155 (by decide +kernel)
theorem dX9_amountOf_10 : decode cX9_amountOf 10 = .ok (.iconst 0, 1) := z_dd_3 (by decide +kernel)
theorem dX9_amountOf_11 : decode cX9_amountOf 11 = .ok (.ireturn, 1) := z_dd_172 (by decide +kernel)
theorem dX9_amountOf_4 : decode cX9_amountOf 4 = .ok (.iload_n 1, 1) := z_dd_27 (by decide +kernel)
theorem dX9_amountOf_5 : decode cX9_amountOf 5 = .ok (.bipush 24, 2) := z_dd_16 (by decide +kernel)
theorem dX9_amountOf_7 : decode cX9_amountOf 7 = .ok (.if_icmp .lt 5, 3) := z_dd_161 (by decide +kernel)
theorem dX9_amountOf_12 : decode cX9_amountOf 12 = .ok (.aload_n 0, 1) := z_dd_42 (by decide +kernel)
set_option maxRecDepth 20000 in
theorem ggX9_amountOf_X9_step : GoodIn wsX9_amountOf wsX9_step := goodIn_sub (fa_c (me_s (me_l (List.mem_of_getElem? (i := 7) rfl))) (fa_a (fa_c (me_s (me_l (List.mem_of_getElem? (i := 8) rfl))) (fa_c (me_s (me_l (List.mem_of_getElem? (i := 9) rfl))) (fa_c (me_s (me_l (List.mem_of_getElem? (i := 10) rfl))) (fa_c (me_s (me_l (List.mem_of_getElem? (i := 1) rfl))) fa_n)))) (fun w h => (me_s (me_r h))))) (by decide +kernel)
set_option maxRecDepth 20000 in
theorem gX9_amountOf_X9_step : GoodIn wsX9_amountOf (wsV RX9 59 RX9 yX9_step wsX9_step) := goodIn_app (goodIn_sub (fa_c (me_s (me_l (List.mem_of_getElem? (i := 3) rfl))) (fa_c (me_s (me_l (List.mem_of_getElem? (i := 4) rfl))) (fa_c (me_s (me_l (List.mem_of_getElem? (i := 5) rfl))) (fa_c (me_s (me_l (List.mem_of_getElem? (i := 6) rfl))) fa_n)))) (by decide +kernel)) ggX9_amountOf_X9_step
theorem dX9_amountOf_13 : decode cX9_amountOf 13 = .ok (.invokevirtual 59, 3) := z_dd_182 (by decide +kernel)
theorem dX9_amountOf_16 : decode cX9_amountOf 16 = .ok (.aload_n 0, 1) := z_dd_42 (by decide +kernel)
theorem dX9_amountOf_17 : decode cX9_amountOf 17 = .ok (.getfield 27, 3) := z_dd_180 (by decide +kernel)
theorem dX9_amountOf_20 : decode cX9_amountOf 20 = .ok (.iload_n 1, 1) := z_dd_27 (by decide +kernel)
theorem dX9_amountOf_21 : decode cX9_amountOf 21 = .ok (.iaload, 1) := z_dd_46 (by decide +kernel)
theorem dX9_amountOf_22 : decode cX9_amountOf 22 = .ok (.sipush 303, 3) := z_dd_17 (by decide +kernel)
theorem dX9_amountOf_25 : decode cX9_amountOf 25 = .ok (.if_icmp .ne 7, 3) := z_dd_160 (by decide +kernel)
theorem dX9_amountOf_32 : decode cX9_amountOf 32 = .ok (.iconst 0, 1) := z_dd_3 (by decide +kernel)
theorem dX9_amountOf_33 : decode cX9_amountOf 33 = .ok (.istore_n 2, 1) := z_dd_61 (by decide +kernel)
theorem dX9_amountOf_34 : decode cX9_amountOf 34 = .ok (.aload_n 0, 1) := z_dd_42 (by decide +kernel)
theorem dX9_amountOf_35 : decode cX9_amountOf 35 = .ok (.getfield 62, 3) := z_dd_180 (by decide +kernel)
theorem dX9_amountOf_38 : decode cX9_amountOf 38 = .ok (.sipush 400, 3) := z_dd_17 (by decide +kernel)
theorem dX9_amountOf_41 : decode cX9_amountOf 41 = .ok (.if_icmp .ne 11, 3) := z_dd_160 (by decide +kernel)
theorem dX9_amountOf_52 : decode cX9_amountOf 52 = .ok (.iconst 0, 1) := z_dd_3 (by decide +kernel)
theorem dX9_amountOf_53 : decode cX9_amountOf 53 = .ok (.ireturn, 1) := z_dd_172 (by decide +kernel)
theorem dX9_amountOf_44 : decode cX9_amountOf 44 = .ok (.aload_n 0, 1) := z_dd_42 (by decide +kernel)
set_option maxRecDepth 20000 in
theorem ggX9_amountOf_X9_numberHere : GoodIn wsX9_amountOf wsX9_numberHere := goodIn_sub (fa_c (me_s (me_l (List.mem_of_getElem? (i := 14) rfl))) (fa_a (fa_c (me_s (me_l (List.mem_of_getElem? (i := 8) rfl))) (fa_c (me_s (me_l (List.mem_of_getElem? (i := 15) rfl))) fa_n)) (fun w h => (me_s (me_r h))))) (by decide +kernel)
set_option maxRecDepth 20000 in
theorem gX9_amountOf_X9_numberHere : GoodIn wsX9_amountOf (wsV RX9 94 RX9 yX9_numberHere wsX9_numberHere) := goodIn_app (goodIn_sub (fa_c (me_s (me_l (List.mem_of_getElem? (i := 11) rfl))) (fa_c (me_s (me_l (List.mem_of_getElem? (i := 12) rfl))) (fa_c (me_s (me_l (List.mem_of_getElem? (i := 13) rfl))) (fa_c (me_s (me_l (List.mem_of_getElem? (i := 6) rfl))) fa_n)))) (by decide +kernel)) ggX9_amountOf_X9_numberHere
theorem dX9_amountOf_45 : decode cX9_amountOf 45 = .ok (.invokevirtual 94, 3) := z_dd_182 (by decide +kernel)
theorem dX9_amountOf_48 : decode cX9_amountOf 48 = .ok (.iload_n 2, 1) := z_dd_28 (by decide +kernel)
theorem dX9_amountOf_49 : decode cX9_amountOf 49 = .ok (.if_icmp .ge 5, 3) := z_dd_162 (by decide +kernel)
theorem dX9_amountOf_54 : decode cX9_amountOf 54 = .ok (.aload_n 0, 1) := z_dd_42 (by decide +kernel)
theorem dX9_amountOf_55 : decode cX9_amountOf 55 = .ok (.getfield 30, 3) := z_dd_180 (by decide +kernel)
theorem dX9_amountOf_58 : decode cX9_amountOf 58 = .ok (.iload_n 1, 1) := z_dd_27 (by decide +kernel)
theorem dX9_amountOf_59 : decode cX9_amountOf 59 = .ok (.aload_n 0, 1) := z_dd_42 (by decide +kernel)
theorem dX9_amountOf_60 : decode cX9_amountOf 60 = .ok (.invokevirtual 94, 3) := z_dd_182 (by decide +kernel)
theorem dX9_amountOf_63 : decode cX9_amountOf 63 = .ok (.iastore, 1) := z_dd_79 (by decide +kernel)
theorem dX9_amountOf_64 : decode cX9_amountOf 64 = .ok (.aload_n 0, 1) := z_dd_42 (by decide +kernel)
theorem dX9_amountOf_65 : decode cX9_amountOf 65 = .ok (.invokevirtual 59, 3) := z_dd_182 (by decide +kernel)
theorem dX9_amountOf_68 : decode cX9_amountOf 68 = .ok (.iconst 1, 1) := z_dd_4 (by decide +kernel)
theorem dX9_amountOf_69 : decode cX9_amountOf 69 = .ok (.ireturn, 1) := z_dd_172 (by decide +kernel)
theorem dX9_amountOf_28 : decode cX9_amountOf 28 = .ok (.iconst 1, 1) := z_dd_4 (by decide +kernel)
theorem dX9_amountOf_29 : decode cX9_amountOf 29 = .ok (.goto 4, 3) := z_dd_167 (by decide +kernel)
theorem dX9_statement_0 : decode cX9_statement 0 = .ok (.iload_n 1, 1) := z_dd_27 (by decide +kernel)
theorem dX9_statement_1 : decode cX9_statement 1 = .ok (.ifCond .lt 9, 3) := z_dd_155 (by decide +kernel)
theorem dX9_statement_10 : decode cX9_statement 10 = .ok (.iconst 0, 1) := z_dd_3 (by decide +kernel)
theorem dX9_statement_11 : decode cX9_statement 11 = .ok (.ireturn, 1) := z_dd_172 (by decide +kernel)
theorem dX9_statement_4 : decode cX9_statement 4 = .ok (.iload_n 1, 1) := z_dd_27 (by decide +kernel)
theorem dX9_statement_5 : decode cX9_statement 5 = .ok (.bipush 24, 2) := z_dd_16 (by decide +kernel)
theorem dX9_statement_7 : decode cX9_statement 7 = .ok (.if_icmp .lt 5, 3) := z_dd_161 (by decide +kernel)
theorem dX9_statement_12 : decode cX9_statement 12 = .ok (.aload_n 0, 1) := z_dd_42 (by decide +kernel)
theorem dX9_statement_13 : decode cX9_statement 13 = .ok (.getfield 27, 3) := z_dd_180 (by decide +kernel)
theorem dX9_statement_16 : decode cX9_statement 16 = .ok (.iload_n 1, 1) := z_dd_27 (by decide +kernel)
theorem dX9_statement_17 : decode cX9_statement 17 = .ok (.aload_n 0, 1) := z_dd_42 (by decide +kernel)
theorem dX9_statement_18 : decode cX9_statement 18 = .ok (.getfield 62, 3) := z_dd_180 (by decide +kernel)
theorem dX9_statement_21 : decode cX9_statement 21 = .ok (.iastore, 1) := z_dd_79 (by decide +kernel)
theorem dX9_statement_22 : decode cX9_statement 22 = .ok (.aload_n 0, 1) := z_dd_42 (by decide +kernel)
theorem dX9_statement_23 : decode cX9_statement 23 = .ok (.getfield 30, 3) := z_dd_180 (by decide +kernel)
theorem dX9_statement_26 : decode cX9_statement 26 = .ok (.iload_n 1, 1) := z_dd_27 (by decide +kernel)
theorem dX9_statement_27 : decode cX9_statement 27 = .ok (.aload_n 0, 1) := z_dd_42 (by decide +kernel)
theorem dX9_statement_28 : decode cX9_statement 28 = .ok (.getfield 50, 3) := z_dd_180 (by decide +kernel)
theorem dX9_statement_31 : decode cX9_statement 31 = .ok (.iastore, 1) := z_dd_79 (by decide +kernel)
theorem dX9_statement_32 : decode cX9_statement 32 = .ok (.aload_n 0, 1) := z_dd_42 (by decide +kernel)
theorem dX9_statement_33 : decode cX9_statement 33 = .ok (.getfield 33, 3) := z_dd_180 (by decide +kernel)
theorem dX9_statement_36 : decode cX9_statement 36 = .ok (.iload_n 1, 1) := z_dd_27 (by decide +kernel)
theorem dX9_statement_37 : decode cX9_statement 37 = .ok (.iconst (-1), 1) := z_dd_2 (by decide +kernel)
theorem dX9_statement_38 : decode cX9_statement 38 = .ok (.iastore, 1) := z_dd_79 (by decide +kernel)
theorem dX9_statement_39 : decode cX9_statement 39 = .ok (.aload_n 0, 1) := z_dd_42 (by decide +kernel)
theorem dX9_statement_40 : decode cX9_statement 40 = .ok (.getfield 62, 3) := z_dd_180 (by decide +kernel)
theorem dX9_statement_43 : decode cX9_statement 43 = .ok (.sipush 300, 3) := z_dd_17 (by decide +kernel)
theorem dX9_statement_46 : decode cX9_statement 46 = .ok (.if_icmp .eq 13, 3) := z_dd_159 (by decide +kernel)
theorem dX9_statement_59 : decode cX9_statement 59 = .ok (.aload_n 0, 1) := z_dd_42 (by decide +kernel)
set_option maxRecDepth 20000 in
theorem ggX9_statement_X9_step : GoodIn wsX9_statement wsX9_step := goodIn_sub (fa_c (me_s (me_l (me_l (List.mem_of_getElem? (i := 9) rfl)))) (fa_a (fa_c (me_s (me_l (me_l (List.mem_of_getElem? (i := 10) rfl)))) (fa_c (me_s (me_l (me_l (List.mem_of_getElem? (i := 11) rfl)))) (fa_c (me_s (me_l (me_l (List.mem_of_getElem? (i := 12) rfl)))) (fa_c (me_s (me_l (me_l (List.mem_of_getElem? (i := 1) rfl)))) fa_n)))) (fun w h => (me_s (me_r h))))) (by decide +kernel)
set_option maxRecDepth 20000 in
theorem gX9_statement_X9_step : GoodIn wsX9_statement (wsV RX9 59 RX9 yX9_step wsX9_step) := goodIn_app (goodIn_sub (fa_c (me_s (me_l (me_l (List.mem_of_getElem? (i := 5) rfl)))) (fa_c (me_s (me_l (me_l (List.mem_of_getElem? (i := 6) rfl)))) (fa_c (me_s (me_l (me_l (List.mem_of_getElem? (i := 7) rfl)))) (fa_c (me_s (me_l (me_l (List.mem_of_getElem? (i := 8) rfl)))) fa_n)))) (by decide +kernel)) ggX9_statement_X9_step
theorem dX9_statement_60 : decode cX9_statement 60 = .ok (.invokevirtual 59, 3) := z_dd_182 (by decide +kernel)
theorem dX9_statement_63 : decode cX9_statement 63 = .ok (.aload_n 0, 1) := z_dd_42 (by decide +kernel)
theorem dX9_statement_64 : decode cX9_statement 64 = .ok (.iconst 0, 1) := z_dd_3 (by decide +kernel)
set_option maxRecDepth 20000 in
theorem ggX9_statement_X9_sum : GoodIn wsX9_statement wsX9_sum := goodIn_sub (fa_c (me_s (me_l (me_l (List.mem_of_getElem? (i := 16) rfl)))) (fa_a (fa_a (fa_c (me_s (me_l (me_l (List.mem_of_getElem? (i := 1) rfl)))) (fa_c (me_s (me_l (me_l (List.mem_of_getElem? (i := 17) rfl)))) (fa_c (me_s (me_l (me_l (List.mem_of_getElem? (i := 18) rfl)))) (fa_c (me_s (me_l (me_l (List.mem_of_getElem? (i := 19) rfl)))) (fa_c (me_s (me_l (me_l (List.mem_of_getElem? (i := 8) rfl)))) (fa_c (me_s (me_l (me_l (List.mem_of_getElem? (i := 5) rfl)))) (fa_c (me_s (me_l (me_l (List.mem_of_getElem? (i := 6) rfl)))) (fa_c (me_s (me_l (me_l (List.mem_of_getElem? (i := 7) rfl)))) (fa_c (me_s (me_l (me_l (List.mem_of_getElem? (i := 9) rfl)))) (fa_c (me_s (me_l (me_l (List.mem_of_getElem? (i := 10) rfl)))) (fa_c (me_s (me_l (me_l (List.mem_of_getElem? (i := 11) rfl)))) (fa_c (me_s (me_l (me_l (List.mem_of_getElem? (i := 12) rfl)))) (fa_c (me_s (me_l (me_l (List.mem_of_getElem? (i := 20) rfl)))) (fa_c (me_s (me_l (me_l (List.mem_of_getElem? (i := 21) rfl)))) (fa_c (me_s (me_l (me_l (List.mem_of_getElem? (i := 22) rfl)))) (fa_c (me_s (me_l (me_l (List.mem_of_getElem? (i := 23) rfl)))) (fa_c (me_s (me_l (me_l (List.mem_of_getElem? (i := 3) rfl)))) (fa_c (me_s (me_l (me_r (me_l (List.mem_of_getElem? (i := 0) rfl))))) (fa_c (me_s (me_l (me_r (me_l (List.mem_of_getElem? (i := 1) rfl))))) (fa_c (me_s (me_l (me_r (me_l (List.mem_of_getElem? (i := 2) rfl))))) (fa_c (me_s (me_l (me_r (me_l (List.mem_of_getElem? (i := 3) rfl))))) (fa_c (me_s (me_l (me_r (me_l (List.mem_of_getElem? (i := 4) rfl))))) (fa_c (me_s (me_l (me_r (me_l (List.mem_of_getElem? (i := 5) rfl))))) (fa_c (me_s (me_l (me_r (me_l (List.mem_of_getElem? (i := 6) rfl))))) fa_n)))))))))))))))))))))))) (fa_c (me_s (me_l (me_l (List.mem_of_getElem? (i := 13) rfl)))) (fa_c (me_s (me_l (me_l (List.mem_of_getElem? (i := 14) rfl)))) (fa_c (me_s (me_l (me_l (List.mem_of_getElem? (i := 15) rfl)))) (fa_c (me_s (me_l (me_r (me_l (List.mem_of_getElem? (i := 7) rfl))))) (fa_c (me_s (me_l (me_r (me_l (List.mem_of_getElem? (i := 8) rfl))))) (fa_c (me_s (me_l (me_r (me_l (List.mem_of_getElem? (i := 9) rfl))))) (fa_c (me_s (me_l (me_r (me_l (List.mem_of_getElem? (i := 10) rfl))))) (fa_c (me_s (me_l (me_r (me_l (List.mem_of_getElem? (i := 11) rfl))))) (fa_c (me_s (me_l (me_r (me_l (List.mem_of_getElem? (i := 12) rfl))))) (fa_c (me_s (me_l (me_r (me_l (List.mem_of_getElem? (i := 13) rfl))))) (fa_c (me_s (me_l (me_r (me_l (List.mem_of_getElem? (i := 14) rfl))))) fa_n)))))))))))) (fun w h => (me_s (me_r h))))) (by decide +kernel)
set_option maxRecDepth 20000 in
theorem gX9_statement_X9_sum : GoodIn wsX9_statement (wsV RX9 79 RX9 yX9_sum wsX9_sum) := goodIn_app (goodIn_sub (fa_c (me_s (me_l (me_l (List.mem_of_getElem? (i := 13) rfl)))) (fa_c (me_s (me_l (me_l (List.mem_of_getElem? (i := 14) rfl)))) (fa_c (me_s (me_l (me_l (List.mem_of_getElem? (i := 15) rfl)))) (fa_c (me_s (me_l (me_l (List.mem_of_getElem? (i := 8) rfl)))) fa_n)))) (by decide +kernel)) ggX9_statement_X9_sum
theorem dX9_statement_65 : decode cX9_statement 65 = .ok (.invokevirtual 79, 3) := z_dd_182 (by decide +kernel)
theorem dX9_statement_68 : decode cX9_statement 68 = .ok (.ifCond .ne 5, 3) := z_dd_154 (by decide +kernel)
theorem dX9_statement_73 : decode cX9_statement 73 = .ok (.aload_n 0, 1) := z_dd_42 (by decide +kernel)
theorem dX9_statement_74 : decode cX9_statement 74 = .ok (.bipush (-13), 2) := z_dd_16 (by decide +kernel)
set_option maxRecDepth 20000 in
theorem ggX9_statement_X9_emit : GoodIn wsX9_statement wsX9_emit := goodIn_sub (fa_c (me_s (me_l (me_l (List.mem_of_getElem? (i := 23) rfl)))) (fa_a (fa_c (me_s (me_l (me_l (List.mem_of_getElem? (i := 3) rfl)))) (fa_c (me_s (me_l (me_r (me_l (List.mem_of_getElem? (i := 0) rfl))))) fa_n)) (fun w h => (me_s (me_r h))))) (by decide +kernel)
set_option maxRecDepth 20000 in
theorem gX9_statement_X9_emit : GoodIn wsX9_statement (wsV RX9 82 RX9 yX9_emit wsX9_emit) := goodIn_app (goodIn_sub (fa_c (me_s (me_l (me_l (List.mem_of_getElem? (i := 20) rfl)))) (fa_c (me_s (me_l (me_l (List.mem_of_getElem? (i := 21) rfl)))) (fa_c (me_s (me_l (me_l (List.mem_of_getElem? (i := 22) rfl)))) (fa_c (me_s (me_l (me_l (List.mem_of_getElem? (i := 8) rfl)))) fa_n)))) (by decide +kernel)) ggX9_statement_X9_emit
theorem dX9_statement_76 : decode cX9_statement 76 = .ok (.invokevirtual 82, 3) := z_dd_182 (by decide +kernel)
theorem dX9_statement_79 : decode cX9_statement 79 = .ok (.aload_n 0, 1) := z_dd_42 (by decide +kernel)
theorem dX9_statement_80 : decode cX9_statement 80 = .ok (.getfield 62, 3) := z_dd_180 (by decide +kernel)
theorem dX9_statement_83 : decode cX9_statement 83 = .ok (.sipush 308, 3) := z_dd_17 (by decide +kernel)
theorem dX9_statement_86 : decode cX9_statement 86 = .ok (.if_icmp .ne 11, 3) := z_dd_160 (by decide +kernel)
theorem dX9_statement_97 : decode cX9_statement 97 = .ok (.iconst 1, 1) := z_dd_4 (by decide +kernel)
theorem dX9_statement_98 : decode cX9_statement 98 = .ok (.goto 4, 3) := z_dd_167 (by decide +kernel)
theorem dX9_statement_102 : decode cX9_statement 102 = .ok (.ireturn, 1) := z_dd_172 (by decide +kernel)
theorem dX9_statement_89 : decode cX9_statement 89 = .ok (.aload_n 0, 1) := z_dd_42 (by decide +kernel)
theorem dX9_statement_90 : decode cX9_statement 90 = .ok (.iload_n 1, 1) := z_dd_27 (by decide +kernel)
set_option maxRecDepth 20000 in
theorem ggX9_statement_X9_condition : GoodIn wsX9_statement wsX9_condition := goodIn_sub (fa_c (me_s (me_l (me_r (me_l (List.mem_of_getElem? (i := 18) rfl))))) (fa_a (fa_a (fa_c (me_s (me_l (me_l (List.mem_of_getElem? (i := 4) rfl)))) (fa_c (me_s (me_l (me_l (List.mem_of_getElem? (i := 3) rfl)))) (fa_c (me_s (me_l (me_l (List.mem_of_getElem? (i := 5) rfl)))) (fa_c (me_s (me_l (me_l (List.mem_of_getElem? (i := 6) rfl)))) (fa_c (me_s (me_l (me_l (List.mem_of_getElem? (i := 7) rfl)))) (fa_c (me_s (me_l (me_l (List.mem_of_getElem? (i := 8) rfl)))) (fa_c (me_s (me_l (me_l (List.mem_of_getElem? (i := 9) rfl)))) (fa_c (me_s (me_l (me_l (List.mem_of_getElem? (i := 10) rfl)))) (fa_c (me_s (me_l (me_l (List.mem_of_getElem? (i := 11) rfl)))) (fa_c (me_s (me_l (me_l (List.mem_of_getElem? (i := 12) rfl)))) (fa_c (me_s (me_l (me_l (List.mem_of_getElem? (i := 1) rfl)))) (fa_c (me_s (me_l (me_r (me_l (List.mem_of_getElem? (i := 19) rfl))))) (fa_c (me_s (me_l (me_r (me_l (List.mem_of_getElem? (i := 20) rfl))))) (fa_c (me_s (me_l (me_r (me_l (List.mem_of_getElem? (i := 21) rfl))))) (fa_c (me_s (me_l (me_r (me_l (List.mem_of_getElem? (i := 22) rfl))))) (fa_c (me_s (me_l (me_r (me_l (List.mem_of_getElem? (i := 23) rfl))))) (fa_c (me_s (me_l (me_r (me_r (List.mem_of_getElem? (i := 0) rfl))))) (fa_c (me_s (me_l (me_r (me_r (List.mem_of_getElem? (i := 1) rfl))))) (fa_c (me_s (me_l (me_l (List.mem_of_getElem? (i := 20) rfl)))) (fa_c (me_s (me_l (me_l (List.mem_of_getElem? (i := 21) rfl)))) (fa_c (me_s (me_l (me_l (List.mem_of_getElem? (i := 22) rfl)))) (fa_c (me_s (me_l (me_l (List.mem_of_getElem? (i := 23) rfl)))) (fa_c (me_s (me_l (me_r (me_l (List.mem_of_getElem? (i := 0) rfl))))) (fa_c (me_s (me_l (me_r (me_r (List.mem_of_getElem? (i := 2) rfl))))) fa_n)))))))))))))))))))))))) (fa_a (fa_c (me_s (me_l (me_r (me_r (List.mem_of_getElem? (i := 3) rfl))))) (fa_c (me_s (me_l (me_r (me_r (List.mem_of_getElem? (i := 4) rfl))))) (fa_c (me_s (me_l (me_r (me_r (List.mem_of_getElem? (i := 5) rfl))))) (fa_c (me_s (me_l (me_r (me_r (List.mem_of_getElem? (i := 6) rfl))))) (fa_c (me_s (me_l (me_r (me_r (List.mem_of_getElem? (i := 7) rfl))))) (fa_c (me_s (me_l (me_r (me_r (List.mem_of_getElem? (i := 8) rfl))))) (fa_c (me_s (me_l (me_r (me_r (List.mem_of_getElem? (i := 9) rfl))))) (fa_c (me_s (me_l (me_l (List.mem_of_getElem? (i := 13) rfl)))) (fa_c (me_s (me_l (me_l (List.mem_of_getElem? (i := 14) rfl)))) (fa_c (me_s (me_l (me_l (List.mem_of_getElem? (i := 15) rfl)))) (fa_c (me_s (me_l (me_l (List.mem_of_getElem? (i := 16) rfl)))) (fa_c (me_s (me_l (me_l (List.mem_of_getElem? (i := 17) rfl)))) (fa_c (me_s (me_l (me_l (List.mem_of_getElem? (i := 18) rfl)))) (fa_c (me_s (me_l (me_l (List.mem_of_getElem? (i := 19) rfl)))) (fa_c (me_s (me_l (me_r (me_l (List.mem_of_getElem? (i := 1) rfl))))) (fa_c (me_s (me_l (me_r (me_l (List.mem_of_getElem? (i := 2) rfl))))) (fa_c (me_s (me_l (me_r (me_l (List.mem_of_getElem? (i := 3) rfl))))) (fa_c (me_s (me_l (me_r (me_l (List.mem_of_getElem? (i := 4) rfl))))) (fa_c (me_s (me_l (me_r (me_l (List.mem_of_getElem? (i := 5) rfl))))) (fa_c (me_s (me_l (me_r (me_l (List.mem_of_getElem? (i := 6) rfl))))) (fa_c (me_s (me_l (me_r (me_l (List.mem_of_getElem? (i := 7) rfl))))) (fa_c (me_s (me_l (me_r (me_l (List.mem_of_getElem? (i := 8) rfl))))) (fa_c (me_s (me_l (me_r (me_l (List.mem_of_getElem? (i := 9) rfl))))) (fa_c (me_s (me_l (me_r (me_l (List.mem_of_getElem? (i := 10) rfl))))) fa_n)))))))))))))))))))))))) (fa_c (me_s (me_l (me_r (me_l (List.mem_of_getElem? (i := 11) rfl))))) (fa_c (me_s (me_l (me_r (me_l (List.mem_of_getElem? (i := 12) rfl))))) (fa_c (me_s (me_l (me_r (me_l (List.mem_of_getElem? (i := 13) rfl))))) (fa_c (me_s (me_l (me_r (me_l (List.mem_of_getElem? (i := 14) rfl))))) (fa_c (me_s (me_l (me_r (me_r (List.mem_of_getElem? (i := 10) rfl))))) fa_n))))))) (fun w h => (me_s (me_r h))))) (by decide +kernel)
set_option maxRecDepth 20000 in
theorem gX9_statement_X9_condition : GoodIn wsX9_statement (wsV RX9 85 RX9 yX9_condition wsX9_condition) := goodIn_app (goodIn_sub (fa_c (me_s (me_l (me_r (me_l (List.mem_of_getElem? (i := 15) rfl))))) (fa_c (me_s (me_l (me_r (me_l (List.mem_of_getElem? (i := 16) rfl))))) (fa_c (me_s (me_l (me_r (me_l (List.mem_of_getElem? (i := 17) rfl))))) (fa_c (me_s (me_l (me_l (List.mem_of_getElem? (i := 8) rfl)))) fa_n)))) (by decide +kernel)) ggX9_statement_X9_condition
theorem dX9_statement_91 : decode cX9_statement 91 = .ok (.invokevirtual 85, 3) := z_dd_182 (by decide +kernel)
theorem dX9_statement_94 : decode cX9_statement 94 = .ok (.ifCond .eq 7, 3) := z_dd_153 (by decide +kernel)
theorem dX9_statement_101 : decode cX9_statement 101 = .ok (.iconst 0, 1) := z_dd_3 (by decide +kernel)
theorem dX9_statement_71 : decode cX9_statement 71 = .ok (.iconst 0, 1) := z_dd_3 (by decide +kernel)
theorem dX9_statement_72 : decode cX9_statement 72 = .ok (.ireturn, 1) := z_dd_172 (by decide +kernel)
theorem dX9_statement_49 : decode cX9_statement 49 = .ok (.aload_n 0, 1) := z_dd_42 (by decide +kernel)
theorem dX9_statement_50 : decode cX9_statement 50 = .ok (.getfield 62, 3) := z_dd_180 (by decide +kernel)
theorem dX9_statement_53 : decode cX9_statement 53 = .ok (.sipush 301, 3) := z_dd_17 (by decide +kernel)
theorem dX9_statement_56 : decode cX9_statement 56 = .ok (.if_icmp .ne 47, 3) := z_dd_160 (by decide +kernel)
theorem dX9_statement_103 : decode cX9_statement 103 = .ok (.aload_n 0, 1) := z_dd_42 (by decide +kernel)
theorem dX9_statement_104 : decode cX9_statement 104 = .ok (.getfield 62, 3) := z_dd_180 (by decide +kernel)
theorem dX9_statement_107 : decode cX9_statement 107 = .ok (.sipush 302, 3) := z_dd_17 (by decide +kernel)
theorem dX9_statement_110 : decode cX9_statement 110 = .ok (.if_icmp .ne 9, 3) := z_dd_160 (by decide +kernel)
theorem dX9_statement_119 : decode cX9_statement 119 = .ok (.aload_n 0, 1) := z_dd_42 (by decide +kernel)
theorem dX9_statement_120 : decode cX9_statement 120 = .ok (.getfield 62, 3) := z_dd_180 (by decide +kernel)
theorem dX9_statement_123 : decode cX9_statement 123 = .ok (.sipush 303, 3) := z_dd_17 (by decide +kernel)
theorem dX9_statement_126 : decode cX9_statement 126 = .ok (.if_icmp .lt 25, 3) := z_dd_161 (by decide +kernel)
theorem dX9_statement_151 : decode cX9_statement 151 = .ok (.iconst 0, 1) := z_dd_3 (by decide +kernel)
theorem dX9_statement_152 : decode cX9_statement 152 = .ok (.ireturn, 1) := z_dd_172 (by decide +kernel)
theorem dX9_statement_129 : decode cX9_statement 129 = .ok (.aload_n 0, 1) := z_dd_42 (by decide +kernel)
theorem dX9_statement_130 : decode cX9_statement 130 = .ok (.getfield 62, 3) := z_dd_180 (by decide +kernel)
theorem dX9_statement_133 : decode cX9_statement 133 = .ok (.sipush 307, 3) := z_dd_17 (by decide +kernel)
theorem dX9_statement_136 : decode cX9_statement 136 = .ok (.if_icmp .gt 15, 3) := z_dd_163 (by decide +kernel)
theorem dX9_statement_139 : decode cX9_statement 139 = .ok (.aload_n 0, 1) := z_dd_42 (by decide +kernel)
theorem dX9_statement_140 : decode cX9_statement 140 = .ok (.iload_n 1, 1) := z_dd_27 (by decide +kernel)
set_option maxRecDepth 20000 in
theorem ggX9_statement_X9_amountOf : GoodIn wsX9_statement wsX9_amountOf := goodIn_sub (fa_c (me_s (me_l (me_r (me_r (List.mem_of_getElem? (i := 14) rfl))))) (fa_a (fa_c (me_s (me_l (me_l (List.mem_of_getElem? (i := 0) rfl)))) (fa_c (me_s (me_l (me_l (List.mem_of_getElem? (i := 1) rfl)))) (fa_c (me_s (me_l (me_l (List.mem_of_getElem? (i := 2) rfl)))) (fa_c (me_s (me_l (me_l (List.mem_of_getElem? (i := 5) rfl)))) (fa_c (me_s (me_l (me_l (List.mem_of_getElem? (i := 6) rfl)))) (fa_c (me_s (me_l (me_l (List.mem_of_getElem? (i := 7) rfl)))) (fa_c (me_s (me_l (me_l (List.mem_of_getElem? (i := 8) rfl)))) (fa_c (me_s (me_l (me_l (List.mem_of_getElem? (i := 9) rfl)))) (fa_c (me_s (me_l (me_l (List.mem_of_getElem? (i := 10) rfl)))) (fa_c (me_s (me_l (me_l (List.mem_of_getElem? (i := 11) rfl)))) (fa_c (me_s (me_l (me_l (List.mem_of_getElem? (i := 12) rfl)))) (fa_c (me_s (me_l (me_r (me_l (List.mem_of_getElem? (i := 2) rfl))))) (fa_c (me_s (me_l (me_r (me_l (List.mem_of_getElem? (i := 3) rfl))))) (fa_c (me_s (me_l (me_r (me_l (List.mem_of_getElem? (i := 4) rfl))))) (fa_c (me_s (me_l (me_r (me_l (List.mem_of_getElem? (i := 5) rfl))))) (fa_c (me_s (me_l (me_r (me_l (List.mem_of_getElem? (i := 6) rfl))))) fa_n)))))))))))))))) (fun w h => (me_s (me_r h))))) (by decide +kernel)
set_option maxRecDepth 20000 in
theorem gX9_statement_X9_amountOf : GoodIn wsX9_statement (wsV RX9 88 RX9 yX9_amountOf wsX9_amountOf) := goodIn_app (goodIn_sub (fa_c (me_s (me_l (me_r (me_r (List.mem_of_getElem? (i := 11) rfl))))) (fa_c (me_s (me_l (me_r (me_r (List.mem_of_getElem? (i := 12) rfl))))) (fa_c (me_s (me_l (me_r (me_r (List.mem_of_getElem? (i := 13) rfl))))) (fa_c (me_s (me_l (me_l (List.mem_of_getElem? (i := 8) rfl)))) fa_n)))) (by decide +kernel)) ggX9_statement_X9_amountOf
theorem dX9_statement_141 : decode cX9_statement 141 = .ok (.invokevirtual 88, 3) := z_dd_182 (by decide +kernel)
theorem dX9_statement_144 : decode cX9_statement 144 = .ok (.ifCond .eq 7, 3) := z_dd_153 (by decide +kernel)
theorem dX9_statement_147 : decode cX9_statement 147 = .ok (.iconst 1, 1) := z_dd_4 (by decide +kernel)
theorem dX9_statement_148 : decode cX9_statement 148 = .ok (.goto 4, 3) := z_dd_167 (by decide +kernel)
theorem dX9_statement_113 : decode cX9_statement 113 = .ok (.aload_n 0, 1) := z_dd_42 (by decide +kernel)
theorem dX9_statement_114 : decode cX9_statement 114 = .ok (.iload_n 1, 1) := z_dd_27 (by decide +kernel)
theorem dX9_statement_115 : decode cX9_statement 115 = .ok (.invokevirtual 85, 3) := z_dd_182 (by decide +kernel)
theorem dX9_statement_118 : decode cX9_statement 118 = .ok (.ireturn, 1) := z_dd_172 (by decide +kernel)
theorem z_l307 : (307 : Int32).toInt = 307 := by decide
theorem z_l308 : (308 : Int32).toInt = 308 := by decide
noncomputable def L_X9_condition : z_L := [(12, 6), (12, 7), (17, 999), (12, 9), (20, 999)]
theorem zj_X9_condition_X9 : ∀ w ∈ wsX90, w ∈ wsX9_condition := fun w h => (List.mem_cons_of_mem _ (List.mem_append_right _ h))
set_option maxHeartbeats 8000000 in
set_option maxRecDepth 100000 in
theorem sx_X9_condition (l : Launch) (G : z_G) (ad : Nat → Nat) (c : z_C) (I : z_I) (hR : z_iR I) (hT : z_iT I) (a1 : Int32) (q1 : (I 12 6).toInt ≤ 500) : z_M l yX9_condition wsX9_condition { frames := 45, cells := 0, slots := 0, locals := 979 } [.ref (ad 12), .int a1] G (shC c, ad, I, JX, PC c ad) (fun r u1 => ∃ I1 : z_I, u1 = (shC c, ad, I1, JX, PC c ad) ∧ z_iR I1 ∧ z_iT I1 ∧ z_fr L_X9_condition I1 I ∧ (r = 1 ∨ r = 0)) 0 0 := by
  intro sz
  refine z_headQ (cc := cX9_condition) (maxL := 2) (ret := (some .boolean)) (by decide) rfl (Nat.le_of_ble_eq_true rfl) ?_
  intro p e s m below meth c0 ls hIn hK hsz hW hl
  obtain ⟨hx, hb, hr, hml, hown, hts, hlocks, hname⟩ := hIn
  subst hsz
  have hown : s.vm.findClass RX9 = some m.cls := hown
  have hA : ∀ q : Nat, s.heap.size ≤ q → z_A (shC c, ad, I, JX, PC c ad) s.heap.size q := fun q h => Or.inr h
  generalize hAe : z_A (shC c, ad, I, JX, PC c ad) s.heap.size = A at *
  have hS : va_S A s.heap s.heap [] := va_S.rf
  have hl : lv_has ls 2 [(0, .ref (ad 12)), (1, .int a1)] := hl
  have kT : (I 12 6).toInt ≤ 501 ∧ ((I 12 7).toInt = 401 ∨ (I 12 6).toInt ≤ 500) := hT
  refine lv_iload_n hx hb dX9_condition_0 rfl (lv_at hl 1 rfl) ?_
  refine lv_if_lt (tgt := 10) hx hb dX9_condition_1 (by decide) (fun c1 => ?_) (fun c1 => ?_)
  · have g2 := z_f_lt rfl z_l0 c1
    have b3 := Int32.toInt_lt a1
    refine lv_iconst (v := 0) hx hb dX9_condition_10 (by decide) ?_
    exact z_zret hx hb hr (by decide) hK hS (Nat.le_of_ble_eq_true rfl) (Nat.le_of_ble_eq_true rfl) hlocks dX9_condition_11 (shC c, ad, I, JX, PC c ad) hW ⟨I, rfl, ⟨(by show 0 ≤ (I 12 1).toInt ∧ (I 12 1).toInt ≤ 500; exact hR.1), (by show 0 ≤ (I 12 5).toInt ∧ (I 12 5).toInt ≤ 501; exact hR.2.1), (by show (-1) ≤ (I 12 6).toInt ∧ (I 12 6).toInt ≤ 1000000; exact hR.2.2.1), (by show 0 ≤ (I 12 9).toInt ∧ (I 12 9).toInt ≤ 500; exact hR.2.2.2.1), (by show 0 ≤ (I 12 13).toInt ∧ (I 12 13).toInt ≤ 24; exact hR.2.2.2.2)⟩, (by show (I 12 6).toInt ≤ 501 ∧ ((I 12 7).toInt = 401 ∨ (I 12 6).toInt ≤ 500); first | omega | decide), z_fr_0, Or.inr rfl⟩
  · have g4 := z_f_nlt rfl z_l0 c1
    have b5 := Int32.toInt_lt a1
    refine lv_iload_n hx hb dX9_condition_4 rfl (lv_at hl 1 rfl) ?_
    refine lv_bipush (v := 24) hx hb dX9_condition_5 (by decide) ?_
    refine lv_icmp_lt (tgt := 12) hx hb dX9_condition_7 (by decide) (fun c6 => ?_) (fun c6 => ?_)
    · have g7 := z_f_lt rfl z_l24 c6
      refine lv_aload_n hx hb dX9_condition_12 rfl (lv_at hl 0 rfl) ?_
      refine z_cv hW hS hA (va_runV (As := []) (rest := []) ⟨hx, hb, hml, hown, hts⟩ (sx_X9_step l G ad c I ⟨(by show 0 ≤ (I 12 1).toInt ∧ (I 12 1).toInt ≤ 500; exact hR.1), (by show 0 ≤ (I 12 5).toInt ∧ (I 12 5).toInt ≤ 501; exact hR.2.1), (by show (-1) ≤ (I 12 6).toInt ∧ (I 12 6).toInt ≤ 1000000; exact hR.2.2.1), (by show 0 ≤ (I 12 9).toInt ∧ (I 12 9).toInt ≤ 500; exact hR.2.2.2.1), (by show 0 ≤ (I 12 13).toInt ∧ (I 12 13).toInt ≤ 24; exact hR.2.2.2.2)⟩   (by show (I 12 6).toInt ≤ 500; first | omega | decide) _) (cwV 0 hts gX9_condition_X9_step rfl rfl rfl hy_X9_step ⟨Nat.le_of_ble_eq_true rfl, Nat.le_of_ble_eq_true rfl⟩) (z_preV (i := 12) hK hW rfl rfl) rfl rfl hl.1 rfl (lv_room (Nat.le_of_ble_eq_true rfl)) dX9_condition_13 ⟨Nat.le_of_ble_eq_true rfl, Nat.le_of_ble_eq_true rfl⟩) (fun u1 H locs hp hW hS => ?_)
      obtain ⟨I8, e9, hI8R, hI8T, fI8⟩ := hp
      rw [e9] at hW
      have f9 := z_fr_sub (L := L_X9_condition) z_fr_0 fI8 (by decide)
      have k10 : (I8 12 6).toInt ≤ 501 ∧ ((I8 12 7).toInt = 401 ∨ (I8 12 6).toInt ≤ 500) := hI8T
      refine lv_aload_n hx hb dX9_condition_16 rfl (lv_at hl 0 rfl) ?_
      refine z_get (T := TX9) (N := 14) (ci := 9) (i := 12) (v := .ref (ad 20)) hx hb hts zj_X9_condition_X9 hown hK hW rfl rfl 12 (by decide) (hts (.fieldLink RX9 33 "PetrolBoard$Reader" "second" "[I") (me_s (me_l (me_l (List.mem_of_getElem? (i := 0) rfl))))) (fun _ h => h) rfl dX9_condition_17 ?_
      refine lv_iload_n hx hb dX9_condition_20 rfl (lv_at hl 1 rfl) ?_
      refine lv_aload_n hx hb dX9_condition_21 rfl (lv_at hl 0 rfl) ?_
      have r11 : 0 ≤ (I8 12 9).toInt ∧ (I8 12 9).toInt ≤ 500 := hI8R.2.2.2.1
      refine z_get (T := TX9) (N := 14) (ci := 9) (i := 12) (v := .int (I8 12 9)) hx hb hts zj_X9_condition_X9 hown hK hW rfl rfl 9 (by decide) (hts (.fieldLink RX9 50 "PetrolBoard$Reader" "used" "I") (me_s (me_l (me_l (List.mem_of_getElem? (i := 1) rfl))))) (fun _ h => h) rfl dX9_condition_22 ?_
      refine z_iast (i := 20) hx hb hK hW hS rfl (z_ix rfl (by omega) (by omega)) dX9_condition_25 (fun H locs hz1 hW hS => ?_)
      obtain ⟨I12, eI12⟩ : ∃ K : z_I, K = z_up I8 20 a1.toNatClampNeg (I8 12 9) := ⟨_, rfl⟩
      rw [← eI12] at hW
      have f13 := z_fr_a f9 (show z_wa L_X9_condition 20 = true by decide) eI12
      refine lv_aload_n hx hb dX9_condition_26 rfl (lv_at hl 0 rfl) ?_
      refine lv_iconst (v := 0) hx hb dX9_condition_27 (by decide) ?_
      refine z_ci hW hS hA (va_runV (As := [.int 0]) (rest := []) ⟨hx, hb, hml, hown, hts⟩ (sx_X9_either_0 l G ad c I12 ⟨(by show 0 ≤ (I12 12 1).toInt ∧ (I12 12 1).toInt ≤ 500; rw [eI12, z_up_n (by decide)]; exact hI8R.1), (by show 0 ≤ (I12 12 5).toInt ∧ (I12 12 5).toInt ≤ 501; rw [eI12, z_up_n (by decide)]; exact hI8R.2.1), (by show (-1) ≤ (I12 12 6).toInt ∧ (I12 12 6).toInt ≤ 1000000; rw [eI12, z_up_n (by decide)]; exact hI8R.2.2.1), (by show 0 ≤ (I12 12 9).toInt ∧ (I12 12 9).toInt ≤ 500; rw [eI12, z_up_n (by decide)]; exact hI8R.2.2.2.1), (by show 0 ≤ (I12 12 13).toInt ∧ (I12 12 13).toInt ≤ 24; rw [eI12, z_up_n (by decide)]; exact hI8R.2.2.2.2)⟩ (by have q0 : (I12 12 6) = (I8 12 6) := (by rw [eI12, z_up_n (by decide)]); have q1 : (I12 12 7) = (I8 12 7) := (by rw [eI12, z_up_n (by decide)]); show (I12 12 6).toInt ≤ 501 ∧ ((I12 12 7).toInt = 401 ∨ (I12 12 6).toInt ≤ 500); rw [q0, q1]; first | omega | decide) _) (cwV 1 hts gX9_condition_X9_either rfl rfl rfl hy_X9_either ⟨Nat.le_of_ble_eq_true rfl, Nat.le_of_ble_eq_true rfl⟩) (z_preV (i := 12) hK hW rfl rfl) rfl rfl hl.1 rfl (lv_room (Nat.le_of_ble_eq_true rfl)) dX9_condition_28 ⟨Nat.le_of_ble_eq_true rfl, Nat.le_of_ble_eq_true rfl⟩) (fun r u1 H locs hp hW hS => ?_)
      obtain ⟨I14, e9, hI14R, hI14T, fI14, hp⟩ := hp
      rw [e9] at hW
      have f15 := z_fr_sub (L := L_X9_condition) f13 fI14 (by decide)
      have k16 : (I14 12 6).toInt ≤ 501 ∧ ((I14 12 7).toInt = 401 ∨ (I14 12 6).toInt ≤ 500) := hI14T
      rcases hp with rfl | rfl
      · refine lv_if_ne (tgt := 36) hx hb dX9_condition_31 (by decide) (fun c17 => ?_) (fun c17 => absurd c17 (by decide))
        refine lv_aload_n hx hb dX9_condition_36 rfl (lv_at hl 0 rfl) ?_
        refine lv_bipush (v := (-13)) hx hb dX9_condition_37 (by decide) ?_
        refine z_cv hW hS hA (va_runV (As := [.int (-13)]) (rest := []) ⟨hx, hb, hml, hown, hts⟩ (sx_X9_emit l G ad c I14 ⟨(by show 0 ≤ (I14 12 1).toInt ∧ (I14 12 1).toInt ≤ 500; exact hI14R.1), (by show 0 ≤ (I14 12 5).toInt ∧ (I14 12 5).toInt ≤ 501; exact hI14R.2.1), (by show (-1) ≤ (I14 12 6).toInt ∧ (I14 12 6).toInt ≤ 1000000; exact hI14R.2.2.1), (by show 0 ≤ (I14 12 9).toInt ∧ (I14 12 9).toInt ≤ 500; exact hI14R.2.2.2.1), (by show 0 ≤ (I14 12 13).toInt ∧ (I14 12 13).toInt ≤ 24; exact hI14R.2.2.2.2)⟩ (-13) _) (cwV 1 hts gX9_condition_X9_emit rfl rfl rfl hy_X9_emit ⟨Nat.le_of_ble_eq_true rfl, Nat.le_of_ble_eq_true rfl⟩) (z_preV (i := 12) hK hW rfl rfl) rfl rfl hl.1 rfl (lv_room (Nat.le_of_ble_eq_true rfl)) dX9_condition_39 ⟨Nat.le_of_ble_eq_true rfl, Nat.le_of_ble_eq_true rfl⟩) (fun u1 H locs hp hW hS => ?_)
        obtain ⟨I18, e9, hI18R, fI18⟩ := hp
        rw [e9] at hW
        have f19 := z_fr_sub (L := L_X9_condition) f15 fI18 (by decide)
        have k20 : (I18 12 6).toInt ≤ 501 ∧ ((I18 12 7).toInt = 401 ∨ (I18 12 6).toInt ≤ 500) := (by have q0 : (I18 12 6) = (I14 12 6) := (by rw [fI18 12 6 (by decide)]); have q1 : (I18 12 7) = (I14 12 7) := (by rw [fI18 12 7 (by decide)]); show (I18 12 6).toInt ≤ 501 ∧ ((I18 12 7).toInt = 401 ∨ (I18 12 6).toInt ≤ 500); rw [q0, q1]; first | omega | decide)
        have k21 : (I18 12 6).toInt = (I14 12 6).toInt := by rw [fI18 12 6 (by decide)]
        have k22 : (I18 12 7).toInt = (I14 12 7).toInt := by rw [fI18 12 7 (by decide)]
        refine lv_iconst (v := 1) hx hb dX9_condition_42 (by decide) ?_
        exact z_zret hx hb hr (by decide) hK hS (Nat.le_of_ble_eq_true rfl) (Nat.le_of_ble_eq_true rfl) hlocks dX9_condition_43 (shC c, ad, I18, JX, PC c ad) hW ⟨I18, rfl, ⟨(by show 0 ≤ (I18 12 1).toInt ∧ (I18 12 1).toInt ≤ 500; exact hI18R.1), (by show 0 ≤ (I18 12 5).toInt ∧ (I18 12 5).toInt ≤ 501; exact hI18R.2.1), (by show (-1) ≤ (I18 12 6).toInt ∧ (I18 12 6).toInt ≤ 1000000; exact hI18R.2.2.1), (by show 0 ≤ (I18 12 9).toInt ∧ (I18 12 9).toInt ≤ 500; exact hI18R.2.2.2.1), (by show 0 ≤ (I18 12 13).toInt ∧ (I18 12 13).toInt ≤ 24; exact hI18R.2.2.2.2)⟩, (by show (I18 12 6).toInt ≤ 501 ∧ ((I18 12 7).toInt = 401 ∨ (I18 12 6).toInt ≤ 500); first | omega | decide), f19, Or.inl rfl⟩
      · refine lv_if_ne (tgt := 36) hx hb dX9_condition_31 (by decide) (fun c23 => absurd (by decide) c23) (fun c23 => ?_)
        refine lv_iconst (v := 0) hx hb dX9_condition_34 (by decide) ?_
        exact z_zret hx hb hr (by decide) hK hS (Nat.le_of_ble_eq_true rfl) (Nat.le_of_ble_eq_true rfl) hlocks dX9_condition_35 (shC c, ad, I14, JX, PC c ad) hW ⟨I14, rfl, ⟨(by show 0 ≤ (I14 12 1).toInt ∧ (I14 12 1).toInt ≤ 500; exact hI14R.1), (by show 0 ≤ (I14 12 5).toInt ∧ (I14 12 5).toInt ≤ 501; exact hI14R.2.1), (by show (-1) ≤ (I14 12 6).toInt ∧ (I14 12 6).toInt ≤ 1000000; exact hI14R.2.2.1), (by show 0 ≤ (I14 12 9).toInt ∧ (I14 12 9).toInt ≤ 500; exact hI14R.2.2.2.1), (by show 0 ≤ (I14 12 13).toInt ∧ (I14 12 13).toInt ≤ 24; exact hI14R.2.2.2.2)⟩, (by show (I14 12 6).toInt ≤ 501 ∧ ((I14 12 7).toInt = 401 ∨ (I14 12 6).toInt ≤ 500); first | omega | decide), f15, Or.inr rfl⟩
    · have g24 := z_f_nlt rfl z_l24 c6
      refine lv_iconst (v := 0) hx hb dX9_condition_10 (by decide) ?_
      exact z_zret hx hb hr (by decide) hK hS (Nat.le_of_ble_eq_true rfl) (Nat.le_of_ble_eq_true rfl) hlocks dX9_condition_11 (shC c, ad, I, JX, PC c ad) hW ⟨I, rfl, ⟨(by show 0 ≤ (I 12 1).toInt ∧ (I 12 1).toInt ≤ 500; exact hR.1), (by show 0 ≤ (I 12 5).toInt ∧ (I 12 5).toInt ≤ 501; exact hR.2.1), (by show (-1) ≤ (I 12 6).toInt ∧ (I 12 6).toInt ≤ 1000000; exact hR.2.2.1), (by show 0 ≤ (I 12 9).toInt ∧ (I 12 9).toInt ≤ 500; exact hR.2.2.2.1), (by show 0 ≤ (I 12 13).toInt ∧ (I 12 13).toInt ≤ 24; exact hR.2.2.2.2)⟩, (by show (I 12 6).toInt ≤ 501 ∧ ((I 12 7).toInt = 401 ∨ (I 12 6).toInt ≤ 500); first | omega | decide), z_fr_0, Or.inr rfl⟩
noncomputable def L_X9_amountOf : z_L := [(12, 6), (12, 7), (17, 999), (12, 9), (19, 999)]
theorem zj_X9_amountOf_X9 : ∀ w ∈ wsX90, w ∈ wsX9_amountOf := fun w h => (List.mem_cons_of_mem _ (List.mem_append_right _ h))
set_option maxHeartbeats 8000000 in
set_option maxRecDepth 100000 in
theorem sx_X9_amountOf (l : Launch) (G : z_G) (ad : Nat → Nat) (c : z_C) (I : z_I) (hR : z_iR I) (hT : z_iT I) (a1 : Int32) (q1 : (I 12 6).toInt ≤ 500) : z_M l yX9_amountOf wsX9_amountOf { frames := 2, cells := 0, slots := 0, locals := 32 } [.ref (ad 12), .int a1] G (shC c, ad, I, JX, PC c ad) (fun r u1 => ∃ I1 : z_I, u1 = (shC c, ad, I1, JX, PC c ad) ∧ z_iR I1 ∧ z_iT I1 ∧ z_fr L_X9_amountOf I1 I ∧ (r = 1 ∨ r = 0)) 0 0 := by
  intro sz
  refine z_headQ (cc := cX9_amountOf) (maxL := 3) (ret := (some .boolean)) (by decide) rfl (Nat.le_of_ble_eq_true rfl) ?_
  intro p e s m below meth c0 ls hIn hK hsz hW hl
  obtain ⟨hx, hb, hr, hml, hown, hts, hlocks, hname⟩ := hIn
  subst hsz
  have hown : s.vm.findClass RX9 = some m.cls := hown
  have hA : ∀ q : Nat, s.heap.size ≤ q → z_A (shC c, ad, I, JX, PC c ad) s.heap.size q := fun q h => Or.inr h
  generalize hAe : z_A (shC c, ad, I, JX, PC c ad) s.heap.size = A at *
  have hS : va_S A s.heap s.heap [] := va_S.rf
  have hl : lv_has ls 3 [(0, .ref (ad 12)), (1, .int a1)] := hl
  have kT : (I 12 6).toInt ≤ 501 ∧ ((I 12 7).toInt = 401 ∨ (I 12 6).toInt ≤ 500) := hT
  refine lv_iload_n hx hb dX9_amountOf_0 rfl (lv_at hl 1 rfl) ?_
  refine lv_if_lt (tgt := 10) hx hb dX9_amountOf_1 (by decide) (fun c1 => ?_) (fun c1 => ?_)
  · have g2 := z_f_lt rfl z_l0 c1
    have b3 := Int32.toInt_lt a1
    refine lv_iconst (v := 0) hx hb dX9_amountOf_10 (by decide) ?_
    exact z_zret hx hb hr (by decide) hK hS (Nat.le_of_ble_eq_true rfl) (Nat.le_of_ble_eq_true rfl) hlocks dX9_amountOf_11 (shC c, ad, I, JX, PC c ad) hW ⟨I, rfl, ⟨(by show 0 ≤ (I 12 1).toInt ∧ (I 12 1).toInt ≤ 500; exact hR.1), (by show 0 ≤ (I 12 5).toInt ∧ (I 12 5).toInt ≤ 501; exact hR.2.1), (by show (-1) ≤ (I 12 6).toInt ∧ (I 12 6).toInt ≤ 1000000; exact hR.2.2.1), (by show 0 ≤ (I 12 9).toInt ∧ (I 12 9).toInt ≤ 500; exact hR.2.2.2.1), (by show 0 ≤ (I 12 13).toInt ∧ (I 12 13).toInt ≤ 24; exact hR.2.2.2.2)⟩, (by show (I 12 6).toInt ≤ 501 ∧ ((I 12 7).toInt = 401 ∨ (I 12 6).toInt ≤ 500); first | omega | decide), z_fr_0, Or.inr rfl⟩
  · have g4 := z_f_nlt rfl z_l0 c1
    have b5 := Int32.toInt_lt a1
    refine lv_iload_n hx hb dX9_amountOf_4 rfl (lv_at hl 1 rfl) ?_
    refine lv_bipush (v := 24) hx hb dX9_amountOf_5 (by decide) ?_
    refine lv_icmp_lt (tgt := 12) hx hb dX9_amountOf_7 (by decide) (fun c6 => ?_) (fun c6 => ?_)
    · have g7 := z_f_lt rfl z_l24 c6
      refine lv_aload_n hx hb dX9_amountOf_12 rfl (lv_at hl 0 rfl) ?_
      refine z_cv hW hS hA (va_runV (As := []) (rest := []) ⟨hx, hb, hml, hown, hts⟩ (sx_X9_step l G ad c I ⟨(by show 0 ≤ (I 12 1).toInt ∧ (I 12 1).toInt ≤ 500; exact hR.1), (by show 0 ≤ (I 12 5).toInt ∧ (I 12 5).toInt ≤ 501; exact hR.2.1), (by show (-1) ≤ (I 12 6).toInt ∧ (I 12 6).toInt ≤ 1000000; exact hR.2.2.1), (by show 0 ≤ (I 12 9).toInt ∧ (I 12 9).toInt ≤ 500; exact hR.2.2.2.1), (by show 0 ≤ (I 12 13).toInt ∧ (I 12 13).toInt ≤ 24; exact hR.2.2.2.2)⟩   (by show (I 12 6).toInt ≤ 500; first | omega | decide) _) (cwV 0 hts gX9_amountOf_X9_step rfl rfl rfl hy_X9_step ⟨Nat.le_of_ble_eq_true rfl, Nat.le_of_ble_eq_true rfl⟩) (z_preV (i := 12) hK hW rfl rfl) rfl rfl hl.1 rfl (lv_room (Nat.le_of_ble_eq_true rfl)) dX9_amountOf_13 ⟨Nat.le_of_ble_eq_true rfl, Nat.le_of_ble_eq_true rfl⟩) (fun u1 H locs hp hW hS => ?_)
      obtain ⟨I8, e9, hI8R, hI8T, fI8⟩ := hp
      rw [e9] at hW
      have f9 := z_fr_sub (L := L_X9_amountOf) z_fr_0 fI8 (by decide)
      have k10 : (I8 12 6).toInt ≤ 501 ∧ ((I8 12 7).toInt = 401 ∨ (I8 12 6).toInt ≤ 500) := hI8T
      refine lv_aload_n hx hb dX9_amountOf_16 rfl (lv_at hl 0 rfl) ?_
      refine z_get (T := TX9) (N := 14) (ci := 9) (i := 12) (v := .ref (ad 18)) hx hb hts zj_X9_amountOf_X9 hown hK hW rfl rfl 10 (by decide) (hts (.fieldLink RX9 27 "PetrolBoard$Reader" "head" "[I") (me_s (me_l (List.mem_of_getElem? (i := 0) rfl)))) (fun _ h => h) rfl dX9_amountOf_17 ?_
      refine lv_iload_n hx hb dX9_amountOf_20 rfl (lv_at hl 1 rfl) ?_
      refine z_iald (i := 18) hx hb hK hW rfl (z_ix rfl (by omega) (by omega)) dX9_amountOf_21 ?_
      refine lv_topi (fun x11 ex11 => ?_)
      refine lv_sipush (v := 303) hx hb dX9_amountOf_22 (by decide) ?_
      refine lv_icmp_ne (tgt := 32) hx hb dX9_amountOf_25 (by decide) (fun c12 => ?_) (fun c12 => ?_)
      · have g13 := z_f_ne rfl z_l303 c12
        have b14 := Int32.toInt_lt x11
        refine lv_iconst (v := 0) hx hb dX9_amountOf_32 (by decide) ?_
        refine lv_istore_n (lv' := [(2, .int 0), (0, .ref (ad 12)), (1, .int a1)]) hx hb dX9_amountOf_33 rfl hl (by decide) rfl (fun ls hl => ?_)
        refine lv_aload_n hx hb dX9_amountOf_34 rfl (lv_at hl 1 rfl) ?_
        refine z_get (T := TX9) (N := 14) (ci := 9) (i := 12) (v := .int (I8 12 7)) hx hb hts zj_X9_amountOf_X9 hown hK hW rfl rfl 7 (by decide) (hts (.fieldLink RX9 62 "PetrolBoard$Reader" "token" "I") (me_s (me_l (List.mem_of_getElem? (i := 1) rfl)))) (fun _ h => h) rfl dX9_amountOf_35 ?_
        refine lv_sipush (v := 400) hx hb dX9_amountOf_38 (by decide) ?_
        refine lv_icmp_ne (tgt := 52) hx hb dX9_amountOf_41 (by decide) (fun c15 => ?_) (fun c15 => ?_)
        · have g16 := z_f_ne rfl z_l400 c15
          have b17 := Int32.toInt_lt (I8 12 7)
          refine lv_iconst (v := 0) hx hb dX9_amountOf_52 (by decide) ?_
          exact z_zret hx hb hr (by decide) hK hS (Nat.le_of_ble_eq_true rfl) (Nat.le_of_ble_eq_true rfl) hlocks dX9_amountOf_53 (shC c, ad, I8, JX, PC c ad) hW ⟨I8, rfl, ⟨(by show 0 ≤ (I8 12 1).toInt ∧ (I8 12 1).toInt ≤ 500; exact hI8R.1), (by show 0 ≤ (I8 12 5).toInt ∧ (I8 12 5).toInt ≤ 501; exact hI8R.2.1), (by show (-1) ≤ (I8 12 6).toInt ∧ (I8 12 6).toInt ≤ 1000000; exact hI8R.2.2.1), (by show 0 ≤ (I8 12 9).toInt ∧ (I8 12 9).toInt ≤ 500; exact hI8R.2.2.2.1), (by show 0 ≤ (I8 12 13).toInt ∧ (I8 12 13).toInt ≤ 24; exact hI8R.2.2.2.2)⟩, (by show (I8 12 6).toInt ≤ 501 ∧ ((I8 12 7).toInt = 401 ∨ (I8 12 6).toInt ≤ 500); first | omega | decide), f9, Or.inr rfl⟩
        · have g18 := z_f_eq rfl z_l400 c15
          have b19 := Int32.toInt_lt (I8 12 7)
          refine lv_aload_n hx hb dX9_amountOf_44 rfl (lv_at hl 1 rfl) ?_
          refine z_ci hW hS hA (va_runV (As := []) (rest := []) ⟨hx, hb, hml, hown, hts⟩ (sx_X9_numberHere l G ad c I8 ⟨(by show 0 ≤ (I8 12 1).toInt ∧ (I8 12 1).toInt ≤ 500; exact hI8R.1), (by show 0 ≤ (I8 12 5).toInt ∧ (I8 12 5).toInt ≤ 501; exact hI8R.2.1), (by show (-1) ≤ (I8 12 6).toInt ∧ (I8 12 6).toInt ≤ 1000000; exact hI8R.2.2.1), (by show 0 ≤ (I8 12 9).toInt ∧ (I8 12 9).toInt ≤ 500; exact hI8R.2.2.2.1), (by show 0 ≤ (I8 12 13).toInt ∧ (I8 12 13).toInt ≤ 24; exact hI8R.2.2.2.2)⟩  _) (cwV 0 hts gX9_amountOf_X9_numberHere rfl rfl rfl hy_X9_numberHere ⟨Nat.le_of_ble_eq_true rfl, Nat.le_of_ble_eq_true rfl⟩) (z_preV (i := 12) hK hW rfl rfl) rfl rfl hl.1 rfl (lv_room (Nat.le_of_ble_eq_true rfl)) dX9_amountOf_45 ⟨Nat.le_of_ble_eq_true rfl, Nat.le_of_ble_eq_true rfl⟩) (fun r u1 H locs hp hW hS => ?_)
          rw [hp] at hW
          refine lv_topi (fun x20 ex20 => ?_)
          refine lv_iload_n hx hb dX9_amountOf_48 rfl (lv_at hl 0 rfl) ?_
          refine lv_icmp_ge (tgt := 54) hx hb dX9_amountOf_49 (by decide) (fun c21 => ?_) (fun c21 => ?_)
          · have g22 := z_f_ge rfl z_l0 c21
            have b23 := Int32.toInt_lt x20
            refine lv_aload_n hx hb dX9_amountOf_54 rfl (lv_at hl 1 rfl) ?_
            refine z_get (T := TX9) (N := 14) (ci := 9) (i := 12) (v := .ref (ad 19)) hx hb hts zj_X9_amountOf_X9 hown hK hW rfl rfl 11 (by decide) (hts (.fieldLink RX9 30 "PetrolBoard$Reader" "first" "[I") (me_s (me_l (List.mem_of_getElem? (i := 2) rfl)))) (fun _ h => h) rfl dX9_amountOf_55 ?_
            refine lv_iload_n hx hb dX9_amountOf_58 rfl (lv_at hl 2 rfl) ?_
            refine lv_aload_n hx hb dX9_amountOf_59 rfl (lv_at hl 1 rfl) ?_
            refine z_ci hW hS hA (va_runV (As := []) (rest := [.int a1, .ref (ad 19)]) ⟨hx, hb, hml, hown, hts⟩ (sx_X9_numberHere l G ad c I8 ⟨(by show 0 ≤ (I8 12 1).toInt ∧ (I8 12 1).toInt ≤ 500; exact hI8R.1), (by show 0 ≤ (I8 12 5).toInt ∧ (I8 12 5).toInt ≤ 501; exact hI8R.2.1), (by show (-1) ≤ (I8 12 6).toInt ∧ (I8 12 6).toInt ≤ 1000000; exact hI8R.2.2.1), (by show 0 ≤ (I8 12 9).toInt ∧ (I8 12 9).toInt ≤ 500; exact hI8R.2.2.2.1), (by show 0 ≤ (I8 12 13).toInt ∧ (I8 12 13).toInt ≤ 24; exact hI8R.2.2.2.2)⟩  _) (cwV 0 hts gX9_amountOf_X9_numberHere rfl rfl rfl hy_X9_numberHere ⟨Nat.le_of_ble_eq_true rfl, Nat.le_of_ble_eq_true rfl⟩) (z_preV (i := 12) hK hW rfl rfl) rfl rfl hl.1 rfl (lv_room (Nat.le_of_ble_eq_true rfl)) dX9_amountOf_60 ⟨Nat.le_of_ble_eq_true rfl, Nat.le_of_ble_eq_true rfl⟩) (fun r u1 H locs hp hW hS => ?_)
            rw [hp] at hW
            refine lv_topi (fun x24 ex24 => ?_)
            refine z_iast (i := 19) hx hb hK hW hS rfl (z_ix rfl (by omega) (by omega)) dX9_amountOf_63 (fun H locs hz1 hW hS => ?_)
            obtain ⟨I25, eI25⟩ : ∃ K : z_I, K = z_up I8 19 a1.toNatClampNeg x24 := ⟨_, rfl⟩
            rw [← eI25] at hW
            have f26 := z_fr_a f9 (show z_wa L_X9_amountOf 19 = true by decide) eI25
            refine lv_aload_n hx hb dX9_amountOf_64 rfl (lv_at hl 1 rfl) ?_
            refine z_cv hW hS hA (va_runV (As := []) (rest := []) ⟨hx, hb, hml, hown, hts⟩ (sx_X9_step l G ad c I25 ⟨(by show 0 ≤ (I25 12 1).toInt ∧ (I25 12 1).toInt ≤ 500; rw [eI25, z_up_n (by decide)]; exact hI8R.1), (by show 0 ≤ (I25 12 5).toInt ∧ (I25 12 5).toInt ≤ 501; rw [eI25, z_up_n (by decide)]; exact hI8R.2.1), (by show (-1) ≤ (I25 12 6).toInt ∧ (I25 12 6).toInt ≤ 1000000; rw [eI25, z_up_n (by decide)]; exact hI8R.2.2.1), (by show 0 ≤ (I25 12 9).toInt ∧ (I25 12 9).toInt ≤ 500; rw [eI25, z_up_n (by decide)]; exact hI8R.2.2.2.1), (by show 0 ≤ (I25 12 13).toInt ∧ (I25 12 13).toInt ≤ 24; rw [eI25, z_up_n (by decide)]; exact hI8R.2.2.2.2)⟩   (by show (I25 12 6).toInt ≤ 500; have q : (I25 12 6) = (I8 12 6) := (by rw [eI25, z_up_n (by decide)]); rw [q]; first | omega | decide) _) (cwV 0 hts gX9_amountOf_X9_step rfl rfl rfl hy_X9_step ⟨Nat.le_of_ble_eq_true rfl, Nat.le_of_ble_eq_true rfl⟩) (z_preV (i := 12) hK hW rfl rfl) rfl rfl hl.1 rfl (lv_room (Nat.le_of_ble_eq_true rfl)) dX9_amountOf_65 ⟨Nat.le_of_ble_eq_true rfl, Nat.le_of_ble_eq_true rfl⟩) (fun u1 H locs hp hW hS => ?_)
            obtain ⟨I27, e9, hI27R, hI27T, fI27⟩ := hp
            rw [e9] at hW
            have f28 := z_fr_sub (L := L_X9_amountOf) f26 fI27 (by decide)
            have k29 : (I27 12 6).toInt ≤ 501 ∧ ((I27 12 7).toInt = 401 ∨ (I27 12 6).toInt ≤ 500) := hI27T
            refine lv_iconst (v := 1) hx hb dX9_amountOf_68 (by decide) ?_
            exact z_zret hx hb hr (by decide) hK hS (Nat.le_of_ble_eq_true rfl) (Nat.le_of_ble_eq_true rfl) hlocks dX9_amountOf_69 (shC c, ad, I27, JX, PC c ad) hW ⟨I27, rfl, ⟨(by show 0 ≤ (I27 12 1).toInt ∧ (I27 12 1).toInt ≤ 500; exact hI27R.1), (by show 0 ≤ (I27 12 5).toInt ∧ (I27 12 5).toInt ≤ 501; exact hI27R.2.1), (by show (-1) ≤ (I27 12 6).toInt ∧ (I27 12 6).toInt ≤ 1000000; exact hI27R.2.2.1), (by show 0 ≤ (I27 12 9).toInt ∧ (I27 12 9).toInt ≤ 500; exact hI27R.2.2.2.1), (by show 0 ≤ (I27 12 13).toInt ∧ (I27 12 13).toInt ≤ 24; exact hI27R.2.2.2.2)⟩, (by show (I27 12 6).toInt ≤ 501 ∧ ((I27 12 7).toInt = 401 ∨ (I27 12 6).toInt ≤ 500); first | omega | decide), f28, Or.inl rfl⟩
          · have g30 := z_f_nge rfl z_l0 c21
            have b31 := Int32.toInt_lt x20
            refine lv_iconst (v := 0) hx hb dX9_amountOf_52 (by decide) ?_
            exact z_zret hx hb hr (by decide) hK hS (Nat.le_of_ble_eq_true rfl) (Nat.le_of_ble_eq_true rfl) hlocks dX9_amountOf_53 (shC c, ad, I8, JX, PC c ad) hW ⟨I8, rfl, ⟨(by show 0 ≤ (I8 12 1).toInt ∧ (I8 12 1).toInt ≤ 500; exact hI8R.1), (by show 0 ≤ (I8 12 5).toInt ∧ (I8 12 5).toInt ≤ 501; exact hI8R.2.1), (by show (-1) ≤ (I8 12 6).toInt ∧ (I8 12 6).toInt ≤ 1000000; exact hI8R.2.2.1), (by show 0 ≤ (I8 12 9).toInt ∧ (I8 12 9).toInt ≤ 500; exact hI8R.2.2.2.1), (by show 0 ≤ (I8 12 13).toInt ∧ (I8 12 13).toInt ≤ 24; exact hI8R.2.2.2.2)⟩, (by show (I8 12 6).toInt ≤ 501 ∧ ((I8 12 7).toInt = 401 ∨ (I8 12 6).toInt ≤ 500); first | omega | decide), f9, Or.inr rfl⟩
      · have g32 := z_f_eq rfl z_l303 c12
        have b33 := Int32.toInt_lt x11
        refine lv_iconst (v := 1) hx hb dX9_amountOf_28 (by decide) ?_
        refine lv_goto (tgt := 33) hx hb dX9_amountOf_29 (by decide) ?_
        refine lv_istore_n (lv' := [(2, .int 1), (0, .ref (ad 12)), (1, .int a1)]) hx hb dX9_amountOf_33 rfl hl (by decide) rfl (fun ls hl => ?_)
        refine lv_aload_n hx hb dX9_amountOf_34 rfl (lv_at hl 1 rfl) ?_
        refine z_get (T := TX9) (N := 14) (ci := 9) (i := 12) (v := .int (I8 12 7)) hx hb hts zj_X9_amountOf_X9 hown hK hW rfl rfl 7 (by decide) (hts (.fieldLink RX9 62 "PetrolBoard$Reader" "token" "I") (me_s (me_l (List.mem_of_getElem? (i := 1) rfl)))) (fun _ h => h) rfl dX9_amountOf_35 ?_
        refine lv_sipush (v := 400) hx hb dX9_amountOf_38 (by decide) ?_
        refine lv_icmp_ne (tgt := 52) hx hb dX9_amountOf_41 (by decide) (fun c34 => ?_) (fun c34 => ?_)
        · have g35 := z_f_ne rfl z_l400 c34
          have b36 := Int32.toInt_lt (I8 12 7)
          refine lv_iconst (v := 0) hx hb dX9_amountOf_52 (by decide) ?_
          exact z_zret hx hb hr (by decide) hK hS (Nat.le_of_ble_eq_true rfl) (Nat.le_of_ble_eq_true rfl) hlocks dX9_amountOf_53 (shC c, ad, I8, JX, PC c ad) hW ⟨I8, rfl, ⟨(by show 0 ≤ (I8 12 1).toInt ∧ (I8 12 1).toInt ≤ 500; exact hI8R.1), (by show 0 ≤ (I8 12 5).toInt ∧ (I8 12 5).toInt ≤ 501; exact hI8R.2.1), (by show (-1) ≤ (I8 12 6).toInt ∧ (I8 12 6).toInt ≤ 1000000; exact hI8R.2.2.1), (by show 0 ≤ (I8 12 9).toInt ∧ (I8 12 9).toInt ≤ 500; exact hI8R.2.2.2.1), (by show 0 ≤ (I8 12 13).toInt ∧ (I8 12 13).toInt ≤ 24; exact hI8R.2.2.2.2)⟩, (by show (I8 12 6).toInt ≤ 501 ∧ ((I8 12 7).toInt = 401 ∨ (I8 12 6).toInt ≤ 500); first | omega | decide), f9, Or.inr rfl⟩
        · have g37 := z_f_eq rfl z_l400 c34
          have b38 := Int32.toInt_lt (I8 12 7)
          refine lv_aload_n hx hb dX9_amountOf_44 rfl (lv_at hl 1 rfl) ?_
          refine z_ci hW hS hA (va_runV (As := []) (rest := []) ⟨hx, hb, hml, hown, hts⟩ (sx_X9_numberHere l G ad c I8 ⟨(by show 0 ≤ (I8 12 1).toInt ∧ (I8 12 1).toInt ≤ 500; exact hI8R.1), (by show 0 ≤ (I8 12 5).toInt ∧ (I8 12 5).toInt ≤ 501; exact hI8R.2.1), (by show (-1) ≤ (I8 12 6).toInt ∧ (I8 12 6).toInt ≤ 1000000; exact hI8R.2.2.1), (by show 0 ≤ (I8 12 9).toInt ∧ (I8 12 9).toInt ≤ 500; exact hI8R.2.2.2.1), (by show 0 ≤ (I8 12 13).toInt ∧ (I8 12 13).toInt ≤ 24; exact hI8R.2.2.2.2)⟩  _) (cwV 0 hts gX9_amountOf_X9_numberHere rfl rfl rfl hy_X9_numberHere ⟨Nat.le_of_ble_eq_true rfl, Nat.le_of_ble_eq_true rfl⟩) (z_preV (i := 12) hK hW rfl rfl) rfl rfl hl.1 rfl (lv_room (Nat.le_of_ble_eq_true rfl)) dX9_amountOf_45 ⟨Nat.le_of_ble_eq_true rfl, Nat.le_of_ble_eq_true rfl⟩) (fun r u1 H locs hp hW hS => ?_)
          rw [hp] at hW
          refine lv_topi (fun x39 ex39 => ?_)
          refine lv_iload_n hx hb dX9_amountOf_48 rfl (lv_at hl 0 rfl) ?_
          refine lv_icmp_ge (tgt := 54) hx hb dX9_amountOf_49 (by decide) (fun c40 => ?_) (fun c40 => ?_)
          · have g41 := z_f_ge rfl z_l1 c40
            have b42 := Int32.toInt_lt x39
            refine lv_aload_n hx hb dX9_amountOf_54 rfl (lv_at hl 1 rfl) ?_
            refine z_get (T := TX9) (N := 14) (ci := 9) (i := 12) (v := .ref (ad 19)) hx hb hts zj_X9_amountOf_X9 hown hK hW rfl rfl 11 (by decide) (hts (.fieldLink RX9 30 "PetrolBoard$Reader" "first" "[I") (me_s (me_l (List.mem_of_getElem? (i := 2) rfl)))) (fun _ h => h) rfl dX9_amountOf_55 ?_
            refine lv_iload_n hx hb dX9_amountOf_58 rfl (lv_at hl 2 rfl) ?_
            refine lv_aload_n hx hb dX9_amountOf_59 rfl (lv_at hl 1 rfl) ?_
            refine z_ci hW hS hA (va_runV (As := []) (rest := [.int a1, .ref (ad 19)]) ⟨hx, hb, hml, hown, hts⟩ (sx_X9_numberHere l G ad c I8 ⟨(by show 0 ≤ (I8 12 1).toInt ∧ (I8 12 1).toInt ≤ 500; exact hI8R.1), (by show 0 ≤ (I8 12 5).toInt ∧ (I8 12 5).toInt ≤ 501; exact hI8R.2.1), (by show (-1) ≤ (I8 12 6).toInt ∧ (I8 12 6).toInt ≤ 1000000; exact hI8R.2.2.1), (by show 0 ≤ (I8 12 9).toInt ∧ (I8 12 9).toInt ≤ 500; exact hI8R.2.2.2.1), (by show 0 ≤ (I8 12 13).toInt ∧ (I8 12 13).toInt ≤ 24; exact hI8R.2.2.2.2)⟩  _) (cwV 0 hts gX9_amountOf_X9_numberHere rfl rfl rfl hy_X9_numberHere ⟨Nat.le_of_ble_eq_true rfl, Nat.le_of_ble_eq_true rfl⟩) (z_preV (i := 12) hK hW rfl rfl) rfl rfl hl.1 rfl (lv_room (Nat.le_of_ble_eq_true rfl)) dX9_amountOf_60 ⟨Nat.le_of_ble_eq_true rfl, Nat.le_of_ble_eq_true rfl⟩) (fun r u1 H locs hp hW hS => ?_)
            rw [hp] at hW
            refine lv_topi (fun x43 ex43 => ?_)
            refine z_iast (i := 19) hx hb hK hW hS rfl (z_ix rfl (by omega) (by omega)) dX9_amountOf_63 (fun H locs hz1 hW hS => ?_)
            obtain ⟨I44, eI44⟩ : ∃ K : z_I, K = z_up I8 19 a1.toNatClampNeg x43 := ⟨_, rfl⟩
            rw [← eI44] at hW
            have f45 := z_fr_a f9 (show z_wa L_X9_amountOf 19 = true by decide) eI44
            refine lv_aload_n hx hb dX9_amountOf_64 rfl (lv_at hl 1 rfl) ?_
            refine z_cv hW hS hA (va_runV (As := []) (rest := []) ⟨hx, hb, hml, hown, hts⟩ (sx_X9_step l G ad c I44 ⟨(by show 0 ≤ (I44 12 1).toInt ∧ (I44 12 1).toInt ≤ 500; rw [eI44, z_up_n (by decide)]; exact hI8R.1), (by show 0 ≤ (I44 12 5).toInt ∧ (I44 12 5).toInt ≤ 501; rw [eI44, z_up_n (by decide)]; exact hI8R.2.1), (by show (-1) ≤ (I44 12 6).toInt ∧ (I44 12 6).toInt ≤ 1000000; rw [eI44, z_up_n (by decide)]; exact hI8R.2.2.1), (by show 0 ≤ (I44 12 9).toInt ∧ (I44 12 9).toInt ≤ 500; rw [eI44, z_up_n (by decide)]; exact hI8R.2.2.2.1), (by show 0 ≤ (I44 12 13).toInt ∧ (I44 12 13).toInt ≤ 24; rw [eI44, z_up_n (by decide)]; exact hI8R.2.2.2.2)⟩   (by show (I44 12 6).toInt ≤ 500; have q : (I44 12 6) = (I8 12 6) := (by rw [eI44, z_up_n (by decide)]); rw [q]; first | omega | decide) _) (cwV 0 hts gX9_amountOf_X9_step rfl rfl rfl hy_X9_step ⟨Nat.le_of_ble_eq_true rfl, Nat.le_of_ble_eq_true rfl⟩) (z_preV (i := 12) hK hW rfl rfl) rfl rfl hl.1 rfl (lv_room (Nat.le_of_ble_eq_true rfl)) dX9_amountOf_65 ⟨Nat.le_of_ble_eq_true rfl, Nat.le_of_ble_eq_true rfl⟩) (fun u1 H locs hp hW hS => ?_)
            obtain ⟨I46, e9, hI46R, hI46T, fI46⟩ := hp
            rw [e9] at hW
            have f47 := z_fr_sub (L := L_X9_amountOf) f45 fI46 (by decide)
            have k48 : (I46 12 6).toInt ≤ 501 ∧ ((I46 12 7).toInt = 401 ∨ (I46 12 6).toInt ≤ 500) := hI46T
            refine lv_iconst (v := 1) hx hb dX9_amountOf_68 (by decide) ?_
            exact z_zret hx hb hr (by decide) hK hS (Nat.le_of_ble_eq_true rfl) (Nat.le_of_ble_eq_true rfl) hlocks dX9_amountOf_69 (shC c, ad, I46, JX, PC c ad) hW ⟨I46, rfl, ⟨(by show 0 ≤ (I46 12 1).toInt ∧ (I46 12 1).toInt ≤ 500; exact hI46R.1), (by show 0 ≤ (I46 12 5).toInt ∧ (I46 12 5).toInt ≤ 501; exact hI46R.2.1), (by show (-1) ≤ (I46 12 6).toInt ∧ (I46 12 6).toInt ≤ 1000000; exact hI46R.2.2.1), (by show 0 ≤ (I46 12 9).toInt ∧ (I46 12 9).toInt ≤ 500; exact hI46R.2.2.2.1), (by show 0 ≤ (I46 12 13).toInt ∧ (I46 12 13).toInt ≤ 24; exact hI46R.2.2.2.2)⟩, (by show (I46 12 6).toInt ≤ 501 ∧ ((I46 12 7).toInt = 401 ∨ (I46 12 6).toInt ≤ 500); first | omega | decide), f47, Or.inl rfl⟩
          · have g49 := z_f_nge rfl z_l1 c40
            have b50 := Int32.toInt_lt x39
            refine lv_iconst (v := 0) hx hb dX9_amountOf_52 (by decide) ?_
            exact z_zret hx hb hr (by decide) hK hS (Nat.le_of_ble_eq_true rfl) (Nat.le_of_ble_eq_true rfl) hlocks dX9_amountOf_53 (shC c, ad, I8, JX, PC c ad) hW ⟨I8, rfl, ⟨(by show 0 ≤ (I8 12 1).toInt ∧ (I8 12 1).toInt ≤ 500; exact hI8R.1), (by show 0 ≤ (I8 12 5).toInt ∧ (I8 12 5).toInt ≤ 501; exact hI8R.2.1), (by show (-1) ≤ (I8 12 6).toInt ∧ (I8 12 6).toInt ≤ 1000000; exact hI8R.2.2.1), (by show 0 ≤ (I8 12 9).toInt ∧ (I8 12 9).toInt ≤ 500; exact hI8R.2.2.2.1), (by show 0 ≤ (I8 12 13).toInt ∧ (I8 12 13).toInt ≤ 24; exact hI8R.2.2.2.2)⟩, (by show (I8 12 6).toInt ≤ 501 ∧ ((I8 12 7).toInt = 401 ∨ (I8 12 6).toInt ≤ 500); first | omega | decide), f9, Or.inr rfl⟩
    · have g51 := z_f_nlt rfl z_l24 c6
      refine lv_iconst (v := 0) hx hb dX9_amountOf_10 (by decide) ?_
      exact z_zret hx hb hr (by decide) hK hS (Nat.le_of_ble_eq_true rfl) (Nat.le_of_ble_eq_true rfl) hlocks dX9_amountOf_11 (shC c, ad, I, JX, PC c ad) hW ⟨I, rfl, ⟨(by show 0 ≤ (I 12 1).toInt ∧ (I 12 1).toInt ≤ 500; exact hR.1), (by show 0 ≤ (I 12 5).toInt ∧ (I 12 5).toInt ≤ 501; exact hR.2.1), (by show (-1) ≤ (I 12 6).toInt ∧ (I 12 6).toInt ≤ 1000000; exact hR.2.2.1), (by show 0 ≤ (I 12 9).toInt ∧ (I 12 9).toInt ≤ 500; exact hR.2.2.2.1), (by show 0 ≤ (I 12 13).toInt ∧ (I 12 13).toInt ≤ 24; exact hR.2.2.2.2)⟩, (by show (I 12 6).toInt ≤ 501 ∧ ((I 12 7).toInt = 401 ∨ (I 12 6).toInt ≤ 500); first | omega | decide), z_fr_0, Or.inr rfl⟩
noncomputable def L_X9_statement : z_L := [(12, 6), (12, 7), (17, 999), (12, 9), (20, 999), (19, 999), (18, 999)]
theorem zj_X9_statement_X9 : ∀ w ∈ wsX90, w ∈ wsX9_statement := fun w h => (List.mem_cons_of_mem _ (List.mem_append_right _ h))
set_option maxHeartbeats 8000000 in
set_option maxRecDepth 100000 in
theorem sx_X9_statement (l : Launch) (G : z_G) (ad : Nat → Nat) (c : z_C) (I : z_I) (hR : z_iR I) (hT : z_iT I) (a1 : Int32) : z_M l yX9_statement wsX9_statement { frames := 46, cells := 0, slots := 0, locals := 1000 } [.ref (ad 12), .int a1] G (shC c, ad, I, JX, PC c ad) (fun r u1 => ∃ I1 : z_I, u1 = (shC c, ad, I1, JX, PC c ad) ∧ z_iR I1 ∧ z_iT I1 ∧ z_fr L_X9_statement I1 I ∧ (r = 1 ∨ r = 0)) 0 0 := by
  intro sz
  refine z_headQ (cc := cX9_statement) (maxL := 2) (ret := (some .boolean)) (by decide) rfl (Nat.le_of_ble_eq_true rfl) ?_
  intro p e s m below meth c0 ls hIn hK hsz hW hl
  obtain ⟨hx, hb, hr, hml, hown, hts, hlocks, hname⟩ := hIn
  subst hsz
  have hown : s.vm.findClass RX9 = some m.cls := hown
  have hA : ∀ q : Nat, s.heap.size ≤ q → z_A (shC c, ad, I, JX, PC c ad) s.heap.size q := fun q h => Or.inr h
  generalize hAe : z_A (shC c, ad, I, JX, PC c ad) s.heap.size = A at *
  have hS : va_S A s.heap s.heap [] := va_S.rf
  have hl : lv_has ls 2 [(0, .ref (ad 12)), (1, .int a1)] := hl
  have kT : (I 12 6).toInt ≤ 501 ∧ ((I 12 7).toInt = 401 ∨ (I 12 6).toInt ≤ 500) := hT
  refine lv_iload_n hx hb dX9_statement_0 rfl (lv_at hl 1 rfl) ?_
  refine lv_if_lt (tgt := 10) hx hb dX9_statement_1 (by decide) (fun c1 => ?_) (fun c1 => ?_)
  · have g2 := z_f_lt rfl z_l0 c1
    have b3 := Int32.toInt_lt a1
    refine lv_iconst (v := 0) hx hb dX9_statement_10 (by decide) ?_
    exact z_zret hx hb hr (by decide) hK hS (Nat.le_of_ble_eq_true rfl) (Nat.le_of_ble_eq_true rfl) hlocks dX9_statement_11 (shC c, ad, I, JX, PC c ad) hW ⟨I, rfl, ⟨(by show 0 ≤ (I 12 1).toInt ∧ (I 12 1).toInt ≤ 500; exact hR.1), (by show 0 ≤ (I 12 5).toInt ∧ (I 12 5).toInt ≤ 501; exact hR.2.1), (by show (-1) ≤ (I 12 6).toInt ∧ (I 12 6).toInt ≤ 1000000; exact hR.2.2.1), (by show 0 ≤ (I 12 9).toInt ∧ (I 12 9).toInt ≤ 500; exact hR.2.2.2.1), (by show 0 ≤ (I 12 13).toInt ∧ (I 12 13).toInt ≤ 24; exact hR.2.2.2.2)⟩, (by show (I 12 6).toInt ≤ 501 ∧ ((I 12 7).toInt = 401 ∨ (I 12 6).toInt ≤ 500); first | omega | decide), z_fr_0, Or.inr rfl⟩
  · have g4 := z_f_nlt rfl z_l0 c1
    have b5 := Int32.toInt_lt a1
    refine lv_iload_n hx hb dX9_statement_4 rfl (lv_at hl 1 rfl) ?_
    refine lv_bipush (v := 24) hx hb dX9_statement_5 (by decide) ?_
    refine lv_icmp_lt (tgt := 12) hx hb dX9_statement_7 (by decide) (fun c6 => ?_) (fun c6 => ?_)
    · have g7 := z_f_lt rfl z_l24 c6
      refine lv_aload_n hx hb dX9_statement_12 rfl (lv_at hl 0 rfl) ?_
      refine z_get (T := TX9) (N := 14) (ci := 9) (i := 12) (v := .ref (ad 18)) hx hb hts zj_X9_statement_X9 hown hK hW rfl rfl 10 (by decide) (hts (.fieldLink RX9 27 "PetrolBoard$Reader" "head" "[I") (me_s (me_l (me_l (List.mem_of_getElem? (i := 0) rfl))))) (fun _ h => h) rfl dX9_statement_13 ?_
      refine lv_iload_n hx hb dX9_statement_16 rfl (lv_at hl 1 rfl) ?_
      refine lv_aload_n hx hb dX9_statement_17 rfl (lv_at hl 0 rfl) ?_
      refine z_get (T := TX9) (N := 14) (ci := 9) (i := 12) (v := .int (I 12 7)) hx hb hts zj_X9_statement_X9 hown hK hW rfl rfl 7 (by decide) (hts (.fieldLink RX9 62 "PetrolBoard$Reader" "token" "I") (me_s (me_l (me_l (List.mem_of_getElem? (i := 1) rfl))))) (fun _ h => h) rfl dX9_statement_18 ?_
      refine z_iast (i := 18) hx hb hK hW hS rfl (z_ix rfl (by omega) (by omega)) dX9_statement_21 (fun H locs hz1 hW hS => ?_)
      obtain ⟨I8, eI8⟩ : ∃ K : z_I, K = z_up I 18 a1.toNatClampNeg (I 12 7) := ⟨_, rfl⟩
      rw [← eI8] at hW
      have f9 := z_fr_a z_fr_0 (show z_wa L_X9_statement 18 = true by decide) eI8
      refine lv_aload_n hx hb dX9_statement_22 rfl (lv_at hl 0 rfl) ?_
      refine z_get (T := TX9) (N := 14) (ci := 9) (i := 12) (v := .ref (ad 19)) hx hb hts zj_X9_statement_X9 hown hK hW rfl rfl 11 (by decide) (hts (.fieldLink RX9 30 "PetrolBoard$Reader" "first" "[I") (me_s (me_l (me_l (List.mem_of_getElem? (i := 2) rfl))))) (fun _ h => h) rfl dX9_statement_23 ?_
      refine lv_iload_n hx hb dX9_statement_26 rfl (lv_at hl 1 rfl) ?_
      refine lv_aload_n hx hb dX9_statement_27 rfl (lv_at hl 0 rfl) ?_
      have r10 : 0 ≤ (I 12 9).toInt ∧ (I 12 9).toInt ≤ 500 := hR.2.2.2.1
      refine z_get (T := TX9) (N := 14) (ci := 9) (i := 12) (v := .int (I 12 9)) hx hb hts zj_X9_statement_X9 hown hK hW rfl rfl 9 (by decide) (hts (.fieldLink RX9 50 "PetrolBoard$Reader" "used" "I") (me_s (me_l (me_l (List.mem_of_getElem? (i := 3) rfl))))) (fun _ h => h) (congrArg Value.int (by rw [eI8, z_up_n (by decide)])) dX9_statement_28 ?_
      refine z_iast (i := 19) hx hb hK hW hS rfl (z_ix rfl (by omega) (by omega)) dX9_statement_31 (fun H locs hz1 hW hS => ?_)
      obtain ⟨I11, eI11⟩ : ∃ K : z_I, K = z_up I8 19 a1.toNatClampNeg (I 12 9) := ⟨_, rfl⟩
      rw [← eI11] at hW
      have f12 := z_fr_a f9 (show z_wa L_X9_statement 19 = true by decide) eI11
      refine lv_aload_n hx hb dX9_statement_32 rfl (lv_at hl 0 rfl) ?_
      refine z_get (T := TX9) (N := 14) (ci := 9) (i := 12) (v := .ref (ad 20)) hx hb hts zj_X9_statement_X9 hown hK hW rfl rfl 12 (by decide) (hts (.fieldLink RX9 33 "PetrolBoard$Reader" "second" "[I") (me_s (me_l (me_l (List.mem_of_getElem? (i := 4) rfl))))) (fun _ h => h) rfl dX9_statement_33 ?_
      refine lv_iload_n hx hb dX9_statement_36 rfl (lv_at hl 1 rfl) ?_
      refine lv_iconst (v := (-1)) hx hb dX9_statement_37 (by decide) ?_
      refine z_iast (i := 20) hx hb hK hW hS rfl (z_ix rfl (by omega) (by omega)) dX9_statement_38 (fun H locs hz1 hW hS => ?_)
      obtain ⟨I13, eI13⟩ : ∃ K : z_I, K = z_up I11 20 a1.toNatClampNeg (-1) := ⟨_, rfl⟩
      rw [← eI13] at hW
      have f14 := z_fr_a f12 (show z_wa L_X9_statement 20 = true by decide) eI13
      refine lv_aload_n hx hb dX9_statement_39 rfl (lv_at hl 0 rfl) ?_
      refine z_get (T := TX9) (N := 14) (ci := 9) (i := 12) (v := .int (I 12 7)) hx hb hts zj_X9_statement_X9 hown hK hW rfl rfl 7 (by decide) (hts (.fieldLink RX9 62 "PetrolBoard$Reader" "token" "I") (me_s (me_l (me_l (List.mem_of_getElem? (i := 1) rfl))))) (fun _ h => h) (congrArg Value.int (by rw [eI13, z_up_n (by decide), eI11, z_up_n (by decide), eI8, z_up_n (by decide)])) dX9_statement_40 ?_
      refine lv_sipush (v := 300) hx hb dX9_statement_43 (by decide) ?_
      refine lv_icmp_eq (tgt := 59) hx hb dX9_statement_46 (by decide) (fun c15 => ?_) (fun c15 => ?_)
      · have g16 := z_f_eq rfl z_l300 c15
        have b17 := Int32.toInt_lt (I 12 7)
        refine lv_aload_n hx hb dX9_statement_59 rfl (lv_at hl 0 rfl) ?_
        refine z_cv hW hS hA (va_runV (As := []) (rest := []) ⟨hx, hb, hml, hown, hts⟩ (sx_X9_step l G ad c I13 ⟨(by show 0 ≤ (I13 12 1).toInt ∧ (I13 12 1).toInt ≤ 500; rw [eI13, z_up_n (by decide), eI11, z_up_n (by decide), eI8, z_up_n (by decide)]; exact hR.1), (by show 0 ≤ (I13 12 5).toInt ∧ (I13 12 5).toInt ≤ 501; rw [eI13, z_up_n (by decide), eI11, z_up_n (by decide), eI8, z_up_n (by decide)]; exact hR.2.1), (by show (-1) ≤ (I13 12 6).toInt ∧ (I13 12 6).toInt ≤ 1000000; rw [eI13, z_up_n (by decide), eI11, z_up_n (by decide), eI8, z_up_n (by decide)]; exact hR.2.2.1), (by show 0 ≤ (I13 12 9).toInt ∧ (I13 12 9).toInt ≤ 500; rw [eI13, z_up_n (by decide), eI11, z_up_n (by decide), eI8, z_up_n (by decide)]; exact hR.2.2.2.1), (by show 0 ≤ (I13 12 13).toInt ∧ (I13 12 13).toInt ≤ 24; rw [eI13, z_up_n (by decide), eI11, z_up_n (by decide), eI8, z_up_n (by decide)]; exact hR.2.2.2.2)⟩   (by show (I13 12 6).toInt ≤ 500; have q : (I13 12 6) = (I 12 6) := (by rw [eI13, z_up_n (by decide), eI11, z_up_n (by decide), eI8, z_up_n (by decide)]); rw [q]; first | omega | decide) _) (cwV 0 hts gX9_statement_X9_step rfl rfl rfl hy_X9_step ⟨Nat.le_of_ble_eq_true rfl, Nat.le_of_ble_eq_true rfl⟩) (z_preV (i := 12) hK hW rfl rfl) rfl rfl hl.1 rfl (lv_room (Nat.le_of_ble_eq_true rfl)) dX9_statement_60 ⟨Nat.le_of_ble_eq_true rfl, Nat.le_of_ble_eq_true rfl⟩) (fun u1 H locs hp hW hS => ?_)
        obtain ⟨I18, e9, hI18R, hI18T, fI18⟩ := hp
        rw [e9] at hW
        have f19 := z_fr_sub (L := L_X9_statement) f14 fI18 (by decide)
        have k20 : (I18 12 6).toInt ≤ 501 ∧ ((I18 12 7).toInt = 401 ∨ (I18 12 6).toInt ≤ 500) := hI18T
        refine lv_aload_n hx hb dX9_statement_63 rfl (lv_at hl 0 rfl) ?_
        refine lv_iconst (v := 0) hx hb dX9_statement_64 (by decide) ?_
        refine z_ci hW hS hA (va_runV (As := [.int 0]) (rest := []) ⟨hx, hb, hml, hown, hts⟩ (sx_X9_sum_0 l G ad c I18 ⟨(by show 0 ≤ (I18 12 1).toInt ∧ (I18 12 1).toInt ≤ 500; exact hI18R.1), (by show 0 ≤ (I18 12 5).toInt ∧ (I18 12 5).toInt ≤ 501; exact hI18R.2.1), (by show (-1) ≤ (I18 12 6).toInt ∧ (I18 12 6).toInt ≤ 1000000; exact hI18R.2.2.1), (by show 0 ≤ (I18 12 9).toInt ∧ (I18 12 9).toInt ≤ 500; exact hI18R.2.2.2.1), (by show 0 ≤ (I18 12 13).toInt ∧ (I18 12 13).toInt ≤ 24; exact hI18R.2.2.2.2)⟩ (by show (I18 12 6).toInt ≤ 501 ∧ ((I18 12 7).toInt = 401 ∨ (I18 12 6).toInt ≤ 500); first | omega | decide) _) (cwV 1 hts gX9_statement_X9_sum rfl rfl rfl hy_X9_sum ⟨Nat.le_of_ble_eq_true rfl, Nat.le_of_ble_eq_true rfl⟩) (z_preV (i := 12) hK hW rfl rfl) rfl rfl hl.1 rfl (lv_room (Nat.le_of_ble_eq_true rfl)) dX9_statement_65 ⟨Nat.le_of_ble_eq_true rfl, Nat.le_of_ble_eq_true rfl⟩) (fun r u1 H locs hp hW hS => ?_)
        obtain ⟨I21, e9, hI21R, hI21T, fI21, hp⟩ := hp
        rw [e9] at hW
        have f22 := z_fr_sub (L := L_X9_statement) f19 fI21 (by decide)
        have k23 : (I21 12 6).toInt ≤ 501 ∧ ((I21 12 7).toInt = 401 ∨ (I21 12 6).toInt ≤ 500) := hI21T
        rcases hp with rfl | rfl
        · refine lv_if_ne (tgt := 73) hx hb dX9_statement_68 (by decide) (fun c24 => ?_) (fun c24 => absurd c24 (by decide))
          refine lv_aload_n hx hb dX9_statement_73 rfl (lv_at hl 0 rfl) ?_
          refine lv_bipush (v := (-13)) hx hb dX9_statement_74 (by decide) ?_
          refine z_cv hW hS hA (va_runV (As := [.int (-13)]) (rest := []) ⟨hx, hb, hml, hown, hts⟩ (sx_X9_emit l G ad c I21 ⟨(by show 0 ≤ (I21 12 1).toInt ∧ (I21 12 1).toInt ≤ 500; exact hI21R.1), (by show 0 ≤ (I21 12 5).toInt ∧ (I21 12 5).toInt ≤ 501; exact hI21R.2.1), (by show (-1) ≤ (I21 12 6).toInt ∧ (I21 12 6).toInt ≤ 1000000; exact hI21R.2.2.1), (by show 0 ≤ (I21 12 9).toInt ∧ (I21 12 9).toInt ≤ 500; exact hI21R.2.2.2.1), (by show 0 ≤ (I21 12 13).toInt ∧ (I21 12 13).toInt ≤ 24; exact hI21R.2.2.2.2)⟩ (-13) _) (cwV 1 hts gX9_statement_X9_emit rfl rfl rfl hy_X9_emit ⟨Nat.le_of_ble_eq_true rfl, Nat.le_of_ble_eq_true rfl⟩) (z_preV (i := 12) hK hW rfl rfl) rfl rfl hl.1 rfl (lv_room (Nat.le_of_ble_eq_true rfl)) dX9_statement_76 ⟨Nat.le_of_ble_eq_true rfl, Nat.le_of_ble_eq_true rfl⟩) (fun u1 H locs hp hW hS => ?_)
          obtain ⟨I25, e9, hI25R, fI25⟩ := hp
          rw [e9] at hW
          have f26 := z_fr_sub (L := L_X9_statement) f22 fI25 (by decide)
          have k27 : (I25 12 6).toInt ≤ 501 ∧ ((I25 12 7).toInt = 401 ∨ (I25 12 6).toInt ≤ 500) := (by have q0 : (I25 12 6) = (I21 12 6) := (by rw [fI25 12 6 (by decide)]); have q1 : (I25 12 7) = (I21 12 7) := (by rw [fI25 12 7 (by decide)]); show (I25 12 6).toInt ≤ 501 ∧ ((I25 12 7).toInt = 401 ∨ (I25 12 6).toInt ≤ 500); rw [q0, q1]; first | omega | decide)
          have k28 : (I25 12 6).toInt = (I21 12 6).toInt := by rw [fI25 12 6 (by decide)]
          have k29 : (I25 12 7).toInt = (I21 12 7).toInt := by rw [fI25 12 7 (by decide)]
          refine lv_aload_n hx hb dX9_statement_79 rfl (lv_at hl 0 rfl) ?_
          refine z_get (T := TX9) (N := 14) (ci := 9) (i := 12) (v := .int (I25 12 7)) hx hb hts zj_X9_statement_X9 hown hK hW rfl rfl 7 (by decide) (hts (.fieldLink RX9 62 "PetrolBoard$Reader" "token" "I") (me_s (me_l (me_l (List.mem_of_getElem? (i := 1) rfl))))) (fun _ h => h) rfl dX9_statement_80 ?_
          refine lv_sipush (v := 308) hx hb dX9_statement_83 (by decide) ?_
          refine lv_icmp_ne (tgt := 97) hx hb dX9_statement_86 (by decide) (fun c30 => ?_) (fun c30 => ?_)
          · have g31 := z_f_ne rfl z_l308 c30
            have b32 := Int32.toInt_lt (I25 12 7)
            refine lv_iconst (v := 1) hx hb dX9_statement_97 (by decide) ?_
            refine lv_goto (tgt := 102) hx hb dX9_statement_98 (by decide) ?_
            exact z_zret hx hb hr (by decide) hK hS (Nat.le_of_ble_eq_true rfl) (Nat.le_of_ble_eq_true rfl) hlocks dX9_statement_102 (shC c, ad, I25, JX, PC c ad) hW ⟨I25, rfl, ⟨(by show 0 ≤ (I25 12 1).toInt ∧ (I25 12 1).toInt ≤ 500; exact hI25R.1), (by show 0 ≤ (I25 12 5).toInt ∧ (I25 12 5).toInt ≤ 501; exact hI25R.2.1), (by show (-1) ≤ (I25 12 6).toInt ∧ (I25 12 6).toInt ≤ 1000000; exact hI25R.2.2.1), (by show 0 ≤ (I25 12 9).toInt ∧ (I25 12 9).toInt ≤ 500; exact hI25R.2.2.2.1), (by show 0 ≤ (I25 12 13).toInt ∧ (I25 12 13).toInt ≤ 24; exact hI25R.2.2.2.2)⟩, (by show (I25 12 6).toInt ≤ 501 ∧ ((I25 12 7).toInt = 401 ∨ (I25 12 6).toInt ≤ 500); first | omega | decide), f26, Or.inl rfl⟩
          · have g33 := z_f_eq rfl z_l308 c30
            have b34 := Int32.toInt_lt (I25 12 7)
            refine lv_aload_n hx hb dX9_statement_89 rfl (lv_at hl 0 rfl) ?_
            refine lv_iload_n hx hb dX9_statement_90 rfl (lv_at hl 1 rfl) ?_
            refine z_ci hW hS hA (va_runV (As := [.int a1]) (rest := []) ⟨hx, hb, hml, hown, hts⟩ (sx_X9_condition l G ad c I25 ⟨(by show 0 ≤ (I25 12 1).toInt ∧ (I25 12 1).toInt ≤ 500; exact hI25R.1), (by show 0 ≤ (I25 12 5).toInt ∧ (I25 12 5).toInt ≤ 501; exact hI25R.2.1), (by show (-1) ≤ (I25 12 6).toInt ∧ (I25 12 6).toInt ≤ 1000000; exact hI25R.2.2.1), (by show 0 ≤ (I25 12 9).toInt ∧ (I25 12 9).toInt ≤ 500; exact hI25R.2.2.2.1), (by show 0 ≤ (I25 12 13).toInt ∧ (I25 12 13).toInt ≤ 24; exact hI25R.2.2.2.2)⟩ (by show (I25 12 6).toInt ≤ 501 ∧ ((I25 12 7).toInt = 401 ∨ (I25 12 6).toInt ≤ 500); first | omega | decide) a1  (by show (I25 12 6).toInt ≤ 500; first | omega | decide) _) (cwV 1 hts gX9_statement_X9_condition rfl rfl rfl hy_X9_condition ⟨Nat.le_of_ble_eq_true rfl, Nat.le_of_ble_eq_true rfl⟩) (z_preV (i := 12) hK hW rfl rfl) rfl rfl hl.1 rfl (lv_room (Nat.le_of_ble_eq_true rfl)) dX9_statement_91 ⟨Nat.le_of_ble_eq_true rfl, Nat.le_of_ble_eq_true rfl⟩) (fun r u1 H locs hp hW hS => ?_)
            obtain ⟨I35, e9, hI35R, hI35T, fI35, hp⟩ := hp
            rw [e9] at hW
            have f36 := z_fr_sub (L := L_X9_statement) f26 fI35 (by decide)
            have k37 : (I35 12 6).toInt ≤ 501 ∧ ((I35 12 7).toInt = 401 ∨ (I35 12 6).toInt ≤ 500) := hI35T
            rcases hp with rfl | rfl
            · refine lv_if_eq (tgt := 101) hx hb dX9_statement_94 (by decide) (fun c38 => absurd c38 (by decide)) (fun c38 => ?_)
              refine lv_iconst (v := 1) hx hb dX9_statement_97 (by decide) ?_
              refine lv_goto (tgt := 102) hx hb dX9_statement_98 (by decide) ?_
              exact z_zret hx hb hr (by decide) hK hS (Nat.le_of_ble_eq_true rfl) (Nat.le_of_ble_eq_true rfl) hlocks dX9_statement_102 (shC c, ad, I35, JX, PC c ad) hW ⟨I35, rfl, ⟨(by show 0 ≤ (I35 12 1).toInt ∧ (I35 12 1).toInt ≤ 500; exact hI35R.1), (by show 0 ≤ (I35 12 5).toInt ∧ (I35 12 5).toInt ≤ 501; exact hI35R.2.1), (by show (-1) ≤ (I35 12 6).toInt ∧ (I35 12 6).toInt ≤ 1000000; exact hI35R.2.2.1), (by show 0 ≤ (I35 12 9).toInt ∧ (I35 12 9).toInt ≤ 500; exact hI35R.2.2.2.1), (by show 0 ≤ (I35 12 13).toInt ∧ (I35 12 13).toInt ≤ 24; exact hI35R.2.2.2.2)⟩, (by show (I35 12 6).toInt ≤ 501 ∧ ((I35 12 7).toInt = 401 ∨ (I35 12 6).toInt ≤ 500); first | omega | decide), f36, Or.inl rfl⟩
            · refine lv_if_eq (tgt := 101) hx hb dX9_statement_94 (by decide) (fun c39 => ?_) (fun c39 => absurd (by decide) c39)
              refine lv_iconst (v := 0) hx hb dX9_statement_101 (by decide) ?_
              exact z_zret hx hb hr (by decide) hK hS (Nat.le_of_ble_eq_true rfl) (Nat.le_of_ble_eq_true rfl) hlocks dX9_statement_102 (shC c, ad, I35, JX, PC c ad) hW ⟨I35, rfl, ⟨(by show 0 ≤ (I35 12 1).toInt ∧ (I35 12 1).toInt ≤ 500; exact hI35R.1), (by show 0 ≤ (I35 12 5).toInt ∧ (I35 12 5).toInt ≤ 501; exact hI35R.2.1), (by show (-1) ≤ (I35 12 6).toInt ∧ (I35 12 6).toInt ≤ 1000000; exact hI35R.2.2.1), (by show 0 ≤ (I35 12 9).toInt ∧ (I35 12 9).toInt ≤ 500; exact hI35R.2.2.2.1), (by show 0 ≤ (I35 12 13).toInt ∧ (I35 12 13).toInt ≤ 24; exact hI35R.2.2.2.2)⟩, (by show (I35 12 6).toInt ≤ 501 ∧ ((I35 12 7).toInt = 401 ∨ (I35 12 6).toInt ≤ 500); first | omega | decide), f36, Or.inr rfl⟩
        · refine lv_if_ne (tgt := 73) hx hb dX9_statement_68 (by decide) (fun c40 => absurd (by decide) c40) (fun c40 => ?_)
          refine lv_iconst (v := 0) hx hb dX9_statement_71 (by decide) ?_
          exact z_zret hx hb hr (by decide) hK hS (Nat.le_of_ble_eq_true rfl) (Nat.le_of_ble_eq_true rfl) hlocks dX9_statement_72 (shC c, ad, I21, JX, PC c ad) hW ⟨I21, rfl, ⟨(by show 0 ≤ (I21 12 1).toInt ∧ (I21 12 1).toInt ≤ 500; exact hI21R.1), (by show 0 ≤ (I21 12 5).toInt ∧ (I21 12 5).toInt ≤ 501; exact hI21R.2.1), (by show (-1) ≤ (I21 12 6).toInt ∧ (I21 12 6).toInt ≤ 1000000; exact hI21R.2.2.1), (by show 0 ≤ (I21 12 9).toInt ∧ (I21 12 9).toInt ≤ 500; exact hI21R.2.2.2.1), (by show 0 ≤ (I21 12 13).toInt ∧ (I21 12 13).toInt ≤ 24; exact hI21R.2.2.2.2)⟩, (by show (I21 12 6).toInt ≤ 501 ∧ ((I21 12 7).toInt = 401 ∨ (I21 12 6).toInt ≤ 500); first | omega | decide), f22, Or.inr rfl⟩
      · have g41 := z_f_ne rfl z_l300 c15
        have b42 := Int32.toInt_lt (I 12 7)
        refine lv_aload_n hx hb dX9_statement_49 rfl (lv_at hl 0 rfl) ?_
        refine z_get (T := TX9) (N := 14) (ci := 9) (i := 12) (v := .int (I 12 7)) hx hb hts zj_X9_statement_X9 hown hK hW rfl rfl 7 (by decide) (hts (.fieldLink RX9 62 "PetrolBoard$Reader" "token" "I") (me_s (me_l (me_l (List.mem_of_getElem? (i := 1) rfl))))) (fun _ h => h) (congrArg Value.int (by rw [eI13, z_up_n (by decide), eI11, z_up_n (by decide), eI8, z_up_n (by decide)])) dX9_statement_50 ?_
        refine lv_sipush (v := 301) hx hb dX9_statement_53 (by decide) ?_
        refine lv_icmp_ne (tgt := 103) hx hb dX9_statement_56 (by decide) (fun c43 => ?_) (fun c43 => ?_)
        · have g44 := z_f_ne rfl z_l301 c43
          refine lv_aload_n hx hb dX9_statement_103 rfl (lv_at hl 0 rfl) ?_
          refine z_get (T := TX9) (N := 14) (ci := 9) (i := 12) (v := .int (I 12 7)) hx hb hts zj_X9_statement_X9 hown hK hW rfl rfl 7 (by decide) (hts (.fieldLink RX9 62 "PetrolBoard$Reader" "token" "I") (me_s (me_l (me_l (List.mem_of_getElem? (i := 1) rfl))))) (fun _ h => h) (congrArg Value.int (by rw [eI13, z_up_n (by decide), eI11, z_up_n (by decide), eI8, z_up_n (by decide)])) dX9_statement_104 ?_
          refine lv_sipush (v := 302) hx hb dX9_statement_107 (by decide) ?_
          refine lv_icmp_ne (tgt := 119) hx hb dX9_statement_110 (by decide) (fun c45 => ?_) (fun c45 => ?_)
          · have g46 := z_f_ne rfl z_l302 c45
            refine lv_aload_n hx hb dX9_statement_119 rfl (lv_at hl 0 rfl) ?_
            refine z_get (T := TX9) (N := 14) (ci := 9) (i := 12) (v := .int (I 12 7)) hx hb hts zj_X9_statement_X9 hown hK hW rfl rfl 7 (by decide) (hts (.fieldLink RX9 62 "PetrolBoard$Reader" "token" "I") (me_s (me_l (me_l (List.mem_of_getElem? (i := 1) rfl))))) (fun _ h => h) (congrArg Value.int (by rw [eI13, z_up_n (by decide), eI11, z_up_n (by decide), eI8, z_up_n (by decide)])) dX9_statement_120 ?_
            refine lv_sipush (v := 303) hx hb dX9_statement_123 (by decide) ?_
            refine lv_icmp_lt (tgt := 151) hx hb dX9_statement_126 (by decide) (fun c47 => ?_) (fun c47 => ?_)
            · have g48 := z_f_lt rfl z_l303 c47
              refine lv_iconst (v := 0) hx hb dX9_statement_151 (by decide) ?_
              exact z_zret hx hb hr (by decide) hK hS (Nat.le_of_ble_eq_true rfl) (Nat.le_of_ble_eq_true rfl) hlocks dX9_statement_152 (shC c, ad, I13, JX, PC c ad) hW ⟨I13, rfl, ⟨(by show 0 ≤ (I13 12 1).toInt ∧ (I13 12 1).toInt ≤ 500; rw [eI13, z_up_n (by decide), eI11, z_up_n (by decide), eI8, z_up_n (by decide)]; exact hR.1), (by show 0 ≤ (I13 12 5).toInt ∧ (I13 12 5).toInt ≤ 501; rw [eI13, z_up_n (by decide), eI11, z_up_n (by decide), eI8, z_up_n (by decide)]; exact hR.2.1), (by show (-1) ≤ (I13 12 6).toInt ∧ (I13 12 6).toInt ≤ 1000000; rw [eI13, z_up_n (by decide), eI11, z_up_n (by decide), eI8, z_up_n (by decide)]; exact hR.2.2.1), (by show 0 ≤ (I13 12 9).toInt ∧ (I13 12 9).toInt ≤ 500; rw [eI13, z_up_n (by decide), eI11, z_up_n (by decide), eI8, z_up_n (by decide)]; exact hR.2.2.2.1), (by show 0 ≤ (I13 12 13).toInt ∧ (I13 12 13).toInt ≤ 24; rw [eI13, z_up_n (by decide), eI11, z_up_n (by decide), eI8, z_up_n (by decide)]; exact hR.2.2.2.2)⟩, (by have q0 : (I13 12 6) = (I 12 6) := (by rw [eI13, z_up_n (by decide), eI11, z_up_n (by decide), eI8, z_up_n (by decide)]); have q1 : (I13 12 7) = (I 12 7) := (by rw [eI13, z_up_n (by decide), eI11, z_up_n (by decide), eI8, z_up_n (by decide)]); show (I13 12 6).toInt ≤ 501 ∧ ((I13 12 7).toInt = 401 ∨ (I13 12 6).toInt ≤ 500); rw [q0, q1]; first | omega | decide), f14, Or.inr rfl⟩
            · have g49 := z_f_nlt rfl z_l303 c47
              refine lv_aload_n hx hb dX9_statement_129 rfl (lv_at hl 0 rfl) ?_
              refine z_get (T := TX9) (N := 14) (ci := 9) (i := 12) (v := .int (I 12 7)) hx hb hts zj_X9_statement_X9 hown hK hW rfl rfl 7 (by decide) (hts (.fieldLink RX9 62 "PetrolBoard$Reader" "token" "I") (me_s (me_l (me_l (List.mem_of_getElem? (i := 1) rfl))))) (fun _ h => h) (congrArg Value.int (by rw [eI13, z_up_n (by decide), eI11, z_up_n (by decide), eI8, z_up_n (by decide)])) dX9_statement_130 ?_
              refine lv_sipush (v := 307) hx hb dX9_statement_133 (by decide) ?_
              refine lv_icmp_gt (tgt := 151) hx hb dX9_statement_136 (by decide) (fun c50 => ?_) (fun c50 => ?_)
              · have g51 := z_f_gt rfl z_l307 c50
                refine lv_iconst (v := 0) hx hb dX9_statement_151 (by decide) ?_
                exact z_zret hx hb hr (by decide) hK hS (Nat.le_of_ble_eq_true rfl) (Nat.le_of_ble_eq_true rfl) hlocks dX9_statement_152 (shC c, ad, I13, JX, PC c ad) hW ⟨I13, rfl, ⟨(by show 0 ≤ (I13 12 1).toInt ∧ (I13 12 1).toInt ≤ 500; rw [eI13, z_up_n (by decide), eI11, z_up_n (by decide), eI8, z_up_n (by decide)]; exact hR.1), (by show 0 ≤ (I13 12 5).toInt ∧ (I13 12 5).toInt ≤ 501; rw [eI13, z_up_n (by decide), eI11, z_up_n (by decide), eI8, z_up_n (by decide)]; exact hR.2.1), (by show (-1) ≤ (I13 12 6).toInt ∧ (I13 12 6).toInt ≤ 1000000; rw [eI13, z_up_n (by decide), eI11, z_up_n (by decide), eI8, z_up_n (by decide)]; exact hR.2.2.1), (by show 0 ≤ (I13 12 9).toInt ∧ (I13 12 9).toInt ≤ 500; rw [eI13, z_up_n (by decide), eI11, z_up_n (by decide), eI8, z_up_n (by decide)]; exact hR.2.2.2.1), (by show 0 ≤ (I13 12 13).toInt ∧ (I13 12 13).toInt ≤ 24; rw [eI13, z_up_n (by decide), eI11, z_up_n (by decide), eI8, z_up_n (by decide)]; exact hR.2.2.2.2)⟩, (by have q0 : (I13 12 6) = (I 12 6) := (by rw [eI13, z_up_n (by decide), eI11, z_up_n (by decide), eI8, z_up_n (by decide)]); have q1 : (I13 12 7) = (I 12 7) := (by rw [eI13, z_up_n (by decide), eI11, z_up_n (by decide), eI8, z_up_n (by decide)]); show (I13 12 6).toInt ≤ 501 ∧ ((I13 12 7).toInt = 401 ∨ (I13 12 6).toInt ≤ 500); rw [q0, q1]; first | omega | decide), f14, Or.inr rfl⟩
              · have g52 := z_f_ngt rfl z_l307 c50
                refine lv_aload_n hx hb dX9_statement_139 rfl (lv_at hl 0 rfl) ?_
                refine lv_iload_n hx hb dX9_statement_140 rfl (lv_at hl 1 rfl) ?_
                refine z_ci hW hS hA (va_runV (As := [.int a1]) (rest := []) ⟨hx, hb, hml, hown, hts⟩ (sx_X9_amountOf l G ad c I13 ⟨(by show 0 ≤ (I13 12 1).toInt ∧ (I13 12 1).toInt ≤ 500; rw [eI13, z_up_n (by decide), eI11, z_up_n (by decide), eI8, z_up_n (by decide)]; exact hR.1), (by show 0 ≤ (I13 12 5).toInt ∧ (I13 12 5).toInt ≤ 501; rw [eI13, z_up_n (by decide), eI11, z_up_n (by decide), eI8, z_up_n (by decide)]; exact hR.2.1), (by show (-1) ≤ (I13 12 6).toInt ∧ (I13 12 6).toInt ≤ 1000000; rw [eI13, z_up_n (by decide), eI11, z_up_n (by decide), eI8, z_up_n (by decide)]; exact hR.2.2.1), (by show 0 ≤ (I13 12 9).toInt ∧ (I13 12 9).toInt ≤ 500; rw [eI13, z_up_n (by decide), eI11, z_up_n (by decide), eI8, z_up_n (by decide)]; exact hR.2.2.2.1), (by show 0 ≤ (I13 12 13).toInt ∧ (I13 12 13).toInt ≤ 24; rw [eI13, z_up_n (by decide), eI11, z_up_n (by decide), eI8, z_up_n (by decide)]; exact hR.2.2.2.2)⟩ (by have q0 : (I13 12 6) = (I 12 6) := (by rw [eI13, z_up_n (by decide), eI11, z_up_n (by decide), eI8, z_up_n (by decide)]); have q1 : (I13 12 7) = (I 12 7) := (by rw [eI13, z_up_n (by decide), eI11, z_up_n (by decide), eI8, z_up_n (by decide)]); show (I13 12 6).toInt ≤ 501 ∧ ((I13 12 7).toInt = 401 ∨ (I13 12 6).toInt ≤ 500); rw [q0, q1]; first | omega | decide) a1  (by show (I13 12 6).toInt ≤ 500; have q : (I13 12 6) = (I 12 6) := (by rw [eI13, z_up_n (by decide), eI11, z_up_n (by decide), eI8, z_up_n (by decide)]); rw [q]; first | omega | decide) _) (cwV 1 hts gX9_statement_X9_amountOf rfl rfl rfl hy_X9_amountOf ⟨Nat.le_of_ble_eq_true rfl, Nat.le_of_ble_eq_true rfl⟩) (z_preV (i := 12) hK hW rfl rfl) rfl rfl hl.1 rfl (lv_room (Nat.le_of_ble_eq_true rfl)) dX9_statement_141 ⟨Nat.le_of_ble_eq_true rfl, Nat.le_of_ble_eq_true rfl⟩) (fun r u1 H locs hp hW hS => ?_)
                obtain ⟨I53, e9, hI53R, hI53T, fI53, hp⟩ := hp
                rw [e9] at hW
                have f54 := z_fr_sub (L := L_X9_statement) f14 fI53 (by decide)
                have k55 : (I53 12 6).toInt ≤ 501 ∧ ((I53 12 7).toInt = 401 ∨ (I53 12 6).toInt ≤ 500) := hI53T
                rcases hp with rfl | rfl
                · refine lv_if_eq (tgt := 151) hx hb dX9_statement_144 (by decide) (fun c56 => absurd c56 (by decide)) (fun c56 => ?_)
                  refine lv_iconst (v := 1) hx hb dX9_statement_147 (by decide) ?_
                  refine lv_goto (tgt := 152) hx hb dX9_statement_148 (by decide) ?_
                  exact z_zret hx hb hr (by decide) hK hS (Nat.le_of_ble_eq_true rfl) (Nat.le_of_ble_eq_true rfl) hlocks dX9_statement_152 (shC c, ad, I53, JX, PC c ad) hW ⟨I53, rfl, ⟨(by show 0 ≤ (I53 12 1).toInt ∧ (I53 12 1).toInt ≤ 500; exact hI53R.1), (by show 0 ≤ (I53 12 5).toInt ∧ (I53 12 5).toInt ≤ 501; exact hI53R.2.1), (by show (-1) ≤ (I53 12 6).toInt ∧ (I53 12 6).toInt ≤ 1000000; exact hI53R.2.2.1), (by show 0 ≤ (I53 12 9).toInt ∧ (I53 12 9).toInt ≤ 500; exact hI53R.2.2.2.1), (by show 0 ≤ (I53 12 13).toInt ∧ (I53 12 13).toInt ≤ 24; exact hI53R.2.2.2.2)⟩, (by show (I53 12 6).toInt ≤ 501 ∧ ((I53 12 7).toInt = 401 ∨ (I53 12 6).toInt ≤ 500); first | omega | decide), f54, Or.inl rfl⟩
                · refine lv_if_eq (tgt := 151) hx hb dX9_statement_144 (by decide) (fun c57 => ?_) (fun c57 => absurd (by decide) c57)
                  refine lv_iconst (v := 0) hx hb dX9_statement_151 (by decide) ?_
                  exact z_zret hx hb hr (by decide) hK hS (Nat.le_of_ble_eq_true rfl) (Nat.le_of_ble_eq_true rfl) hlocks dX9_statement_152 (shC c, ad, I53, JX, PC c ad) hW ⟨I53, rfl, ⟨(by show 0 ≤ (I53 12 1).toInt ∧ (I53 12 1).toInt ≤ 500; exact hI53R.1), (by show 0 ≤ (I53 12 5).toInt ∧ (I53 12 5).toInt ≤ 501; exact hI53R.2.1), (by show (-1) ≤ (I53 12 6).toInt ∧ (I53 12 6).toInt ≤ 1000000; exact hI53R.2.2.1), (by show 0 ≤ (I53 12 9).toInt ∧ (I53 12 9).toInt ≤ 500; exact hI53R.2.2.2.1), (by show 0 ≤ (I53 12 13).toInt ∧ (I53 12 13).toInt ≤ 24; exact hI53R.2.2.2.2)⟩, (by show (I53 12 6).toInt ≤ 501 ∧ ((I53 12 7).toInt = 401 ∨ (I53 12 6).toInt ≤ 500); first | omega | decide), f54, Or.inr rfl⟩
          · have g58 := z_f_eq rfl z_l302 c45
            refine lv_aload_n hx hb dX9_statement_113 rfl (lv_at hl 0 rfl) ?_
            refine lv_iload_n hx hb dX9_statement_114 rfl (lv_at hl 1 rfl) ?_
            refine z_ci hW hS hA (va_runV (As := [.int a1]) (rest := []) ⟨hx, hb, hml, hown, hts⟩ (sx_X9_condition l G ad c I13 ⟨(by show 0 ≤ (I13 12 1).toInt ∧ (I13 12 1).toInt ≤ 500; rw [eI13, z_up_n (by decide), eI11, z_up_n (by decide), eI8, z_up_n (by decide)]; exact hR.1), (by show 0 ≤ (I13 12 5).toInt ∧ (I13 12 5).toInt ≤ 501; rw [eI13, z_up_n (by decide), eI11, z_up_n (by decide), eI8, z_up_n (by decide)]; exact hR.2.1), (by show (-1) ≤ (I13 12 6).toInt ∧ (I13 12 6).toInt ≤ 1000000; rw [eI13, z_up_n (by decide), eI11, z_up_n (by decide), eI8, z_up_n (by decide)]; exact hR.2.2.1), (by show 0 ≤ (I13 12 9).toInt ∧ (I13 12 9).toInt ≤ 500; rw [eI13, z_up_n (by decide), eI11, z_up_n (by decide), eI8, z_up_n (by decide)]; exact hR.2.2.2.1), (by show 0 ≤ (I13 12 13).toInt ∧ (I13 12 13).toInt ≤ 24; rw [eI13, z_up_n (by decide), eI11, z_up_n (by decide), eI8, z_up_n (by decide)]; exact hR.2.2.2.2)⟩ (by have q0 : (I13 12 6) = (I 12 6) := (by rw [eI13, z_up_n (by decide), eI11, z_up_n (by decide), eI8, z_up_n (by decide)]); have q1 : (I13 12 7) = (I 12 7) := (by rw [eI13, z_up_n (by decide), eI11, z_up_n (by decide), eI8, z_up_n (by decide)]); show (I13 12 6).toInt ≤ 501 ∧ ((I13 12 7).toInt = 401 ∨ (I13 12 6).toInt ≤ 500); rw [q0, q1]; first | omega | decide) a1  (by show (I13 12 6).toInt ≤ 500; have q : (I13 12 6) = (I 12 6) := (by rw [eI13, z_up_n (by decide), eI11, z_up_n (by decide), eI8, z_up_n (by decide)]); rw [q]; first | omega | decide) _) (cwV 1 hts gX9_statement_X9_condition rfl rfl rfl hy_X9_condition ⟨Nat.le_of_ble_eq_true rfl, Nat.le_of_ble_eq_true rfl⟩) (z_preV (i := 12) hK hW rfl rfl) rfl rfl hl.1 rfl (lv_room (Nat.le_of_ble_eq_true rfl)) dX9_statement_115 ⟨Nat.le_of_ble_eq_true rfl, Nat.le_of_ble_eq_true rfl⟩) (fun r u1 H locs hp hW hS => ?_)
            obtain ⟨I59, e9, hI59R, hI59T, fI59, hp⟩ := hp
            rw [e9] at hW
            have f60 := z_fr_sub (L := L_X9_statement) f14 fI59 (by decide)
            have k61 : (I59 12 6).toInt ≤ 501 ∧ ((I59 12 7).toInt = 401 ∨ (I59 12 6).toInt ≤ 500) := hI59T
            rcases hp with rfl | rfl
            · exact z_zret hx hb hr (by decide) hK hS (Nat.le_of_ble_eq_true rfl) (Nat.le_of_ble_eq_true rfl) hlocks dX9_statement_118 (shC c, ad, I59, JX, PC c ad) hW ⟨I59, rfl, ⟨(by show 0 ≤ (I59 12 1).toInt ∧ (I59 12 1).toInt ≤ 500; exact hI59R.1), (by show 0 ≤ (I59 12 5).toInt ∧ (I59 12 5).toInt ≤ 501; exact hI59R.2.1), (by show (-1) ≤ (I59 12 6).toInt ∧ (I59 12 6).toInt ≤ 1000000; exact hI59R.2.2.1), (by show 0 ≤ (I59 12 9).toInt ∧ (I59 12 9).toInt ≤ 500; exact hI59R.2.2.2.1), (by show 0 ≤ (I59 12 13).toInt ∧ (I59 12 13).toInt ≤ 24; exact hI59R.2.2.2.2)⟩, (by show (I59 12 6).toInt ≤ 501 ∧ ((I59 12 7).toInt = 401 ∨ (I59 12 6).toInt ≤ 500); first | omega | decide), f60, Or.inl rfl⟩
            · exact z_zret hx hb hr (by decide) hK hS (Nat.le_of_ble_eq_true rfl) (Nat.le_of_ble_eq_true rfl) hlocks dX9_statement_118 (shC c, ad, I59, JX, PC c ad) hW ⟨I59, rfl, ⟨(by show 0 ≤ (I59 12 1).toInt ∧ (I59 12 1).toInt ≤ 500; exact hI59R.1), (by show 0 ≤ (I59 12 5).toInt ∧ (I59 12 5).toInt ≤ 501; exact hI59R.2.1), (by show (-1) ≤ (I59 12 6).toInt ∧ (I59 12 6).toInt ≤ 1000000; exact hI59R.2.2.1), (by show 0 ≤ (I59 12 9).toInt ∧ (I59 12 9).toInt ≤ 500; exact hI59R.2.2.2.1), (by show 0 ≤ (I59 12 13).toInt ∧ (I59 12 13).toInt ≤ 24; exact hI59R.2.2.2.2)⟩, (by show (I59 12 6).toInt ≤ 501 ∧ ((I59 12 7).toInt = 401 ∨ (I59 12 6).toInt ≤ 500); first | omega | decide), f60, Or.inr rfl⟩
        · have g62 := z_f_eq rfl z_l301 c43
          refine lv_aload_n hx hb dX9_statement_59 rfl (lv_at hl 0 rfl) ?_
          refine z_cv hW hS hA (va_runV (As := []) (rest := []) ⟨hx, hb, hml, hown, hts⟩ (sx_X9_step l G ad c I13 ⟨(by show 0 ≤ (I13 12 1).toInt ∧ (I13 12 1).toInt ≤ 500; rw [eI13, z_up_n (by decide), eI11, z_up_n (by decide), eI8, z_up_n (by decide)]; exact hR.1), (by show 0 ≤ (I13 12 5).toInt ∧ (I13 12 5).toInt ≤ 501; rw [eI13, z_up_n (by decide), eI11, z_up_n (by decide), eI8, z_up_n (by decide)]; exact hR.2.1), (by show (-1) ≤ (I13 12 6).toInt ∧ (I13 12 6).toInt ≤ 1000000; rw [eI13, z_up_n (by decide), eI11, z_up_n (by decide), eI8, z_up_n (by decide)]; exact hR.2.2.1), (by show 0 ≤ (I13 12 9).toInt ∧ (I13 12 9).toInt ≤ 500; rw [eI13, z_up_n (by decide), eI11, z_up_n (by decide), eI8, z_up_n (by decide)]; exact hR.2.2.2.1), (by show 0 ≤ (I13 12 13).toInt ∧ (I13 12 13).toInt ≤ 24; rw [eI13, z_up_n (by decide), eI11, z_up_n (by decide), eI8, z_up_n (by decide)]; exact hR.2.2.2.2)⟩   (by show (I13 12 6).toInt ≤ 500; have q : (I13 12 6) = (I 12 6) := (by rw [eI13, z_up_n (by decide), eI11, z_up_n (by decide), eI8, z_up_n (by decide)]); rw [q]; first | omega | decide) _) (cwV 0 hts gX9_statement_X9_step rfl rfl rfl hy_X9_step ⟨Nat.le_of_ble_eq_true rfl, Nat.le_of_ble_eq_true rfl⟩) (z_preV (i := 12) hK hW rfl rfl) rfl rfl hl.1 rfl (lv_room (Nat.le_of_ble_eq_true rfl)) dX9_statement_60 ⟨Nat.le_of_ble_eq_true rfl, Nat.le_of_ble_eq_true rfl⟩) (fun u1 H locs hp hW hS => ?_)
          obtain ⟨I63, e9, hI63R, hI63T, fI63⟩ := hp
          rw [e9] at hW
          have f64 := z_fr_sub (L := L_X9_statement) f14 fI63 (by decide)
          have k65 : (I63 12 6).toInt ≤ 501 ∧ ((I63 12 7).toInt = 401 ∨ (I63 12 6).toInt ≤ 500) := hI63T
          refine lv_aload_n hx hb dX9_statement_63 rfl (lv_at hl 0 rfl) ?_
          refine lv_iconst (v := 0) hx hb dX9_statement_64 (by decide) ?_
          refine z_ci hW hS hA (va_runV (As := [.int 0]) (rest := []) ⟨hx, hb, hml, hown, hts⟩ (sx_X9_sum_0 l G ad c I63 ⟨(by show 0 ≤ (I63 12 1).toInt ∧ (I63 12 1).toInt ≤ 500; exact hI63R.1), (by show 0 ≤ (I63 12 5).toInt ∧ (I63 12 5).toInt ≤ 501; exact hI63R.2.1), (by show (-1) ≤ (I63 12 6).toInt ∧ (I63 12 6).toInt ≤ 1000000; exact hI63R.2.2.1), (by show 0 ≤ (I63 12 9).toInt ∧ (I63 12 9).toInt ≤ 500; exact hI63R.2.2.2.1), (by show 0 ≤ (I63 12 13).toInt ∧ (I63 12 13).toInt ≤ 24; exact hI63R.2.2.2.2)⟩ (by show (I63 12 6).toInt ≤ 501 ∧ ((I63 12 7).toInt = 401 ∨ (I63 12 6).toInt ≤ 500); first | omega | decide) _) (cwV 1 hts gX9_statement_X9_sum rfl rfl rfl hy_X9_sum ⟨Nat.le_of_ble_eq_true rfl, Nat.le_of_ble_eq_true rfl⟩) (z_preV (i := 12) hK hW rfl rfl) rfl rfl hl.1 rfl (lv_room (Nat.le_of_ble_eq_true rfl)) dX9_statement_65 ⟨Nat.le_of_ble_eq_true rfl, Nat.le_of_ble_eq_true rfl⟩) (fun r u1 H locs hp hW hS => ?_)
          obtain ⟨I66, e9, hI66R, hI66T, fI66, hp⟩ := hp
          rw [e9] at hW
          have f67 := z_fr_sub (L := L_X9_statement) f64 fI66 (by decide)
          have k68 : (I66 12 6).toInt ≤ 501 ∧ ((I66 12 7).toInt = 401 ∨ (I66 12 6).toInt ≤ 500) := hI66T
          rcases hp with rfl | rfl
          · refine lv_if_ne (tgt := 73) hx hb dX9_statement_68 (by decide) (fun c69 => ?_) (fun c69 => absurd c69 (by decide))
            refine lv_aload_n hx hb dX9_statement_73 rfl (lv_at hl 0 rfl) ?_
            refine lv_bipush (v := (-13)) hx hb dX9_statement_74 (by decide) ?_
            refine z_cv hW hS hA (va_runV (As := [.int (-13)]) (rest := []) ⟨hx, hb, hml, hown, hts⟩ (sx_X9_emit l G ad c I66 ⟨(by show 0 ≤ (I66 12 1).toInt ∧ (I66 12 1).toInt ≤ 500; exact hI66R.1), (by show 0 ≤ (I66 12 5).toInt ∧ (I66 12 5).toInt ≤ 501; exact hI66R.2.1), (by show (-1) ≤ (I66 12 6).toInt ∧ (I66 12 6).toInt ≤ 1000000; exact hI66R.2.2.1), (by show 0 ≤ (I66 12 9).toInt ∧ (I66 12 9).toInt ≤ 500; exact hI66R.2.2.2.1), (by show 0 ≤ (I66 12 13).toInt ∧ (I66 12 13).toInt ≤ 24; exact hI66R.2.2.2.2)⟩ (-13) _) (cwV 1 hts gX9_statement_X9_emit rfl rfl rfl hy_X9_emit ⟨Nat.le_of_ble_eq_true rfl, Nat.le_of_ble_eq_true rfl⟩) (z_preV (i := 12) hK hW rfl rfl) rfl rfl hl.1 rfl (lv_room (Nat.le_of_ble_eq_true rfl)) dX9_statement_76 ⟨Nat.le_of_ble_eq_true rfl, Nat.le_of_ble_eq_true rfl⟩) (fun u1 H locs hp hW hS => ?_)
            obtain ⟨I70, e9, hI70R, fI70⟩ := hp
            rw [e9] at hW
            have f71 := z_fr_sub (L := L_X9_statement) f67 fI70 (by decide)
            have k72 : (I70 12 6).toInt ≤ 501 ∧ ((I70 12 7).toInt = 401 ∨ (I70 12 6).toInt ≤ 500) := (by have q0 : (I70 12 6) = (I66 12 6) := (by rw [fI70 12 6 (by decide)]); have q1 : (I70 12 7) = (I66 12 7) := (by rw [fI70 12 7 (by decide)]); show (I70 12 6).toInt ≤ 501 ∧ ((I70 12 7).toInt = 401 ∨ (I70 12 6).toInt ≤ 500); rw [q0, q1]; first | omega | decide)
            have k73 : (I70 12 6).toInt = (I66 12 6).toInt := by rw [fI70 12 6 (by decide)]
            have k74 : (I70 12 7).toInt = (I66 12 7).toInt := by rw [fI70 12 7 (by decide)]
            refine lv_aload_n hx hb dX9_statement_79 rfl (lv_at hl 0 rfl) ?_
            refine z_get (T := TX9) (N := 14) (ci := 9) (i := 12) (v := .int (I70 12 7)) hx hb hts zj_X9_statement_X9 hown hK hW rfl rfl 7 (by decide) (hts (.fieldLink RX9 62 "PetrolBoard$Reader" "token" "I") (me_s (me_l (me_l (List.mem_of_getElem? (i := 1) rfl))))) (fun _ h => h) rfl dX9_statement_80 ?_
            refine lv_sipush (v := 308) hx hb dX9_statement_83 (by decide) ?_
            refine lv_icmp_ne (tgt := 97) hx hb dX9_statement_86 (by decide) (fun c75 => ?_) (fun c75 => ?_)
            · have g76 := z_f_ne rfl z_l308 c75
              have b77 := Int32.toInt_lt (I70 12 7)
              refine lv_iconst (v := 1) hx hb dX9_statement_97 (by decide) ?_
              refine lv_goto (tgt := 102) hx hb dX9_statement_98 (by decide) ?_
              exact z_zret hx hb hr (by decide) hK hS (Nat.le_of_ble_eq_true rfl) (Nat.le_of_ble_eq_true rfl) hlocks dX9_statement_102 (shC c, ad, I70, JX, PC c ad) hW ⟨I70, rfl, ⟨(by show 0 ≤ (I70 12 1).toInt ∧ (I70 12 1).toInt ≤ 500; exact hI70R.1), (by show 0 ≤ (I70 12 5).toInt ∧ (I70 12 5).toInt ≤ 501; exact hI70R.2.1), (by show (-1) ≤ (I70 12 6).toInt ∧ (I70 12 6).toInt ≤ 1000000; exact hI70R.2.2.1), (by show 0 ≤ (I70 12 9).toInt ∧ (I70 12 9).toInt ≤ 500; exact hI70R.2.2.2.1), (by show 0 ≤ (I70 12 13).toInt ∧ (I70 12 13).toInt ≤ 24; exact hI70R.2.2.2.2)⟩, (by show (I70 12 6).toInt ≤ 501 ∧ ((I70 12 7).toInt = 401 ∨ (I70 12 6).toInt ≤ 500); first | omega | decide), f71, Or.inl rfl⟩
            · have g78 := z_f_eq rfl z_l308 c75
              have b79 := Int32.toInt_lt (I70 12 7)
              refine lv_aload_n hx hb dX9_statement_89 rfl (lv_at hl 0 rfl) ?_
              refine lv_iload_n hx hb dX9_statement_90 rfl (lv_at hl 1 rfl) ?_
              refine z_ci hW hS hA (va_runV (As := [.int a1]) (rest := []) ⟨hx, hb, hml, hown, hts⟩ (sx_X9_condition l G ad c I70 ⟨(by show 0 ≤ (I70 12 1).toInt ∧ (I70 12 1).toInt ≤ 500; exact hI70R.1), (by show 0 ≤ (I70 12 5).toInt ∧ (I70 12 5).toInt ≤ 501; exact hI70R.2.1), (by show (-1) ≤ (I70 12 6).toInt ∧ (I70 12 6).toInt ≤ 1000000; exact hI70R.2.2.1), (by show 0 ≤ (I70 12 9).toInt ∧ (I70 12 9).toInt ≤ 500; exact hI70R.2.2.2.1), (by show 0 ≤ (I70 12 13).toInt ∧ (I70 12 13).toInt ≤ 24; exact hI70R.2.2.2.2)⟩ (by show (I70 12 6).toInt ≤ 501 ∧ ((I70 12 7).toInt = 401 ∨ (I70 12 6).toInt ≤ 500); first | omega | decide) a1  (by show (I70 12 6).toInt ≤ 500; first | omega | decide) _) (cwV 1 hts gX9_statement_X9_condition rfl rfl rfl hy_X9_condition ⟨Nat.le_of_ble_eq_true rfl, Nat.le_of_ble_eq_true rfl⟩) (z_preV (i := 12) hK hW rfl rfl) rfl rfl hl.1 rfl (lv_room (Nat.le_of_ble_eq_true rfl)) dX9_statement_91 ⟨Nat.le_of_ble_eq_true rfl, Nat.le_of_ble_eq_true rfl⟩) (fun r u1 H locs hp hW hS => ?_)
              obtain ⟨I80, e9, hI80R, hI80T, fI80, hp⟩ := hp
              rw [e9] at hW
              have f81 := z_fr_sub (L := L_X9_statement) f71 fI80 (by decide)
              have k82 : (I80 12 6).toInt ≤ 501 ∧ ((I80 12 7).toInt = 401 ∨ (I80 12 6).toInt ≤ 500) := hI80T
              rcases hp with rfl | rfl
              · refine lv_if_eq (tgt := 101) hx hb dX9_statement_94 (by decide) (fun c83 => absurd c83 (by decide)) (fun c83 => ?_)
                refine lv_iconst (v := 1) hx hb dX9_statement_97 (by decide) ?_
                refine lv_goto (tgt := 102) hx hb dX9_statement_98 (by decide) ?_
                exact z_zret hx hb hr (by decide) hK hS (Nat.le_of_ble_eq_true rfl) (Nat.le_of_ble_eq_true rfl) hlocks dX9_statement_102 (shC c, ad, I80, JX, PC c ad) hW ⟨I80, rfl, ⟨(by show 0 ≤ (I80 12 1).toInt ∧ (I80 12 1).toInt ≤ 500; exact hI80R.1), (by show 0 ≤ (I80 12 5).toInt ∧ (I80 12 5).toInt ≤ 501; exact hI80R.2.1), (by show (-1) ≤ (I80 12 6).toInt ∧ (I80 12 6).toInt ≤ 1000000; exact hI80R.2.2.1), (by show 0 ≤ (I80 12 9).toInt ∧ (I80 12 9).toInt ≤ 500; exact hI80R.2.2.2.1), (by show 0 ≤ (I80 12 13).toInt ∧ (I80 12 13).toInt ≤ 24; exact hI80R.2.2.2.2)⟩, (by show (I80 12 6).toInt ≤ 501 ∧ ((I80 12 7).toInt = 401 ∨ (I80 12 6).toInt ≤ 500); first | omega | decide), f81, Or.inl rfl⟩
              · refine lv_if_eq (tgt := 101) hx hb dX9_statement_94 (by decide) (fun c84 => ?_) (fun c84 => absurd (by decide) c84)
                refine lv_iconst (v := 0) hx hb dX9_statement_101 (by decide) ?_
                exact z_zret hx hb hr (by decide) hK hS (Nat.le_of_ble_eq_true rfl) (Nat.le_of_ble_eq_true rfl) hlocks dX9_statement_102 (shC c, ad, I80, JX, PC c ad) hW ⟨I80, rfl, ⟨(by show 0 ≤ (I80 12 1).toInt ∧ (I80 12 1).toInt ≤ 500; exact hI80R.1), (by show 0 ≤ (I80 12 5).toInt ∧ (I80 12 5).toInt ≤ 501; exact hI80R.2.1), (by show (-1) ≤ (I80 12 6).toInt ∧ (I80 12 6).toInt ≤ 1000000; exact hI80R.2.2.1), (by show 0 ≤ (I80 12 9).toInt ∧ (I80 12 9).toInt ≤ 500; exact hI80R.2.2.2.1), (by show 0 ≤ (I80 12 13).toInt ∧ (I80 12 13).toInt ≤ 24; exact hI80R.2.2.2.2)⟩, (by show (I80 12 6).toInt ≤ 501 ∧ ((I80 12 7).toInt = 401 ∨ (I80 12 6).toInt ≤ 500); first | omega | decide), f81, Or.inr rfl⟩
          · refine lv_if_ne (tgt := 73) hx hb dX9_statement_68 (by decide) (fun c85 => absurd (by decide) c85) (fun c85 => ?_)
            refine lv_iconst (v := 0) hx hb dX9_statement_71 (by decide) ?_
            exact z_zret hx hb hr (by decide) hK hS (Nat.le_of_ble_eq_true rfl) (Nat.le_of_ble_eq_true rfl) hlocks dX9_statement_72 (shC c, ad, I66, JX, PC c ad) hW ⟨I66, rfl, ⟨(by show 0 ≤ (I66 12 1).toInt ∧ (I66 12 1).toInt ≤ 500; exact hI66R.1), (by show 0 ≤ (I66 12 5).toInt ∧ (I66 12 5).toInt ≤ 501; exact hI66R.2.1), (by show (-1) ≤ (I66 12 6).toInt ∧ (I66 12 6).toInt ≤ 1000000; exact hI66R.2.2.1), (by show 0 ≤ (I66 12 9).toInt ∧ (I66 12 9).toInt ≤ 500; exact hI66R.2.2.2.1), (by show 0 ≤ (I66 12 13).toInt ∧ (I66 12 13).toInt ≤ 24; exact hI66R.2.2.2.2)⟩, (by show (I66 12 6).toInt ≤ 501 ∧ ((I66 12 7).toInt = 401 ∨ (I66 12 6).toInt ≤ 500); first | omega | decide), f67, Or.inr rfl⟩
    · have g86 := z_f_nlt rfl z_l24 c6
      refine lv_iconst (v := 0) hx hb dX9_statement_10 (by decide) ?_
      exact z_zret hx hb hr (by decide) hK hS (Nat.le_of_ble_eq_true rfl) (Nat.le_of_ble_eq_true rfl) hlocks dX9_statement_11 (shC c, ad, I, JX, PC c ad) hW ⟨I, rfl, ⟨(by show 0 ≤ (I 12 1).toInt ∧ (I 12 1).toInt ≤ 500; exact hR.1), (by show 0 ≤ (I 12 5).toInt ∧ (I 12 5).toInt ≤ 501; exact hR.2.1), (by show (-1) ≤ (I 12 6).toInt ∧ (I 12 6).toInt ≤ 1000000; exact hR.2.2.1), (by show 0 ≤ (I 12 9).toInt ∧ (I 12 9).toInt ≤ 500; exact hR.2.2.2.1), (by show 0 ≤ (I 12 13).toInt ∧ (I 12 13).toInt ≤ 24; exact hR.2.2.2.2)⟩, (by show (I 12 6).toInt ≤ 501 ∧ ((I 12 7).toInt = 401 ∨ (I 12 6).toInt ≤ 500); first | omega | decide), z_fr_0, Or.inr rfl⟩
