theorem dX12_parse_0 : decode cX12_parse 0 = .ok (.aload_n 0, 1) := z_dd_42 (by decide +kernel)
theorem dX12_parse_1 : decode cX12_parse 1 = .ok (.iconst 0, 1) := z_dd_3 (by decide +kernel)
theorem dX12_parse_2 : decode cX12_parse 2 = .ok (.putfield 340, 3) := z_dd_181 (by decide +kernel)
theorem dX12_parse_5 : decode cX12_parse 5 = .ok (.aload_n 0, 1) := z_dd_42 (by decide +kernel)
theorem dX12_parse_6 : decode cX12_parse 6 = .ok (.iconst 0, 1) := z_dd_3 (by decide +kernel)
theorem dX12_parse_7 : decode cX12_parse 7 = .ok (.putfield 346, 3) := z_dd_181 (by decide +kernel)
theorem dX12_parse_10 : decode cX12_parse 10 = .ok (.aload_n 0, 1) := z_dd_42 (by decide +kernel)
theorem dX12_parse_11 : decode cX12_parse 11 = .ok (.iload_n 1, 1) := z_dd_27 (by decide +kernel)
set_option maxRecDepth 20000 in
theorem ggX12_parse_X12_begin : GoodIn wsX12_parse wsX12_begin := goodIn_sub (fa_c (me_s (me_l (me_l (List.mem_of_getElem? (i := 9) rfl)))) (fa_a (fa_c (me_s (me_l (me_l (List.mem_of_getElem? (i := 3) rfl)))) (fa_c (me_s (me_l (me_l (List.mem_of_getElem? (i := 0) rfl)))) (fa_c (me_s (me_l (me_l (List.mem_of_getElem? (i := 10) rfl)))) (fa_c (me_s (me_l (me_l (List.mem_of_getElem? (i := 11) rfl)))) (fa_c (me_s (me_l (me_l (List.mem_of_getElem? (i := 12) rfl)))) fa_n))))) (fun w h => (me_s (me_r h))))) (by decide +kernel)
set_option maxRecDepth 20000 in
theorem gX12_parse_X12_begin : GoodIn wsX12_parse (wsV RX12 349 RX12 yX12_begin wsX12_begin) := goodIn_app (goodIn_sub (fa_c (me_s (me_l (me_l (List.mem_of_getElem? (i := 5) rfl)))) (fa_c (me_s (me_l (me_l (List.mem_of_getElem? (i := 6) rfl)))) (fa_c (me_s (me_l (me_l (List.mem_of_getElem? (i := 7) rfl)))) (fa_c (me_s (me_l (me_l (List.mem_of_getElem? (i := 8) rfl)))) fa_n)))) (by decide +kernel)) ggX12_parse_X12_begin
theorem dX12_parse_12 : decode cX12_parse 12 = .ok (.invokevirtual 349, 3) := z_dd_182 (by decide +kernel)
theorem dX12_parse_15 : decode cX12_parse 15 = .ok (.aload_n 0, 1) := z_dd_42 (by decide +kernel)
theorem dX12_parse_16 : decode cX12_parse 16 = .ok (.getfield 340, 3) := z_dd_180 (by decide +kernel)
theorem dX12_parse_19 : decode cX12_parse 19 = .ok (.ifCond .le 90, 3) := z_dd_158 (by decide +kernel)
theorem dX12_parse_109 : decode cX12_parse 109 = .ok (.aload_n 0, 1) := z_dd_42 (by decide +kernel)
theorem dX12_parse_110 : decode cX12_parse 110 = .ok (.getfield 343, 3) := z_dd_180 (by decide +kernel)
theorem dX12_parse_113 : decode cX12_parse 113 = .ok (.ireturn, 1) := z_dd_172 (by decide +kernel)
theorem dX12_parse_22 : decode cX12_parse 22 = .ok (.aload_n 0, 1) := z_dd_42 (by decide +kernel)
theorem dX12_parse_23 : decode cX12_parse 23 = .ok (.getfield 294, 3) := z_dd_180 (by decide +kernel)
theorem dX12_parse_26 : decode cX12_parse 26 = .ok (.ifCond .ne 83, 3) := z_dd_154 (by decide +kernel)
theorem dX12_parse_29 : decode cX12_parse 29 = .ok (.aload_n 0, 1) := z_dd_42 (by decide +kernel)
theorem dX12_parse_30 : decode cX12_parse 30 = .ok (.getfield 340, 3) := z_dd_180 (by decide +kernel)
theorem dX12_parse_33 : decode cX12_parse 33 = .ok (.iconst 1, 1) := z_dd_4 (by decide +kernel)
theorem dX12_parse_34 : decode cX12_parse 34 = .ok (.isub, 1) := z_dd_100 (by decide +kernel)
theorem dX12_parse_35 : decode cX12_parse 35 = .ok (.istore_n 2, 1) := z_dd_61 (by decide +kernel)
theorem dX12_parse_36 : decode cX12_parse 36 = .ok (.aload_n 0, 1) := z_dd_42 (by decide +kernel)
theorem dX12_parse_37 : decode cX12_parse 37 = .ok (.getfield 91, 3) := z_dd_180 (by decide +kernel)
theorem dX12_parse_40 : decode cX12_parse 40 = .ok (.iload_n 2, 1) := z_dd_28 (by decide +kernel)
theorem dX12_parse_41 : decode cX12_parse 41 = .ok (.iaload, 1) := z_dd_46 (by decide +kernel)
theorem dX12_parse_42 : decode cX12_parse 42 = .ok (.istore_n 3, 1) := z_dd_62 (by decide +kernel)
theorem dX12_parse_43 : decode cX12_parse 43 = .ok (.iload_n 3, 1) := z_dd_29 (by decide +kernel)
theorem dX12_parse_44 : decode cX12_parse 44 = .ok (.iconst 2, 1) := z_dd_5 (by decide +kernel)
theorem dX12_parse_45 : decode cX12_parse 45 = .ok (.if_icmp .ge 20, 3) := z_dd_162 (by decide +kernel)
theorem dX12_parse_65 : decode cX12_parse 65 = .ok (.iload_n 3, 1) := z_dd_29 (by decide +kernel)
theorem dX12_parse_66 : decode cX12_parse 66 = .ok (.iconst 2, 1) := z_dd_5 (by decide +kernel)
theorem dX12_parse_67 : decode cX12_parse 67 = .ok (.if_icmp .ne 11, 3) := z_dd_160 (by decide +kernel)
theorem dX12_parse_78 : decode cX12_parse 78 = .ok (.iload_n 3, 1) := z_dd_29 (by decide +kernel)
theorem dX12_parse_79 : decode cX12_parse 79 = .ok (.iconst 5, 1) := z_dd_8 (by decide +kernel)
theorem dX12_parse_80 : decode cX12_parse 80 = .ok (.if_icmp .ge 21, 3) := z_dd_162 (by decide +kernel)
theorem dX12_parse_101 : decode cX12_parse 101 = .ok (.aload_n 0, 1) := z_dd_42 (by decide +kernel)
theorem dX12_parse_102 : decode cX12_parse 102 = .ok (.iload_n 2, 1) := z_dd_28 (by decide +kernel)
set_option maxRecDepth 20000 in
theorem ggX12_parse_X12_test : GoodIn wsX12_parse wsX12_test := goodIn_sub (fa_c (me_s (me_l (me_r (me_r (me_r (me_r (List.mem_of_getElem? (i := 8) rfl))))))) (fa_a (fa_a (fa_c (me_s (me_l (me_l (List.mem_of_getElem? (i := 10) rfl)))) (fa_c (me_s (me_l (me_r (me_r (me_r (me_r (List.mem_of_getElem? (i := 9) rfl))))))) (fa_c (me_s (me_l (me_l (List.mem_of_getElem? (i := 1) rfl)))) (fa_c (me_s (me_l (me_l (List.mem_of_getElem? (i := 4) rfl)))) (fa_c (me_s (me_l (me_l (List.mem_of_getElem? (i := 2) rfl)))) (fa_c (me_s (me_l (me_l (List.mem_of_getElem? (i := 11) rfl)))) (fa_c (me_s (me_l (me_l (List.mem_of_getElem? (i := 12) rfl)))) (fa_c (me_s (me_l (me_r (me_r (me_r (me_l (List.mem_of_getElem? (i := 4) rfl))))))) (fa_c (me_s (me_l (me_r (me_r (me_r (me_l (List.mem_of_getElem? (i := 5) rfl))))))) (fa_c (me_s (me_l (me_r (me_r (me_r (me_l (List.mem_of_getElem? (i := 6) rfl))))))) (fa_c (me_s (me_l (me_l (List.mem_of_getElem? (i := 8) rfl)))) (fa_c (me_s (me_l (me_r (me_r (me_r (me_l (List.mem_of_getElem? (i := 7) rfl))))))) (fa_c (me_s (me_l (me_r (me_l (List.mem_of_getElem? (i := 5) rfl))))) (fa_c (me_s (me_l (me_r (me_l (List.mem_of_getElem? (i := 14) rfl))))) (fa_c (me_s (me_l (me_r (me_r (me_l (List.mem_of_getElem? (i := 19) rfl)))))) (fa_c (me_s (me_l (me_r (me_r (me_l (List.mem_of_getElem? (i := 20) rfl)))))) (fa_c (me_s (me_l (me_r (me_r (me_l (List.mem_of_getElem? (i := 21) rfl)))))) (fa_c (me_s (me_l (me_r (me_r (me_l (List.mem_of_getElem? (i := 22) rfl)))))) (fa_c (me_s (me_l (me_r (me_r (me_l (List.mem_of_getElem? (i := 23) rfl)))))) (fa_c (me_s (me_l (me_r (me_r (me_r (me_l (List.mem_of_getElem? (i := 0) rfl))))))) (fa_c (me_s (me_l (me_r (me_r (me_r (me_l (List.mem_of_getElem? (i := 1) rfl))))))) (fa_c (me_s (me_l (me_r (me_r (me_r (me_l (List.mem_of_getElem? (i := 2) rfl))))))) (fa_c (me_s (me_l (me_r (me_l (List.mem_of_getElem? (i := 12) rfl))))) (fa_c (me_s (me_l (me_r (me_r (me_r (me_l (List.mem_of_getElem? (i := 3) rfl))))))) fa_n)))))))))))))))))))))))) (fa_a (fa_c (me_s (me_l (me_r (me_l (List.mem_of_getElem? (i := 7) rfl))))) (fa_c (me_s (me_l (me_r (me_l (List.mem_of_getElem? (i := 8) rfl))))) (fa_c (me_s (me_l (me_r (me_l (List.mem_of_getElem? (i := 9) rfl))))) (fa_c (me_s (me_l (me_r (me_l (List.mem_of_getElem? (i := 10) rfl))))) (fa_c (me_s (me_l (me_r (me_l (List.mem_of_getElem? (i := 11) rfl))))) (fa_c (me_s (me_l (me_r (me_l (List.mem_of_getElem? (i := 13) rfl))))) (fa_c (me_s (me_l (me_r (me_l (List.mem_of_getElem? (i := 6) rfl))))) (fa_c (me_s (me_l (me_r (me_l (List.mem_of_getElem? (i := 15) rfl))))) (fa_c (me_s (me_l (me_r (me_l (List.mem_of_getElem? (i := 16) rfl))))) (fa_c (me_s (me_l (me_r (me_l (List.mem_of_getElem? (i := 17) rfl))))) (fa_c (me_s (me_l (me_r (me_l (List.mem_of_getElem? (i := 18) rfl))))) (fa_c (me_s (me_l (me_r (me_l (List.mem_of_getElem? (i := 19) rfl))))) (fa_c (me_s (me_l (me_r (me_l (List.mem_of_getElem? (i := 20) rfl))))) (fa_c (me_s (me_l (me_r (me_l (List.mem_of_getElem? (i := 21) rfl))))) (fa_c (me_s (me_l (me_r (me_l (List.mem_of_getElem? (i := 22) rfl))))) (fa_c (me_s (me_l (me_r (me_l (List.mem_of_getElem? (i := 23) rfl))))) (fa_c (me_s (me_l (me_r (me_r (me_l (List.mem_of_getElem? (i := 0) rfl)))))) (fa_c (me_s (me_l (me_r (me_r (me_l (List.mem_of_getElem? (i := 1) rfl)))))) (fa_c (me_s (me_l (me_r (me_r (me_l (List.mem_of_getElem? (i := 2) rfl)))))) (fa_c (me_s (me_l (me_r (me_r (me_l (List.mem_of_getElem? (i := 3) rfl)))))) (fa_c (me_s (me_l (me_r (me_r (me_l (List.mem_of_getElem? (i := 4) rfl)))))) (fa_c (me_s (me_l (me_r (me_r (me_l (List.mem_of_getElem? (i := 5) rfl)))))) (fa_c (me_s (me_l (me_r (me_r (me_l (List.mem_of_getElem? (i := 6) rfl)))))) (fa_c (me_s (me_l (me_r (me_r (me_l (List.mem_of_getElem? (i := 7) rfl)))))) fa_n)))))))))))))))))))))))) (fa_a (fa_c (me_s (me_l (me_r (me_r (me_l (List.mem_of_getElem? (i := 8) rfl)))))) (fa_c (me_s (me_l (me_l (List.mem_of_getElem? (i := 5) rfl)))) (fa_c (me_s (me_l (me_l (List.mem_of_getElem? (i := 6) rfl)))) (fa_c (me_s (me_l (me_l (List.mem_of_getElem? (i := 7) rfl)))) (fa_c (me_s (me_l (me_l (List.mem_of_getElem? (i := 9) rfl)))) (fa_c (me_s (me_l (me_l (List.mem_of_getElem? (i := 3) rfl)))) (fa_c (me_s (me_l (me_l (List.mem_of_getElem? (i := 0) rfl)))) (fa_c (me_s (me_l (me_r (me_l (List.mem_of_getElem? (i := 1) rfl))))) (fa_c (me_s (me_l (me_r (me_l (List.mem_of_getElem? (i := 2) rfl))))) (fa_c (me_s (me_l (me_r (me_l (List.mem_of_getElem? (i := 3) rfl))))) (fa_c (me_s (me_l (me_r (me_l (List.mem_of_getElem? (i := 4) rfl))))) (fa_c (me_s (me_l (me_l (List.mem_of_getElem? (i := 17) rfl)))) (fa_c (me_s (me_l (me_l (List.mem_of_getElem? (i := 18) rfl)))) (fa_c (me_s (me_l (me_l (List.mem_of_getElem? (i := 19) rfl)))) (fa_c (me_s (me_l (me_l (List.mem_of_getElem? (i := 20) rfl)))) (fa_c (me_s (me_l (me_l (List.mem_of_getElem? (i := 21) rfl)))) (fa_c (me_s (me_l (me_l (List.mem_of_getElem? (i := 22) rfl)))) (fa_c (me_s (me_l (me_l (List.mem_of_getElem? (i := 23) rfl)))) (fa_c (me_s (me_l (me_r (me_l (List.mem_of_getElem? (i := 0) rfl))))) (fa_c (me_s (me_l (me_r (me_r (me_l (List.mem_of_getElem? (i := 9) rfl)))))) (fa_c (me_s (me_l (me_r (me_r (me_l (List.mem_of_getElem? (i := 10) rfl)))))) (fa_c (me_s (me_l (me_r (me_r (me_l (List.mem_of_getElem? (i := 11) rfl)))))) (fa_c (me_s (me_l (me_r (me_r (me_l (List.mem_of_getElem? (i := 12) rfl)))))) (fa_c (me_s (me_l (me_r (me_r (me_r (me_l (List.mem_of_getElem? (i := 8) rfl))))))) fa_n)))))))))))))))))))))))) (fa_c (me_s (me_l (me_r (me_r (me_r (me_l (List.mem_of_getElem? (i := 9) rfl))))))) (fa_c (me_s (me_l (me_r (me_r (me_r (me_l (List.mem_of_getElem? (i := 10) rfl))))))) (fa_c (me_s (me_l (me_r (me_r (me_r (me_l (List.mem_of_getElem? (i := 11) rfl))))))) fa_n)))))) (fun w h => (me_s (me_r h))))) (by decide +kernel)
set_option maxRecDepth 20000 in
theorem gX12_parse_X12_test : GoodIn wsX12_parse (wsV RX12 363 RX12 yX12_test wsX12_test) := goodIn_app (goodIn_sub (fa_c (me_s (me_l (me_r (me_r (me_r (me_r (List.mem_of_getElem? (i := 5) rfl))))))) (fa_c (me_s (me_l (me_r (me_r (me_r (me_r (List.mem_of_getElem? (i := 6) rfl))))))) (fa_c (me_s (me_l (me_r (me_r (me_r (me_r (List.mem_of_getElem? (i := 7) rfl))))))) (fa_c (me_s (me_l (me_l (List.mem_of_getElem? (i := 8) rfl)))) fa_n)))) (by decide +kernel)) ggX12_parse_X12_test
theorem dX12_parse_103 : decode cX12_parse 103 = .ok (.invokevirtual 363, 3) := z_dd_182 (by decide +kernel)
theorem dX12_parse_106 : decode cX12_parse 106 = .ok (.goto (-91), 3) := z_dd_167 (by decide +kernel)
theorem dX12_parse_83 : decode cX12_parse 83 = .ok (.aload_n 0, 1) := z_dd_42 (by decide +kernel)
theorem dX12_parse_84 : decode cX12_parse 84 = .ok (.iload_n 2, 1) := z_dd_28 (by decide +kernel)
theorem dX12_parse_85 : decode cX12_parse 85 = .ok (.iload_n 3, 1) := z_dd_29 (by decide +kernel)
theorem dX12_parse_86 : decode cX12_parse 86 = .ok (.iconst 3, 1) := z_dd_6 (by decide +kernel)
theorem dX12_parse_87 : decode cX12_parse 87 = .ok (.if_icmp .ne 7, 3) := z_dd_160 (by decide +kernel)
theorem dX12_parse_94 : decode cX12_parse 94 = .ok (.iconst 0, 1) := z_dd_3 (by decide +kernel)
set_option maxRecDepth 20000 in
theorem ggX12_parse_X12_chain : GoodIn wsX12_parse wsX12_chain := goodIn_sub (fa_c (me_s (me_l (me_r (me_r (me_r (me_r (List.mem_of_getElem? (i := 2) rfl))))))) (fa_a (fa_a (fa_c (me_s (me_l (me_l (List.mem_of_getElem? (i := 10) rfl)))) (fa_c (me_s (me_l (me_l (List.mem_of_getElem? (i := 11) rfl)))) (fa_c (me_s (me_l (me_l (List.mem_of_getElem? (i := 4) rfl)))) (fa_c (me_s (me_l (me_r (me_r (me_r (me_r (List.mem_of_getElem? (i := 3) rfl))))))) (fa_c (me_s (me_l (me_r (me_r (me_r (me_r (List.mem_of_getElem? (i := 4) rfl))))))) (fa_c (me_s (me_l (me_l (List.mem_of_getElem? (i := 5) rfl)))) (fa_c (me_s (me_l (me_l (List.mem_of_getElem? (i := 6) rfl)))) (fa_c (me_s (me_l (me_l (List.mem_of_getElem? (i := 7) rfl)))) (fa_c (me_s (me_l (me_l (List.mem_of_getElem? (i := 8) rfl)))) (fa_c (me_s (me_l (me_l (List.mem_of_getElem? (i := 9) rfl)))) (fa_c (me_s (me_l (me_l (List.mem_of_getElem? (i := 3) rfl)))) (fa_c (me_s (me_l (me_l (List.mem_of_getElem? (i := 0) rfl)))) (fa_c (me_s (me_l (me_l (List.mem_of_getElem? (i := 12) rfl)))) (fa_c (me_s (me_l (me_l (List.mem_of_getElem? (i := 17) rfl)))) (fa_c (me_s (me_l (me_l (List.mem_of_getElem? (i := 18) rfl)))) (fa_c (me_s (me_l (me_l (List.mem_of_getElem? (i := 19) rfl)))) (fa_c (me_s (me_l (me_l (List.mem_of_getElem? (i := 20) rfl)))) (fa_c (me_s (me_l (me_l (List.mem_of_getElem? (i := 21) rfl)))) (fa_c (me_s (me_l (me_l (List.mem_of_getElem? (i := 22) rfl)))) (fa_c (me_s (me_l (me_l (List.mem_of_getElem? (i := 23) rfl)))) (fa_c (me_s (me_l (me_r (me_l (List.mem_of_getElem? (i := 0) rfl))))) (fa_c (me_s (me_l (me_r (me_r (me_r (me_l (List.mem_of_getElem? (i := 4) rfl))))))) (fa_c (me_s (me_l (me_r (me_r (me_r (me_l (List.mem_of_getElem? (i := 5) rfl))))))) (fa_c (me_s (me_l (me_r (me_r (me_r (me_l (List.mem_of_getElem? (i := 6) rfl))))))) fa_n)))))))))))))))))))))))) (fa_a (fa_c (me_s (me_l (me_r (me_r (me_r (me_l (List.mem_of_getElem? (i := 7) rfl))))))) (fa_c (me_s (me_l (me_r (me_l (List.mem_of_getElem? (i := 5) rfl))))) (fa_c (me_s (me_l (me_r (me_l (List.mem_of_getElem? (i := 14) rfl))))) (fa_c (me_s (me_l (me_r (me_l (List.mem_of_getElem? (i := 7) rfl))))) (fa_c (me_s (me_l (me_r (me_l (List.mem_of_getElem? (i := 8) rfl))))) (fa_c (me_s (me_l (me_r (me_l (List.mem_of_getElem? (i := 9) rfl))))) (fa_c (me_s (me_l (me_r (me_l (List.mem_of_getElem? (i := 10) rfl))))) (fa_c (me_s (me_l (me_r (me_l (List.mem_of_getElem? (i := 11) rfl))))) (fa_c (me_s (me_l (me_r (me_l (List.mem_of_getElem? (i := 12) rfl))))) (fa_c (me_s (me_l (me_r (me_l (List.mem_of_getElem? (i := 13) rfl))))) (fa_c (me_s (me_l (me_r (me_l (List.mem_of_getElem? (i := 6) rfl))))) (fa_c (me_s (me_l (me_r (me_l (List.mem_of_getElem? (i := 15) rfl))))) (fa_c (me_s (me_l (me_r (me_l (List.mem_of_getElem? (i := 16) rfl))))) (fa_c (me_s (me_l (me_r (me_l (List.mem_of_getElem? (i := 17) rfl))))) (fa_c (me_s (me_l (me_r (me_l (List.mem_of_getElem? (i := 18) rfl))))) (fa_c (me_s (me_l (me_r (me_l (List.mem_of_getElem? (i := 19) rfl))))) (fa_c (me_s (me_l (me_r (me_l (List.mem_of_getElem? (i := 20) rfl))))) (fa_c (me_s (me_l (me_r (me_l (List.mem_of_getElem? (i := 21) rfl))))) (fa_c (me_s (me_l (me_r (me_l (List.mem_of_getElem? (i := 22) rfl))))) (fa_c (me_s (me_l (me_r (me_l (List.mem_of_getElem? (i := 23) rfl))))) (fa_c (me_s (me_l (me_r (me_r (me_l (List.mem_of_getElem? (i := 0) rfl)))))) (fa_c (me_s (me_l (me_r (me_r (me_l (List.mem_of_getElem? (i := 1) rfl)))))) (fa_c (me_s (me_l (me_r (me_r (me_l (List.mem_of_getElem? (i := 2) rfl)))))) (fa_c (me_s (me_l (me_r (me_r (me_l (List.mem_of_getElem? (i := 3) rfl)))))) fa_n)))))))))))))))))))))))) (fa_c (me_s (me_l (me_r (me_r (me_l (List.mem_of_getElem? (i := 4) rfl)))))) (fa_c (me_s (me_l (me_r (me_r (me_l (List.mem_of_getElem? (i := 5) rfl)))))) (fa_c (me_s (me_l (me_r (me_r (me_l (List.mem_of_getElem? (i := 6) rfl)))))) (fa_c (me_s (me_l (me_r (me_r (me_l (List.mem_of_getElem? (i := 7) rfl)))))) (fa_c (me_s (me_l (me_r (me_r (me_l (List.mem_of_getElem? (i := 8) rfl)))))) (fa_c (me_s (me_l (me_r (me_r (me_l (List.mem_of_getElem? (i := 9) rfl)))))) (fa_c (me_s (me_l (me_r (me_r (me_l (List.mem_of_getElem? (i := 10) rfl)))))) (fa_c (me_s (me_l (me_r (me_r (me_l (List.mem_of_getElem? (i := 11) rfl)))))) (fa_c (me_s (me_l (me_r (me_r (me_l (List.mem_of_getElem? (i := 12) rfl)))))) fa_n))))))))))) (fun w h => (me_s (me_r h))))) (by decide +kernel)
set_option maxRecDepth 20000 in
theorem gX12_parse_X12_chain : GoodIn wsX12_parse (wsV RX12 360 RX12 yX12_chain wsX12_chain) := goodIn_app (goodIn_sub (fa_c (me_s (me_l (me_r (me_r (me_r (me_l (List.mem_of_getElem? (i := 23) rfl))))))) (fa_c (me_s (me_l (me_r (me_r (me_r (me_r (List.mem_of_getElem? (i := 0) rfl))))))) (fa_c (me_s (me_l (me_r (me_r (me_r (me_r (List.mem_of_getElem? (i := 1) rfl))))))) (fa_c (me_s (me_l (me_l (List.mem_of_getElem? (i := 8) rfl)))) fa_n)))) (by decide +kernel)) ggX12_parse_X12_chain
theorem dX12_parse_95 : decode cX12_parse 95 = .ok (.invokevirtual 360, 3) := z_dd_182 (by decide +kernel)
theorem dX12_parse_98 : decode cX12_parse 98 = .ok (.goto 8, 3) := z_dd_167 (by decide +kernel)
theorem dX12_parse_90 : decode cX12_parse 90 = .ok (.iconst 1, 1) := z_dd_4 (by decide +kernel)
theorem dX12_parse_91 : decode cX12_parse 91 = .ok (.goto 4, 3) := z_dd_167 (by decide +kernel)
theorem dX12_parse_70 : decode cX12_parse 70 = .ok (.aload_n 0, 1) := z_dd_42 (by decide +kernel)
theorem dX12_parse_71 : decode cX12_parse 71 = .ok (.iload_n 2, 1) := z_dd_28 (by decide +kernel)
set_option maxRecDepth 20000 in
theorem ggX12_parse_X12_atom : GoodIn wsX12_parse wsX12_atom := goodIn_sub (fa_c (me_s (me_l (me_r (me_r (me_l (List.mem_of_getElem? (i := 16) rfl)))))) (fa_a (fa_a (fa_c (me_s (me_l (me_l (List.mem_of_getElem? (i := 10) rfl)))) (fa_c (me_s (me_l (me_r (me_l (List.mem_of_getElem? (i := 5) rfl))))) (fa_c (me_s (me_l (me_r (me_l (List.mem_of_getElem? (i := 15) rfl))))) (fa_c (me_s (me_l (me_r (me_r (me_l (List.mem_of_getElem? (i := 17) rfl)))))) (fa_c (me_s (me_l (me_r (me_r (me_l (List.mem_of_getElem? (i := 18) rfl)))))) (fa_c (me_s (me_l (me_l (List.mem_of_getElem? (i := 12) rfl)))) (fa_c (me_s (me_l (me_l (List.mem_of_getElem? (i := 2) rfl)))) (fa_c (me_s (me_l (me_r (me_l (List.mem_of_getElem? (i := 14) rfl))))) (fa_c (me_s (me_l (me_l (List.mem_of_getElem? (i := 11) rfl)))) (fa_c (me_s (me_l (me_l (List.mem_of_getElem? (i := 4) rfl)))) (fa_c (me_s (me_l (me_l (List.mem_of_getElem? (i := 1) rfl)))) (fa_c (me_s (me_l (me_r (me_l (List.mem_of_getElem? (i := 7) rfl))))) (fa_c (me_s (me_l (me_r (me_l (List.mem_of_getElem? (i := 8) rfl))))) (fa_c (me_s (me_l (me_r (me_l (List.mem_of_getElem? (i := 9) rfl))))) (fa_c (me_s (me_l (me_l (List.mem_of_getElem? (i := 8) rfl)))) (fa_c (me_s (me_l (me_r (me_l (List.mem_of_getElem? (i := 10) rfl))))) (fa_c (me_s (me_l (me_r (me_l (List.mem_of_getElem? (i := 11) rfl))))) (fa_c (me_s (me_l (me_r (me_l (List.mem_of_getElem? (i := 12) rfl))))) (fa_c (me_s (me_l (me_r (me_l (List.mem_of_getElem? (i := 13) rfl))))) (fa_c (me_s (me_l (me_r (me_l (List.mem_of_getElem? (i := 6) rfl))))) (fa_c (me_s (me_l (me_r (me_l (List.mem_of_getElem? (i := 16) rfl))))) (fa_c (me_s (me_l (me_r (me_l (List.mem_of_getElem? (i := 17) rfl))))) (fa_c (me_s (me_l (me_r (me_l (List.mem_of_getElem? (i := 18) rfl))))) (fa_c (me_s (me_l (me_r (me_l (List.mem_of_getElem? (i := 19) rfl))))) fa_n)))))))))))))))))))))))) (fa_a (fa_c (me_s (me_l (me_r (me_l (List.mem_of_getElem? (i := 20) rfl))))) (fa_c (me_s (me_l (me_r (me_l (List.mem_of_getElem? (i := 21) rfl))))) (fa_c (me_s (me_l (me_r (me_l (List.mem_of_getElem? (i := 22) rfl))))) (fa_c (me_s (me_l (me_r (me_l (List.mem_of_getElem? (i := 23) rfl))))) (fa_c (me_s (me_l (me_r (me_r (me_l (List.mem_of_getElem? (i := 0) rfl)))))) (fa_c (me_s (me_l (me_r (me_r (me_l (List.mem_of_getElem? (i := 1) rfl)))))) (fa_c (me_s (me_l (me_r (me_r (me_l (List.mem_of_getElem? (i := 2) rfl)))))) (fa_c (me_s (me_l (me_r (me_r (me_l (List.mem_of_getElem? (i := 3) rfl)))))) (fa_c (me_s (me_l (me_r (me_r (me_l (List.mem_of_getElem? (i := 4) rfl)))))) (fa_c (me_s (me_l (me_r (me_r (me_l (List.mem_of_getElem? (i := 5) rfl)))))) (fa_c (me_s (me_l (me_r (me_r (me_l (List.mem_of_getElem? (i := 6) rfl)))))) (fa_c (me_s (me_l (me_r (me_r (me_l (List.mem_of_getElem? (i := 7) rfl)))))) (fa_c (me_s (me_l (me_r (me_r (me_l (List.mem_of_getElem? (i := 8) rfl)))))) (fa_c (me_s (me_l (me_l (List.mem_of_getElem? (i := 17) rfl)))) (fa_c (me_s (me_l (me_l (List.mem_of_getElem? (i := 18) rfl)))) (fa_c (me_s (me_l (me_l (List.mem_of_getElem? (i := 19) rfl)))) (fa_c (me_s (me_l (me_l (List.mem_of_getElem? (i := 20) rfl)))) (fa_c (me_s (me_l (me_l (List.mem_of_getElem? (i := 21) rfl)))) (fa_c (me_s (me_l (me_l (List.mem_of_getElem? (i := 22) rfl)))) (fa_c (me_s (me_l (me_l (List.mem_of_getElem? (i := 23) rfl)))) (fa_c (me_s (me_l (me_r (me_l (List.mem_of_getElem? (i := 0) rfl))))) (fa_c (me_s (me_l (me_r (me_r (me_l (List.mem_of_getElem? (i := 9) rfl)))))) (fa_c (me_s (me_l (me_r (me_r (me_l (List.mem_of_getElem? (i := 10) rfl)))))) (fa_c (me_s (me_l (me_r (me_r (me_l (List.mem_of_getElem? (i := 11) rfl)))))) fa_n)))))))))))))))))))))))) (fa_a (fa_c (me_s (me_l (me_r (me_r (me_l (List.mem_of_getElem? (i := 12) rfl)))))) (fa_c (me_s (me_l (me_l (List.mem_of_getElem? (i := 0) rfl)))) (fa_c (me_s (me_l (me_r (me_l (List.mem_of_getElem? (i := 1) rfl))))) (fa_c (me_s (me_l (me_r (me_l (List.mem_of_getElem? (i := 2) rfl))))) (fa_c (me_s (me_l (me_r (me_l (List.mem_of_getElem? (i := 3) rfl))))) (fa_c (me_s (me_l (me_r (me_l (List.mem_of_getElem? (i := 4) rfl))))) (fa_c (me_s (me_l (me_r (me_r (me_l (List.mem_of_getElem? (i := 19) rfl)))))) (fa_c (me_s (me_l (me_r (me_r (me_l (List.mem_of_getElem? (i := 20) rfl)))))) (fa_c (me_s (me_l (me_r (me_r (me_l (List.mem_of_getElem? (i := 21) rfl)))))) (fa_c (me_s (me_l (me_r (me_r (me_l (List.mem_of_getElem? (i := 22) rfl)))))) (fa_c (me_s (me_l (me_r (me_r (me_l (List.mem_of_getElem? (i := 23) rfl)))))) (fa_c (me_s (me_l (me_r (me_r (me_r (me_l (List.mem_of_getElem? (i := 0) rfl))))))) (fa_c (me_s (me_l (me_r (me_r (me_r (me_l (List.mem_of_getElem? (i := 1) rfl))))))) (fa_c (me_s (me_l (me_r (me_r (me_r (me_l (List.mem_of_getElem? (i := 2) rfl))))))) (fa_c (me_s (me_l (me_r (me_r (me_r (me_l (List.mem_of_getElem? (i := 3) rfl))))))) (fa_c (me_s (me_l (me_l (List.mem_of_getElem? (i := 5) rfl)))) (fa_c (me_s (me_l (me_l (List.mem_of_getElem? (i := 6) rfl)))) (fa_c (me_s (me_l (me_l (List.mem_of_getElem? (i := 7) rfl)))) (fa_c (me_s (me_l (me_l (List.mem_of_getElem? (i := 9) rfl)))) (fa_c (me_s (me_l (me_l (List.mem_of_getElem? (i := 3) rfl)))) (fa_c (me_s (me_l (me_r (me_r (me_r (me_l (List.mem_of_getElem? (i := 4) rfl))))))) (fa_c (me_s (me_l (me_r (me_r (me_r (me_l (List.mem_of_getElem? (i := 5) rfl))))))) (fa_c (me_s (me_l (me_r (me_r (me_r (me_l (List.mem_of_getElem? (i := 6) rfl))))))) (fa_c (me_s (me_l (me_r (me_r (me_r (me_l (List.mem_of_getElem? (i := 7) rfl))))))) fa_n)))))))))))))))))))))))) (fa_c (me_s (me_l (me_r (me_r (me_r (me_l (List.mem_of_getElem? (i := 8) rfl))))))) (fa_c (me_s (me_l (me_r (me_r (me_r (me_l (List.mem_of_getElem? (i := 9) rfl))))))) (fa_c (me_s (me_l (me_r (me_r (me_r (me_l (List.mem_of_getElem? (i := 10) rfl))))))) (fa_c (me_s (me_l (me_r (me_r (me_r (me_l (List.mem_of_getElem? (i := 11) rfl))))))) (fa_c (me_s (me_l (me_r (me_r (me_r (me_l (List.mem_of_getElem? (i := 12) rfl))))))) (fa_c (me_s (me_l (me_r (me_r (me_r (me_l (List.mem_of_getElem? (i := 13) rfl))))))) (fa_c (me_s (me_l (me_r (me_r (me_r (me_l (List.mem_of_getElem? (i := 14) rfl))))))) (fa_c (me_s (me_l (me_r (me_r (me_r (me_l (List.mem_of_getElem? (i := 15) rfl))))))) (fa_c (me_s (me_l (me_r (me_r (me_r (me_l (List.mem_of_getElem? (i := 16) rfl))))))) (fa_c (me_s (me_l (me_r (me_r (me_r (me_l (List.mem_of_getElem? (i := 17) rfl))))))) (fa_c (me_s (me_l (me_r (me_r (me_r (me_l (List.mem_of_getElem? (i := 18) rfl))))))) (fa_c (me_s (me_l (me_r (me_r (me_r (me_l (List.mem_of_getElem? (i := 19) rfl))))))) (fa_c (me_s (me_l (me_r (me_r (me_r (me_l (List.mem_of_getElem? (i := 20) rfl))))))) (fa_c (me_s (me_l (me_r (me_r (me_r (me_l (List.mem_of_getElem? (i := 21) rfl))))))) (fa_c (me_s (me_l (me_r (me_r (me_r (me_l (List.mem_of_getElem? (i := 22) rfl))))))) fa_n)))))))))))))))))) (fun w h => (me_s (me_r h))))) (by decide +kernel)
set_option maxRecDepth 20000 in
theorem gX12_parse_X12_atom : GoodIn wsX12_parse (wsV RX12 357 RX12 yX12_atom wsX12_atom) := goodIn_app (goodIn_sub (fa_c (me_s (me_l (me_r (me_r (me_l (List.mem_of_getElem? (i := 13) rfl)))))) (fa_c (me_s (me_l (me_r (me_r (me_l (List.mem_of_getElem? (i := 14) rfl)))))) (fa_c (me_s (me_l (me_r (me_r (me_l (List.mem_of_getElem? (i := 15) rfl)))))) (fa_c (me_s (me_l (me_l (List.mem_of_getElem? (i := 8) rfl)))) fa_n)))) (by decide +kernel)) ggX12_parse_X12_atom
theorem dX12_parse_72 : decode cX12_parse 72 = .ok (.invokevirtual 357, 3) := z_dd_182 (by decide +kernel)
theorem dX12_parse_75 : decode cX12_parse 75 = .ok (.goto 31, 3) := z_dd_167 (by decide +kernel)
theorem dX12_parse_48 : decode cX12_parse 48 = .ok (.aload_n 0, 1) := z_dd_42 (by decide +kernel)
theorem dX12_parse_49 : decode cX12_parse 49 = .ok (.iload_n 2, 1) := z_dd_28 (by decide +kernel)
theorem dX12_parse_50 : decode cX12_parse 50 = .ok (.iload_n 3, 1) := z_dd_29 (by decide +kernel)
theorem dX12_parse_51 : decode cX12_parse 51 = .ok (.ifCond .ne 7, 3) := z_dd_154 (by decide +kernel)
theorem dX12_parse_58 : decode cX12_parse 58 = .ok (.iconst 0, 1) := z_dd_3 (by decide +kernel)
set_option maxRecDepth 20000 in
theorem ggX12_parse_X12_sums : GoodIn wsX12_parse wsX12_sums := goodIn_sub (fa_c (me_s (me_l (me_l (List.mem_of_getElem? (i := 16) rfl)))) (fa_a (fa_a (fa_c (me_s (me_l (me_l (List.mem_of_getElem? (i := 10) rfl)))) (fa_c (me_s (me_l (me_l (List.mem_of_getElem? (i := 11) rfl)))) (fa_c (me_s (me_l (me_l (List.mem_of_getElem? (i := 4) rfl)))) (fa_c (me_s (me_l (me_l (List.mem_of_getElem? (i := 12) rfl)))) (fa_c (me_s (me_l (me_l (List.mem_of_getElem? (i := 5) rfl)))) (fa_c (me_s (me_l (me_l (List.mem_of_getElem? (i := 6) rfl)))) (fa_c (me_s (me_l (me_l (List.mem_of_getElem? (i := 7) rfl)))) (fa_c (me_s (me_l (me_l (List.mem_of_getElem? (i := 8) rfl)))) (fa_c (me_s (me_l (me_l (List.mem_of_getElem? (i := 9) rfl)))) (fa_c (me_s (me_l (me_l (List.mem_of_getElem? (i := 3) rfl)))) (fa_c (me_s (me_l (me_l (List.mem_of_getElem? (i := 0) rfl)))) (fa_c (me_s (me_l (me_l (List.mem_of_getElem? (i := 17) rfl)))) (fa_c (me_s (me_l (me_l (List.mem_of_getElem? (i := 18) rfl)))) (fa_c (me_s (me_l (me_l (List.mem_of_getElem? (i := 19) rfl)))) (fa_c (me_s (me_l (me_l (List.mem_of_getElem? (i := 20) rfl)))) (fa_c (me_s (me_l (me_l (List.mem_of_getElem? (i := 21) rfl)))) (fa_c (me_s (me_l (me_l (List.mem_of_getElem? (i := 22) rfl)))) (fa_c (me_s (me_l (me_l (List.mem_of_getElem? (i := 23) rfl)))) (fa_c (me_s (me_l (me_r (me_l (List.mem_of_getElem? (i := 0) rfl))))) (fa_c (me_s (me_l (me_r (me_l (List.mem_of_getElem? (i := 1) rfl))))) (fa_c (me_s (me_l (me_r (me_l (List.mem_of_getElem? (i := 2) rfl))))) (fa_c (me_s (me_l (me_r (me_l (List.mem_of_getElem? (i := 3) rfl))))) (fa_c (me_s (me_l (me_r (me_l (List.mem_of_getElem? (i := 4) rfl))))) (fa_c (me_s (me_l (me_r (me_l (List.mem_of_getElem? (i := 5) rfl))))) fa_n)))))))))))))))))))))))) (fa_a (fa_c (me_s (me_l (me_r (me_l (List.mem_of_getElem? (i := 6) rfl))))) (fa_c (me_s (me_l (me_r (me_l (List.mem_of_getElem? (i := 7) rfl))))) (fa_c (me_s (me_l (me_r (me_l (List.mem_of_getElem? (i := 8) rfl))))) (fa_c (me_s (me_l (me_r (me_l (List.mem_of_getElem? (i := 9) rfl))))) (fa_c (me_s (me_l (me_r (me_l (List.mem_of_getElem? (i := 10) rfl))))) (fa_c (me_s (me_l (me_r (me_l (List.mem_of_getElem? (i := 11) rfl))))) (fa_c (me_s (me_l (me_r (me_l (List.mem_of_getElem? (i := 12) rfl))))) (fa_c (me_s (me_l (me_r (me_l (List.mem_of_getElem? (i := 13) rfl))))) (fa_c (me_s (me_l (me_r (me_l (List.mem_of_getElem? (i := 14) rfl))))) (fa_c (me_s (me_l (me_r (me_l (List.mem_of_getElem? (i := 15) rfl))))) (fa_c (me_s (me_l (me_r (me_l (List.mem_of_getElem? (i := 16) rfl))))) (fa_c (me_s (me_l (me_r (me_l (List.mem_of_getElem? (i := 17) rfl))))) (fa_c (me_s (me_l (me_r (me_l (List.mem_of_getElem? (i := 18) rfl))))) (fa_c (me_s (me_l (me_r (me_l (List.mem_of_getElem? (i := 19) rfl))))) (fa_c (me_s (me_l (me_r (me_l (List.mem_of_getElem? (i := 20) rfl))))) (fa_c (me_s (me_l (me_r (me_l (List.mem_of_getElem? (i := 21) rfl))))) (fa_c (me_s (me_l (me_r (me_l (List.mem_of_getElem? (i := 22) rfl))))) (fa_c (me_s (me_l (me_r (me_l (List.mem_of_getElem? (i := 23) rfl))))) (fa_c (me_s (me_l (me_r (me_r (me_l (List.mem_of_getElem? (i := 0) rfl)))))) (fa_c (me_s (me_l (me_r (me_r (me_l (List.mem_of_getElem? (i := 1) rfl)))))) (fa_c (me_s (me_l (me_r (me_r (me_l (List.mem_of_getElem? (i := 2) rfl)))))) (fa_c (me_s (me_l (me_r (me_r (me_l (List.mem_of_getElem? (i := 3) rfl)))))) (fa_c (me_s (me_l (me_r (me_r (me_l (List.mem_of_getElem? (i := 4) rfl)))))) (fa_c (me_s (me_l (me_r (me_r (me_l (List.mem_of_getElem? (i := 5) rfl)))))) fa_n)))))))))))))))))))))))) (fa_c (me_s (me_l (me_r (me_r (me_l (List.mem_of_getElem? (i := 6) rfl)))))) (fa_c (me_s (me_l (me_r (me_r (me_l (List.mem_of_getElem? (i := 7) rfl)))))) (fa_c (me_s (me_l (me_r (me_r (me_l (List.mem_of_getElem? (i := 8) rfl)))))) (fa_c (me_s (me_l (me_r (me_r (me_l (List.mem_of_getElem? (i := 9) rfl)))))) (fa_c (me_s (me_l (me_r (me_r (me_l (List.mem_of_getElem? (i := 10) rfl)))))) (fa_c (me_s (me_l (me_r (me_r (me_l (List.mem_of_getElem? (i := 11) rfl)))))) (fa_c (me_s (me_l (me_r (me_r (me_l (List.mem_of_getElem? (i := 12) rfl)))))) fa_n))))))))) (fun w h => (me_s (me_r h))))) (by decide +kernel)
set_option maxRecDepth 20000 in
theorem gX12_parse_X12_sums : GoodIn wsX12_parse (wsV RX12 353 RX12 yX12_sums wsX12_sums) := goodIn_app (goodIn_sub (fa_c (me_s (me_l (me_l (List.mem_of_getElem? (i := 13) rfl)))) (fa_c (me_s (me_l (me_l (List.mem_of_getElem? (i := 14) rfl)))) (fa_c (me_s (me_l (me_l (List.mem_of_getElem? (i := 15) rfl)))) (fa_c (me_s (me_l (me_l (List.mem_of_getElem? (i := 8) rfl)))) fa_n)))) (by decide +kernel)) ggX12_parse_X12_sums
theorem dX12_parse_59 : decode cX12_parse 59 = .ok (.invokevirtual 353, 3) := z_dd_182 (by decide +kernel)
theorem dX12_parse_62 : decode cX12_parse 62 = .ok (.goto 44, 3) := z_dd_167 (by decide +kernel)
theorem dX12_parse_54 : decode cX12_parse 54 = .ok (.iconst 1, 1) := z_dd_4 (by decide +kernel)
theorem dX12_parse_55 : decode cX12_parse 55 = .ok (.goto 4, 3) := z_dd_167 (by decide +kernel)
theorem dX12_statement_0 : decode cX12_statement 0 = .ok (.aload_n 0, 1) := z_dd_42 (by decide +kernel)
theorem dX12_statement_1 : decode cX12_statement 1 = .ok (.getfield 55, 3) := z_dd_180 (by decide +kernel)
theorem dX12_statement_4 : decode cX12_statement 4 = .ok (.iload_n 1, 1) := z_dd_27 (by decide +kernel)
theorem dX12_statement_5 : decode cX12_statement 5 = .ok (.iconst 0, 1) := z_dd_3 (by decide +kernel)
theorem dX12_statement_6 : decode cX12_statement 6 = .ok (.iastore, 1) := z_dd_79 (by decide +kernel)
theorem dX12_statement_7 : decode cX12_statement 7 = .ok (.aload_n 0, 1) := z_dd_42 (by decide +kernel)
theorem dX12_statement_8 : decode cX12_statement 8 = .ok (.getfield 58, 3) := z_dd_180 (by decide +kernel)
theorem dX12_statement_11 : decode cX12_statement 11 = .ok (.iload_n 1, 1) := z_dd_27 (by decide +kernel)
theorem dX12_statement_12 : decode cX12_statement 12 = .ok (.iconst (-1), 1) := z_dd_2 (by decide +kernel)
theorem dX12_statement_13 : decode cX12_statement 13 = .ok (.iastore, 1) := z_dd_79 (by decide +kernel)
theorem dX12_statement_14 : decode cX12_statement 14 = .ok (.aload_n 0, 1) := z_dd_42 (by decide +kernel)
theorem dX12_statement_15 : decode cX12_statement 15 = .ok (.getfield 61, 3) := z_dd_180 (by decide +kernel)
theorem dX12_statement_18 : decode cX12_statement 18 = .ok (.iload_n 1, 1) := z_dd_27 (by decide +kernel)
theorem dX12_statement_19 : decode cX12_statement 19 = .ok (.iconst (-1), 1) := z_dd_2 (by decide +kernel)
theorem dX12_statement_20 : decode cX12_statement 20 = .ok (.iastore, 1) := z_dd_79 (by decide +kernel)
theorem dX12_statement_21 : decode cX12_statement 21 = .ok (.aload_n 0, 1) := z_dd_42 (by decide +kernel)
theorem dX12_statement_22 : decode cX12_statement 22 = .ok (.getfield 64, 3) := z_dd_180 (by decide +kernel)
theorem dX12_statement_25 : decode cX12_statement 25 = .ok (.iload_n 1, 1) := z_dd_27 (by decide +kernel)
theorem dX12_statement_26 : decode cX12_statement 26 = .ok (.aload_n 0, 1) := z_dd_42 (by decide +kernel)
theorem dX12_statement_27 : decode cX12_statement 27 = .ok (.getfield 337, 3) := z_dd_180 (by decide +kernel)
theorem dX12_statement_30 : decode cX12_statement 30 = .ok (.iastore, 1) := z_dd_79 (by decide +kernel)
theorem dX12_statement_31 : decode cX12_statement 31 = .ok (.aload_n 0, 1) := z_dd_42 (by decide +kernel)
theorem dX12_statement_32 : decode cX12_statement 32 = .ok (.getfield 281, 3) := z_dd_180 (by decide +kernel)
theorem dX12_statement_35 : decode cX12_statement 35 = .ok (.iconst 1, 1) := z_dd_4 (by decide +kernel)
theorem dX12_statement_36 : decode cX12_statement 36 = .ok (.if_icmp .ne 14, 3) := z_dd_160 (by decide +kernel)
theorem dX12_statement_50 : decode cX12_statement 50 = .ok (.iconst (-1), 1) := z_dd_2 (by decide +kernel)
theorem dX12_statement_51 : decode cX12_statement 51 = .ok (.istore_n 2, 1) := z_dd_61 (by decide +kernel)
theorem dX12_statement_52 : decode cX12_statement 52 = .ok (.aload_n 0, 1) := z_dd_42 (by decide +kernel)
theorem dX12_statement_53 : decode cX12_statement 53 = .ok (.getfield 52, 3) := z_dd_180 (by decide +kernel)
theorem dX12_statement_56 : decode cX12_statement 56 = .ok (.iload_n 1, 1) := z_dd_27 (by decide +kernel)
theorem dX12_statement_57 : decode cX12_statement 57 = .ok (.iload_n 2, 1) := z_dd_28 (by decide +kernel)
theorem dX12_statement_58 : decode cX12_statement 58 = .ok (.iastore, 1) := z_dd_79 (by decide +kernel)
theorem dX12_statement_59 : decode cX12_statement 59 = .ok (.iload_n 2, 1) := z_dd_28 (by decide +kernel)
theorem dX12_statement_60 : decode cX12_statement 60 = .ok (.ifCond .ge 8, 3) := z_dd_156 (by decide +kernel)
theorem dX12_statement_63 : decode cX12_statement 63 = .ok (.aload_n 0, 1) := z_dd_42 (by decide +kernel)
set_option maxRecDepth 20000 in
theorem ggX12_statement_X12_errs : GoodIn wsX12_statement wsX12_errs := goodIn_sub (fa_c (me_s (me_l (me_r (me_l (List.mem_of_getElem? (i := 4) rfl))))) (fa_a (fa_c (me_s (me_l (me_l (List.mem_of_getElem? (i := 8) rfl)))) (fa_c (me_s (me_l (me_r (me_l (List.mem_of_getElem? (i := 5) rfl))))) (fa_c (me_s (me_l (me_r (me_l (List.mem_of_getElem? (i := 6) rfl))))) fa_n))) (fun w h => (me_s (me_r h))))) (by decide +kernel)
set_option maxRecDepth 20000 in
theorem gX12_statement_X12_errs : GoodIn wsX12_statement (wsV RX12 304 RX12 yX12_errs wsX12_errs) := goodIn_app (goodIn_sub (fa_c (me_s (me_l (me_r (me_l (List.mem_of_getElem? (i := 1) rfl))))) (fa_c (me_s (me_l (me_r (me_l (List.mem_of_getElem? (i := 2) rfl))))) (fa_c (me_s (me_l (me_r (me_l (List.mem_of_getElem? (i := 3) rfl))))) (fa_c (me_s (me_l (me_l (List.mem_of_getElem? (i := 15) rfl)))) fa_n)))) (by decide +kernel)) ggX12_statement_X12_errs
theorem dX12_statement_64 : decode cX12_statement 64 = .ok (.invokevirtual 304, 3) := z_dd_182 (by decide +kernel)
theorem dX12_statement_67 : decode cX12_statement 67 = .ok (.return_, 1) := z_dd_177 (by decide +kernel)
theorem dX12_statement_39 : decode cX12_statement 39 = .ok (.aload_n 0, 1) := z_dd_42 (by decide +kernel)
theorem dX12_statement_40 : decode cX12_statement 40 = .ok (.aload_n 0, 1) := z_dd_42 (by decide +kernel)
theorem dX12_statement_41 : decode cX12_statement 41 = .ok (.getfield 271, 3) := z_dd_180 (by decide +kernel)
set_option maxRecDepth 20000 in
theorem ggX12_statement_X12_ruleOf : GoodIn wsX12_statement wsX12_ruleOf := goodIn_sub (fa_c (me_s (me_l (me_l (List.mem_of_getElem? (i := 16) rfl)))) (fa_c (me_s (me_l (me_l (List.mem_of_getElem? (i := 17) rfl)))) (fa_c (me_s (me_l (me_l (List.mem_of_getElem? (i := 18) rfl)))) (fa_c (me_s (me_l (me_l (List.mem_of_getElem? (i := 19) rfl)))) (fa_c (me_s (me_l (me_l (List.mem_of_getElem? (i := 20) rfl)))) (fa_c (me_s (me_l (me_l (List.mem_of_getElem? (i := 21) rfl)))) (fa_c (me_s (me_l (me_l (List.mem_of_getElem? (i := 22) rfl)))) (fa_c (me_s (me_l (me_l (List.mem_of_getElem? (i := 23) rfl)))) (fa_c (me_s (me_l (me_r (me_l (List.mem_of_getElem? (i := 0) rfl))))) fa_n))))))))) (by decide +kernel)
set_option maxRecDepth 20000 in
theorem gX12_statement_X12_ruleOf : GoodIn wsX12_statement (wsV RX12 396 RX12 yX12_ruleOf wsX12_ruleOf) := goodIn_app (goodIn_sub (fa_c (me_s (me_l (me_l (List.mem_of_getElem? (i := 12) rfl)))) (fa_c (me_s (me_l (me_l (List.mem_of_getElem? (i := 13) rfl)))) (fa_c (me_s (me_l (me_l (List.mem_of_getElem? (i := 14) rfl)))) (fa_c (me_s (me_l (me_l (List.mem_of_getElem? (i := 15) rfl)))) fa_n)))) (by decide +kernel)) ggX12_statement_X12_ruleOf
theorem dX12_statement_44 : decode cX12_statement 44 = .ok (.invokevirtual 396, 3) := z_dd_182 (by decide +kernel)
theorem dX12_statement_47 : decode cX12_statement 47 = .ok (.goto 4, 3) := z_dd_167 (by decide +kernel)
theorem dX12_statement_68 : decode cX12_statement 68 = .ok (.aload_n 0, 1) := z_dd_42 (by decide +kernel)
set_option maxRecDepth 20000 in
theorem ggX12_statement_X12_next : GoodIn wsX12_statement wsX12_next := goodIn_sub (fa_c (me_s (me_l (me_r (me_l (List.mem_of_getElem? (i := 10) rfl))))) (fa_a (fa_a (fa_c (me_s (me_l (me_r (me_l (List.mem_of_getElem? (i := 11) rfl))))) (fa_c (me_s (me_l (me_r (me_l (List.mem_of_getElem? (i := 5) rfl))))) (fa_c (me_s (me_l (me_r (me_l (List.mem_of_getElem? (i := 12) rfl))))) (fa_c (me_s (me_l (me_l (List.mem_of_getElem? (i := 6) rfl)))) (fa_c (me_s (me_l (me_r (me_l (List.mem_of_getElem? (i := 13) rfl))))) (fa_c (me_s (me_l (me_l (List.mem_of_getElem? (i := 10) rfl)))) (fa_c (me_s (me_l (me_l (List.mem_of_getElem? (i := 5) rfl)))) (fa_c (me_s (me_l (me_r (me_l (List.mem_of_getElem? (i := 14) rfl))))) (fa_c (me_s (me_l (me_r (me_l (List.mem_of_getElem? (i := 15) rfl))))) (fa_c (me_s (me_l (me_r (me_l (List.mem_of_getElem? (i := 16) rfl))))) (fa_c (me_s (me_l (me_r (me_l (List.mem_of_getElem? (i := 17) rfl))))) (fa_c (me_s (me_l (me_r (me_l (List.mem_of_getElem? (i := 18) rfl))))) (fa_c (me_s (me_l (me_l (List.mem_of_getElem? (i := 15) rfl)))) (fa_c (me_s (me_l (me_r (me_l (List.mem_of_getElem? (i := 19) rfl))))) (fa_c (me_s (me_l (me_r (me_l (List.mem_of_getElem? (i := 20) rfl))))) (fa_c (me_s (me_l (me_r (me_l (List.mem_of_getElem? (i := 21) rfl))))) (fa_c (me_s (me_l (me_r (me_l (List.mem_of_getElem? (i := 22) rfl))))) (fa_c (me_s (me_l (me_r (me_l (List.mem_of_getElem? (i := 23) rfl))))) (fa_c (me_s (me_l (me_r (me_r (me_l (List.mem_of_getElem? (i := 0) rfl)))))) (fa_c (me_s (me_l (me_r (me_r (me_l (List.mem_of_getElem? (i := 1) rfl)))))) (fa_c (me_s (me_l (me_r (me_r (me_l (List.mem_of_getElem? (i := 2) rfl)))))) (fa_c (me_s (me_l (me_r (me_r (me_l (List.mem_of_getElem? (i := 3) rfl)))))) (fa_c (me_s (me_l (me_r (me_r (me_l (List.mem_of_getElem? (i := 4) rfl)))))) (fa_c (me_s (me_l (me_r (me_r (me_l (List.mem_of_getElem? (i := 5) rfl)))))) fa_n)))))))))))))))))))))))) (fa_c (me_s (me_l (me_r (me_r (me_l (List.mem_of_getElem? (i := 6) rfl)))))) fa_n)) (fun w h => (me_s (me_r h))))) (by decide +kernel)
set_option maxRecDepth 20000 in
theorem gX12_statement_X12_next : GoodIn wsX12_statement (wsV RX12 301 RX12 yX12_next wsX12_next) := goodIn_app (goodIn_sub (fa_c (me_s (me_l (me_r (me_l (List.mem_of_getElem? (i := 7) rfl))))) (fa_c (me_s (me_l (me_r (me_l (List.mem_of_getElem? (i := 8) rfl))))) (fa_c (me_s (me_l (me_r (me_l (List.mem_of_getElem? (i := 9) rfl))))) (fa_c (me_s (me_l (me_l (List.mem_of_getElem? (i := 15) rfl)))) fa_n)))) (by decide +kernel)) ggX12_statement_X12_next
theorem dX12_statement_69 : decode cX12_statement 69 = .ok (.invokevirtual 301, 3) := z_dd_182 (by decide +kernel)
theorem dX12_statement_72 : decode cX12_statement 72 = .ok (.iload_n 2, 1) := z_dd_28 (by decide +kernel)
theorem dX12_statement_73 : decode cX12_statement 73 = .ok (.iconst 2, 1) := z_dd_5 (by decide +kernel)
theorem dX12_statement_74 : decode cX12_statement 74 = .ok (.if_icmp .ge 49, 3) := z_dd_162 (by decide +kernel)
theorem dX12_statement_123 : decode cX12_statement 123 = .ok (.iload_n 2, 1) := z_dd_28 (by decide +kernel)
theorem dX12_statement_124 : decode cX12_statement 124 = .ok (.iconst 2, 1) := z_dd_5 (by decide +kernel)
theorem dX12_statement_125 : decode cX12_statement 125 = .ok (.if_icmp .ne 17, 3) := z_dd_160 (by decide +kernel)
theorem dX12_statement_142 : decode cX12_statement 142 = .ok (.aload_n 0, 1) := z_dd_42 (by decide +kernel)
theorem dX12_statement_143 : decode cX12_statement 143 = .ok (.getfield 281, 3) := z_dd_180 (by decide +kernel)
theorem dX12_statement_146 : decode cX12_statement 146 = .ok (.iconst 2, 1) := z_dd_5 (by decide +kernel)
theorem dX12_statement_147 : decode cX12_statement 147 = .ok (.if_icmp .ne 32, 3) := z_dd_160 (by decide +kernel)
theorem dX12_statement_179 : decode cX12_statement 179 = .ok (.aload_n 0, 1) := z_dd_42 (by decide +kernel)
theorem dX12_statement_180 : decode cX12_statement 180 = .ok (.invokevirtual 304, 3) := z_dd_182 (by decide +kernel)
theorem dX12_statement_183 : decode cX12_statement 183 = .ok (.aload_n 0, 1) := z_dd_42 (by decide +kernel)
theorem dX12_statement_184 : decode cX12_statement 184 = .ok (.getfield 67, 3) := z_dd_180 (by decide +kernel)
theorem dX12_statement_187 : decode cX12_statement 187 = .ok (.iload_n 1, 1) := z_dd_27 (by decide +kernel)
theorem dX12_statement_188 : decode cX12_statement 188 = .ok (.aload_n 0, 1) := z_dd_42 (by decide +kernel)
theorem dX12_statement_189 : decode cX12_statement 189 = .ok (.getfield 337, 3) := z_dd_180 (by decide +kernel)
theorem dX12_statement_192 : decode cX12_statement 192 = .ok (.iastore, 1) := z_dd_79 (by decide +kernel)
theorem dX12_statement_193 : decode cX12_statement 193 = .ok (.aload_n 0, 1) := z_dd_42 (by decide +kernel)
theorem dX12_statement_194 : decode cX12_statement 194 = .ok (.getfield 294, 3) := z_dd_180 (by decide +kernel)
theorem dX12_statement_197 : decode cX12_statement 197 = .ok (.ifCond .ne 9, 3) := z_dd_154 (by decide +kernel)
theorem dX12_statement_206 : decode cX12_statement 206 = .ok (.return_, 1) := z_dd_177 (by decide +kernel)
theorem dX12_statement_200 : decode cX12_statement 200 = .ok (.aload_n 0, 1) := z_dd_42 (by decide +kernel)
theorem dX12_statement_201 : decode cX12_statement 201 = .ok (.bipush 59, 2) := z_dd_16 (by decide +kernel)
set_option maxRecDepth 20000 in
theorem ggX12_statement_X12_must : GoodIn wsX12_statement wsX12_must := goodIn_sub (fa_c (me_s (me_l (me_r (me_r (me_r (me_r (me_l (List.mem_of_getElem? (i := 10) rfl)))))))) (fa_a (fa_a (fa_c (me_s (me_l (me_r (me_r (me_r (me_l (List.mem_of_getElem? (i := 9) rfl))))))) (fa_c (me_s (me_l (me_r (me_r (me_r (me_l (List.mem_of_getElem? (i := 10) rfl))))))) (fa_c (me_s (me_l (me_r (me_r (me_r (me_l (List.mem_of_getElem? (i := 11) rfl))))))) (fa_c (me_s (me_l (me_l (List.mem_of_getElem? (i := 15) rfl)))) (fa_c (me_s (me_l (me_r (me_r (me_r (me_l (List.mem_of_getElem? (i := 12) rfl))))))) (fa_c (me_s (me_l (me_l (List.mem_of_getElem? (i := 5) rfl)))) (fa_c (me_s (me_l (me_r (me_l (List.mem_of_getElem? (i := 13) rfl))))) (fa_c (me_s (me_l (me_r (me_l (List.mem_of_getElem? (i := 7) rfl))))) (fa_c (me_s (me_l (me_r (me_l (List.mem_of_getElem? (i := 8) rfl))))) (fa_c (me_s (me_l (me_r (me_l (List.mem_of_getElem? (i := 9) rfl))))) (fa_c (me_s (me_l (me_r (me_l (List.mem_of_getElem? (i := 10) rfl))))) (fa_c (me_s (me_l (me_r (me_l (List.mem_of_getElem? (i := 11) rfl))))) (fa_c (me_s (me_l (me_r (me_l (List.mem_of_getElem? (i := 5) rfl))))) (fa_c (me_s (me_l (me_r (me_l (List.mem_of_getElem? (i := 12) rfl))))) (fa_c (me_s (me_l (me_l (List.mem_of_getElem? (i := 6) rfl)))) (fa_c (me_s (me_l (me_l (List.mem_of_getElem? (i := 10) rfl)))) (fa_c (me_s (me_l (me_r (me_l (List.mem_of_getElem? (i := 14) rfl))))) (fa_c (me_s (me_l (me_r (me_l (List.mem_of_getElem? (i := 15) rfl))))) (fa_c (me_s (me_l (me_r (me_l (List.mem_of_getElem? (i := 16) rfl))))) (fa_c (me_s (me_l (me_r (me_l (List.mem_of_getElem? (i := 17) rfl))))) (fa_c (me_s (me_l (me_r (me_l (List.mem_of_getElem? (i := 18) rfl))))) (fa_c (me_s (me_l (me_r (me_l (List.mem_of_getElem? (i := 19) rfl))))) (fa_c (me_s (me_l (me_r (me_l (List.mem_of_getElem? (i := 20) rfl))))) (fa_c (me_s (me_l (me_r (me_l (List.mem_of_getElem? (i := 21) rfl))))) fa_n)))))))))))))))))))))))) (fa_c (me_s (me_l (me_r (me_l (List.mem_of_getElem? (i := 22) rfl))))) (fa_c (me_s (me_l (me_r (me_l (List.mem_of_getElem? (i := 23) rfl))))) (fa_c (me_s (me_l (me_r (me_r (me_l (List.mem_of_getElem? (i := 0) rfl)))))) (fa_c (me_s (me_l (me_r (me_r (me_l (List.mem_of_getElem? (i := 1) rfl)))))) (fa_c (me_s (me_l (me_r (me_r (me_l (List.mem_of_getElem? (i := 2) rfl)))))) (fa_c (me_s (me_l (me_r (me_r (me_l (List.mem_of_getElem? (i := 3) rfl)))))) (fa_c (me_s (me_l (me_r (me_r (me_l (List.mem_of_getElem? (i := 4) rfl)))))) (fa_c (me_s (me_l (me_r (me_r (me_l (List.mem_of_getElem? (i := 5) rfl)))))) (fa_c (me_s (me_l (me_r (me_r (me_l (List.mem_of_getElem? (i := 6) rfl)))))) (fa_c (me_s (me_l (me_r (me_l (List.mem_of_getElem? (i := 1) rfl))))) (fa_c (me_s (me_l (me_r (me_l (List.mem_of_getElem? (i := 2) rfl))))) (fa_c (me_s (me_l (me_r (me_l (List.mem_of_getElem? (i := 3) rfl))))) (fa_c (me_s (me_l (me_r (me_l (List.mem_of_getElem? (i := 4) rfl))))) (fa_c (me_s (me_l (me_l (List.mem_of_getElem? (i := 8) rfl)))) (fa_c (me_s (me_l (me_r (me_l (List.mem_of_getElem? (i := 6) rfl))))) fa_n)))))))))))))))) (fun w h => (me_s (me_r h))))) (by decide +kernel)
set_option maxRecDepth 20000 in
theorem gX12_statement_X12_must : GoodIn wsX12_statement (wsV RX12 383 RX12 yX12_must wsX12_must) := goodIn_app (goodIn_sub (fa_c (me_s (me_l (me_r (me_r (me_r (me_r (me_l (List.mem_of_getElem? (i := 7) rfl)))))))) (fa_c (me_s (me_l (me_r (me_r (me_r (me_r (me_l (List.mem_of_getElem? (i := 8) rfl)))))))) (fa_c (me_s (me_l (me_r (me_r (me_r (me_r (me_l (List.mem_of_getElem? (i := 9) rfl)))))))) (fa_c (me_s (me_l (me_l (List.mem_of_getElem? (i := 15) rfl)))) fa_n)))) (by decide +kernel)) ggX12_statement_X12_must
theorem dX12_statement_203 : decode cX12_statement 203 = .ok (.invokevirtual 383, 3) := z_dd_182 (by decide +kernel)
theorem dX12_statement_150 : decode cX12_statement 150 = .ok (.aload_n 0, 1) := z_dd_42 (by decide +kernel)
theorem dX12_statement_151 : decode cX12_statement 151 = .ok (.getfield 278, 3) := z_dd_180 (by decide +kernel)
theorem dX12_statement_154 : decode cX12_statement 154 = .ok (.ifCond .gt 8, 3) := z_dd_157 (by decide +kernel)
theorem dX12_statement_162 : decode cX12_statement 162 = .ok (.aload_n 0, 1) := z_dd_42 (by decide +kernel)
theorem dX12_statement_163 : decode cX12_statement 163 = .ok (.getfield 55, 3) := z_dd_180 (by decide +kernel)
theorem dX12_statement_166 : decode cX12_statement 166 = .ok (.iload_n 1, 1) := z_dd_27 (by decide +kernel)
theorem dX12_statement_167 : decode cX12_statement 167 = .ok (.aload_n 0, 1) := z_dd_42 (by decide +kernel)
theorem dX12_statement_168 : decode cX12_statement 168 = .ok (.getfield 278, 3) := z_dd_180 (by decide +kernel)
theorem dX12_statement_171 : decode cX12_statement 171 = .ok (.iastore, 1) := z_dd_79 (by decide +kernel)
theorem dX12_statement_172 : decode cX12_statement 172 = .ok (.aload_n 0, 1) := z_dd_42 (by decide +kernel)
theorem dX12_statement_173 : decode cX12_statement 173 = .ok (.invokevirtual 301, 3) := z_dd_182 (by decide +kernel)
theorem dX12_statement_176 : decode cX12_statement 176 = .ok (.goto 7, 3) := z_dd_167 (by decide +kernel)
theorem dX12_statement_157 : decode cX12_statement 157 = .ok (.iload_n 2, 1) := z_dd_28 (by decide +kernel)
theorem dX12_statement_158 : decode cX12_statement 158 = .ok (.iconst 3, 1) := z_dd_6 (by decide +kernel)
theorem dX12_statement_159 : decode cX12_statement 159 = .ok (.if_icmp .le 20, 3) := z_dd_164 (by decide +kernel)
theorem dX12_statement_128 : decode cX12_statement 128 = .ok (.aload_n 0, 1) := z_dd_42 (by decide +kernel)
theorem dX12_statement_129 : decode cX12_statement 129 = .ok (.getfield 61, 3) := z_dd_180 (by decide +kernel)
theorem dX12_statement_132 : decode cX12_statement 132 = .ok (.iload_n 1, 1) := z_dd_27 (by decide +kernel)
theorem dX12_statement_133 : decode cX12_statement 133 = .ok (.aload_n 0, 1) := z_dd_42 (by decide +kernel)
theorem dX12_statement_134 : decode cX12_statement 134 = .ok (.iconst 3, 1) := z_dd_6 (by decide +kernel)
theorem dX12_statement_135 : decode cX12_statement 135 = .ok (.invokevirtual 399, 3) := z_dd_182 (by decide +kernel)
theorem dX12_statement_138 : decode cX12_statement 138 = .ok (.iastore, 1) := z_dd_79 (by decide +kernel)
theorem dX12_statement_139 : decode cX12_statement 139 = .ok (.goto 44, 3) := z_dd_167 (by decide +kernel)
theorem dX12_statement_77 : decode cX12_statement 77 = .ok (.aload_n 0, 1) := z_dd_42 (by decide +kernel)
theorem dX12_statement_78 : decode cX12_statement 78 = .ok (.getfield 58, 3) := z_dd_180 (by decide +kernel)
theorem dX12_statement_81 : decode cX12_statement 81 = .ok (.iload_n 1, 1) := z_dd_27 (by decide +kernel)
theorem dX12_statement_82 : decode cX12_statement 82 = .ok (.aload_n 0, 1) := z_dd_42 (by decide +kernel)
theorem dX12_statement_83 : decode cX12_statement 83 = .ok (.iconst 0, 1) := z_dd_3 (by decide +kernel)
theorem dX12_statement_84 : decode cX12_statement 84 = .ok (.invokevirtual 399, 3) := z_dd_182 (by decide +kernel)
theorem dX12_statement_87 : decode cX12_statement 87 = .ok (.iastore, 1) := z_dd_79 (by decide +kernel)
theorem dX12_statement_88 : decode cX12_statement 88 = .ok (.aload_n 0, 1) := z_dd_42 (by decide +kernel)
theorem dX12_statement_89 : decode cX12_statement 89 = .ok (.getfield 294, 3) := z_dd_180 (by decide +kernel)
theorem dX12_statement_92 : decode cX12_statement 92 = .ok (.ifCond .ne 91, 3) := z_dd_154 (by decide +kernel)
theorem dX12_statement_95 : decode cX12_statement 95 = .ok (.aload_n 0, 1) := z_dd_42 (by decide +kernel)
theorem dX12_statement_96 : decode cX12_statement 96 = .ok (.ldc2_w 403, 3) := z_dd_20 (by decide +kernel)
set_option maxRecDepth 20000 in
theorem ggX12_statement_X12_isWord : GoodIn wsX12_statement wsX12_isWord := goodIn_sub (fa_c (me_s (me_l (me_r (me_r (me_r (me_r (me_l (List.mem_of_getElem? (i := 6) rfl)))))))) (fa_a (fa_c (me_s (me_l (me_l (List.mem_of_getElem? (i := 5) rfl)))) (fa_c (me_s (me_l (me_l (List.mem_of_getElem? (i := 6) rfl)))) fa_n)) (fun w h => (me_s (me_r h))))) (by decide +kernel)
set_option maxRecDepth 20000 in
theorem gX12_statement_X12_isWord : GoodIn wsX12_statement (wsV RX12 377 RX12 yX12_isWord wsX12_isWord) := goodIn_app (goodIn_sub (fa_c (me_s (me_l (me_r (me_r (me_r (me_r (me_l (List.mem_of_getElem? (i := 3) rfl)))))))) (fa_c (me_s (me_l (me_r (me_r (me_r (me_r (me_l (List.mem_of_getElem? (i := 4) rfl)))))))) (fa_c (me_s (me_l (me_r (me_r (me_r (me_r (me_l (List.mem_of_getElem? (i := 5) rfl)))))))) (fa_c (me_s (me_l (me_l (List.mem_of_getElem? (i := 15) rfl)))) fa_n)))) (by decide +kernel)) ggX12_statement_X12_isWord
theorem dX12_statement_99 : decode cX12_statement 99 = .ok (.invokevirtual 377, 3) := z_dd_182 (by decide +kernel)
theorem dX12_statement_102 : decode cX12_statement 102 = .ok (.ifCond .eq 81, 3) := z_dd_153 (by decide +kernel)
theorem dX12_statement_105 : decode cX12_statement 105 = .ok (.aload_n 0, 1) := z_dd_42 (by decide +kernel)
theorem dX12_statement_106 : decode cX12_statement 106 = .ok (.invokevirtual 301, 3) := z_dd_182 (by decide +kernel)
theorem dX12_statement_109 : decode cX12_statement 109 = .ok (.aload_n 0, 1) := z_dd_42 (by decide +kernel)
theorem dX12_statement_110 : decode cX12_statement 110 = .ok (.getfield 61, 3) := z_dd_180 (by decide +kernel)
theorem dX12_statement_113 : decode cX12_statement 113 = .ok (.iload_n 1, 1) := z_dd_27 (by decide +kernel)
theorem dX12_statement_114 : decode cX12_statement 114 = .ok (.aload_n 0, 1) := z_dd_42 (by decide +kernel)
theorem dX12_statement_115 : decode cX12_statement 115 = .ok (.iconst 3, 1) := z_dd_6 (by decide +kernel)
theorem dX12_statement_116 : decode cX12_statement 116 = .ok (.invokevirtual 399, 3) := z_dd_182 (by decide +kernel)
theorem dX12_statement_119 : decode cX12_statement 119 = .ok (.iastore, 1) := z_dd_79 (by decide +kernel)
theorem dX12_statement_120 : decode cX12_statement 120 = .ok (.goto 63, 3) := z_dd_167 (by decide +kernel)
theorem dX12_orders_0 : decode cX12_orders 0 = .ok (.iload_n 1, 1) := z_dd_27 (by decide +kernel)
theorem dX12_orders_1 : decode cX12_orders 1 = .ok (.ifCond .lt 18, 3) := z_dd_155 (by decide +kernel)
theorem dX12_orders_19 : decode cX12_orders 19 = .ok (.bipush (-2), 2) := z_dd_16 (by decide +kernel)
theorem dX12_orders_21 : decode cX12_orders 21 = .ok (.ireturn, 1) := z_dd_172 (by decide +kernel)
theorem dX12_orders_4 : decode cX12_orders 4 = .ok (.iload_n 1, 1) := z_dd_27 (by decide +kernel)
theorem dX12_orders_5 : decode cX12_orders 5 = .ok (.aload_n 0, 1) := z_dd_42 (by decide +kernel)
theorem dX12_orders_6 : decode cX12_orders 6 = .ok (.getfield 253, 3) := z_dd_180 (by decide +kernel)
theorem dX12_orders_9 : decode cX12_orders 9 = .ok (.if_icmp .gt 10, 3) := z_dd_163 (by decide +kernel)
theorem dX12_orders_12 : decode cX12_orders 12 = .ok (.iload_n 2, 1) := z_dd_28 (by decide +kernel)
set_option maxRecDepth 20000 in
theorem ggX12_orders_X12_isMonth : GoodIn wsX12_orders wsX12_isMonth := goodIn_sub (fa_c (me_s (me_l (me_l (List.mem_of_getElem? (i := 17) rfl)))) fa_n) (by decide +kernel)
set_option maxRecDepth 20000 in
theorem gX12_orders_X12_isMonth : GoodIn wsX12_orders (va_wsS RX12 405 yX12_isMonth wsX12_isMonth) := goodIn_app (goodIn_sub (fa_c (me_s (me_l (me_l (List.mem_of_getElem? (i := 14) rfl)))) (fa_c (me_s (me_l (me_l (List.mem_of_getElem? (i := 15) rfl)))) (fa_c (me_s (me_l (me_l (List.mem_of_getElem? (i := 16) rfl)))) fa_n))) (by decide +kernel)) ggX12_orders_X12_isMonth
theorem dX12_orders_13 : decode cX12_orders 13 = .ok (.invokestatic 405, 3) := z_dd_184 (by decide +kernel)
theorem dX12_orders_16 : decode cX12_orders 16 = .ok (.ifCond .ne 6, 3) := z_dd_154 (by decide +kernel)
theorem dX12_orders_22 : decode cX12_orders 22 = .ok (.aload_n 0, 1) := z_dd_42 (by decide +kernel)
theorem dX12_orders_23 : decode cX12_orders 23 = .ok (.getfield 408, 3) := z_dd_180 (by decide +kernel)
theorem dX12_orders_26 : decode cX12_orders 26 = .ok (.bipush 12, 2) := z_dd_16 (by decide +kernel)
theorem dX12_orders_28 : decode cX12_orders 28 = .ok (.if_icmp .ne 6, 3) := z_dd_160 (by decide +kernel)
theorem dX12_orders_34 : decode cX12_orders 34 = .ok (.aload_n 0, 1) := z_dd_42 (by decide +kernel)
theorem dX12_orders_35 : decode cX12_orders 35 = .ok (.iload_n 1, 1) := z_dd_27 (by decide +kernel)
theorem dX12_orders_36 : decode cX12_orders 36 = .ok (.putfield 259, 3) := z_dd_181 (by decide +kernel)
theorem dX12_orders_39 : decode cX12_orders 39 = .ok (.aload_n 0, 1) := z_dd_42 (by decide +kernel)
theorem dX12_orders_40 : decode cX12_orders 40 = .ok (.iconst 0, 1) := z_dd_3 (by decide +kernel)
theorem dX12_orders_41 : decode cX12_orders 41 = .ok (.putfield 253, 3) := z_dd_181 (by decide +kernel)
theorem dX12_orders_44 : decode cX12_orders 44 = .ok (.aload_n 0, 1) := z_dd_42 (by decide +kernel)
theorem dX12_orders_45 : decode cX12_orders 45 = .ok (.iconst 0, 1) := z_dd_3 (by decide +kernel)
theorem dX12_orders_46 : decode cX12_orders 46 = .ok (.putfield 256, 3) := z_dd_181 (by decide +kernel)
theorem dX12_orders_49 : decode cX12_orders 49 = .ok (.aload_n 0, 1) := z_dd_42 (by decide +kernel)
theorem dX12_orders_50 : decode cX12_orders 50 = .ok (.iconst (-1), 1) := z_dd_2 (by decide +kernel)
theorem dX12_orders_51 : decode cX12_orders 51 = .ok (.putfield 87, 3) := z_dd_181 (by decide +kernel)
theorem dX12_orders_54 : decode cX12_orders 54 = .ok (.aload_n 0, 1) := z_dd_42 (by decide +kernel)
theorem dX12_orders_55 : decode cX12_orders 55 = .ok (.iconst 0, 1) := z_dd_3 (by decide +kernel)
theorem dX12_orders_56 : decode cX12_orders 56 = .ok (.putfield 294, 3) := z_dd_181 (by decide +kernel)
theorem dX12_orders_59 : decode cX12_orders 59 = .ok (.aload_n 0, 1) := z_dd_42 (by decide +kernel)
theorem dX12_orders_60 : decode cX12_orders 60 = .ok (.getfield 411, 3) := z_dd_180 (by decide +kernel)
theorem dX12_orders_63 : decode cX12_orders 63 = .ok (.istore_n 3, 1) := z_dd_62 (by decide +kernel)
theorem dX12_orders_64 : decode cX12_orders 64 = .ok (.aload_n 0, 1) := z_dd_42 (by decide +kernel)
theorem dX12_orders_65 : decode cX12_orders 65 = .ok (.getfield 337, 3) := z_dd_180 (by decide +kernel)
theorem dX12_orders_68 : decode cX12_orders 68 = .ok (.istore 4, 2) := z_dd_54 (by decide +kernel)
theorem dX12_orders_70 : decode cX12_orders 70 = .ok (.aload_n 0, 1) := z_dd_42 (by decide +kernel)
set_option maxRecDepth 20000 in
theorem ggX12_orders_X12_next : GoodIn wsX12_orders wsX12_next := goodIn_sub (fa_c (me_s (me_l (me_l (List.mem_of_getElem? (i := 21) rfl)))) (fa_a (fa_a (fa_c (me_s (me_l (me_l (List.mem_of_getElem? (i := 3) rfl)))) (fa_c (me_s (me_l (me_l (List.mem_of_getElem? (i := 22) rfl)))) (fa_c (me_s (me_l (me_l (List.mem_of_getElem? (i := 23) rfl)))) (fa_c (me_s (me_l (me_r (me_l (List.mem_of_getElem? (i := 0) rfl))))) (fa_c (me_s (me_l (me_r (me_l (List.mem_of_getElem? (i := 1) rfl))))) (fa_c (me_s (me_l (me_r (me_l (List.mem_of_getElem? (i := 2) rfl))))) (fa_c (me_s (me_l (me_l (List.mem_of_getElem? (i := 8) rfl)))) (fa_c (me_s (me_l (me_r (me_l (List.mem_of_getElem? (i := 3) rfl))))) (fa_c (me_s (me_l (me_r (me_l (List.mem_of_getElem? (i := 4) rfl))))) (fa_c (me_s (me_l (me_r (me_l (List.mem_of_getElem? (i := 5) rfl))))) (fa_c (me_s (me_l (me_r (me_l (List.mem_of_getElem? (i := 6) rfl))))) (fa_c (me_s (me_l (me_r (me_l (List.mem_of_getElem? (i := 7) rfl))))) (fa_c (me_s (me_l (me_l (List.mem_of_getElem? (i := 16) rfl)))) (fa_c (me_s (me_l (me_r (me_l (List.mem_of_getElem? (i := 8) rfl))))) (fa_c (me_s (me_l (me_l (List.mem_of_getElem? (i := 2) rfl)))) (fa_c (me_s (me_l (me_r (me_l (List.mem_of_getElem? (i := 9) rfl))))) (fa_c (me_s (me_l (me_r (me_l (List.mem_of_getElem? (i := 10) rfl))))) (fa_c (me_s (me_l (me_r (me_l (List.mem_of_getElem? (i := 11) rfl))))) (fa_c (me_s (me_l (me_r (me_l (List.mem_of_getElem? (i := 12) rfl))))) (fa_c (me_s (me_l (me_r (me_l (List.mem_of_getElem? (i := 13) rfl))))) (fa_c (me_s (me_l (me_r (me_l (List.mem_of_getElem? (i := 14) rfl))))) (fa_c (me_s (me_l (me_r (me_l (List.mem_of_getElem? (i := 15) rfl))))) (fa_c (me_s (me_l (me_r (me_l (List.mem_of_getElem? (i := 16) rfl))))) (fa_c (me_s (me_l (me_r (me_l (List.mem_of_getElem? (i := 17) rfl))))) fa_n)))))))))))))))))))))))) (fa_c (me_s (me_l (me_r (me_l (List.mem_of_getElem? (i := 18) rfl))))) fa_n)) (fun w h => (me_s (me_r h))))) (by decide +kernel)
set_option maxRecDepth 20000 in
theorem gX12_orders_X12_next : GoodIn wsX12_orders (wsV RX12 301 RX12 yX12_next wsX12_next) := goodIn_app (goodIn_sub (fa_c (me_s (me_l (me_l (List.mem_of_getElem? (i := 18) rfl)))) (fa_c (me_s (me_l (me_l (List.mem_of_getElem? (i := 19) rfl)))) (fa_c (me_s (me_l (me_l (List.mem_of_getElem? (i := 20) rfl)))) (fa_c (me_s (me_l (me_l (List.mem_of_getElem? (i := 16) rfl)))) fa_n)))) (by decide +kernel)) ggX12_orders_X12_next
theorem dX12_orders_71 : decode cX12_orders 71 = .ok (.invokevirtual 301, 3) := z_dd_182 (by decide +kernel)
theorem dX12_orders_74 : decode cX12_orders 74 = .ok (.aload_n 0, 1) := z_dd_42 (by decide +kernel)
theorem dX12_orders_75 : decode cX12_orders 75 = .ok (.getfield 281, 3) := z_dd_180 (by decide +kernel)
theorem dX12_orders_78 : decode cX12_orders 78 = .ok (.ifCond .eq 56, 3) := z_dd_153 (by decide +kernel)
theorem dX12_orders_134 : decode cX12_orders 134 = .ok (.aload_n 0, 1) := z_dd_42 (by decide +kernel)
theorem dX12_orders_135 : decode cX12_orders 135 = .ok (.getfield 294, 3) := z_dd_180 (by decide +kernel)
theorem dX12_orders_138 : decode cX12_orders 138 = .ok (.ifCond .eq 16, 3) := z_dd_153 (by decide +kernel)
theorem dX12_orders_154 : decode cX12_orders 154 = .ok (.aload_n 0, 1) := z_dd_42 (by decide +kernel)
theorem dX12_orders_155 : decode cX12_orders 155 = .ok (.getfield 40, 3) := z_dd_180 (by decide +kernel)
theorem dX12_orders_158 : decode cX12_orders 158 = .ok (.aload_n 0, 1) := z_dd_42 (by decide +kernel)
theorem dX12_orders_159 : decode cX12_orders 159 = .ok (.getfield 408, 3) := z_dd_180 (by decide +kernel)
theorem dX12_orders_162 : decode cX12_orders 162 = .ok (.iload_n 3, 1) := z_dd_29 (by decide +kernel)
theorem dX12_orders_163 : decode cX12_orders 163 = .ok (.iastore, 1) := z_dd_79 (by decide +kernel)
theorem dX12_orders_164 : decode cX12_orders 164 = .ok (.aload_n 0, 1) := z_dd_42 (by decide +kernel)
theorem dX12_orders_165 : decode cX12_orders 165 = .ok (.getfield 43, 3) := z_dd_180 (by decide +kernel)
theorem dX12_orders_168 : decode cX12_orders 168 = .ok (.aload_n 0, 1) := z_dd_42 (by decide +kernel)
theorem dX12_orders_169 : decode cX12_orders 169 = .ok (.getfield 408, 3) := z_dd_180 (by decide +kernel)
theorem dX12_orders_172 : decode cX12_orders 172 = .ok (.aload_n 0, 1) := z_dd_42 (by decide +kernel)
theorem dX12_orders_173 : decode cX12_orders 173 = .ok (.getfield 411, 3) := z_dd_180 (by decide +kernel)
theorem dX12_orders_176 : decode cX12_orders 176 = .ok (.iload_n 3, 1) := z_dd_29 (by decide +kernel)
theorem dX12_orders_177 : decode cX12_orders 177 = .ok (.isub, 1) := z_dd_100 (by decide +kernel)
theorem dX12_orders_178 : decode cX12_orders 178 = .ok (.iastore, 1) := z_dd_79 (by decide +kernel)
theorem dX12_orders_179 : decode cX12_orders 179 = .ok (.aload_n 0, 1) := z_dd_42 (by decide +kernel)
theorem dX12_orders_180 : decode cX12_orders 180 = .ok (.getfield 46, 3) := z_dd_180 (by decide +kernel)
theorem dX12_orders_183 : decode cX12_orders 183 = .ok (.aload_n 0, 1) := z_dd_42 (by decide +kernel)
theorem dX12_orders_184 : decode cX12_orders 184 = .ok (.getfield 408, 3) := z_dd_180 (by decide +kernel)
theorem dX12_orders_187 : decode cX12_orders 187 = .ok (.iload_n 2, 1) := z_dd_28 (by decide +kernel)
theorem dX12_orders_188 : decode cX12_orders 188 = .ok (.iastore, 1) := z_dd_79 (by decide +kernel)
theorem dX12_orders_189 : decode cX12_orders 189 = .ok (.aload_n 0, 1) := z_dd_42 (by decide +kernel)
theorem dX12_orders_190 : decode cX12_orders 190 = .ok (.getfield 49, 3) := z_dd_180 (by decide +kernel)
theorem dX12_orders_193 : decode cX12_orders 193 = .ok (.aload_n 0, 1) := z_dd_42 (by decide +kernel)
theorem dX12_orders_194 : decode cX12_orders 194 = .ok (.getfield 408, 3) := z_dd_180 (by decide +kernel)
theorem dX12_orders_197 : decode cX12_orders 197 = .ok (.aload_n 0, 1) := z_dd_42 (by decide +kernel)
theorem dX12_orders_198 : decode cX12_orders 198 = .ok (.getfield 232, 3) := z_dd_180 (by decide +kernel)
theorem dX12_orders_201 : decode cX12_orders 201 = .ok (.iastore, 1) := z_dd_79 (by decide +kernel)
theorem dX12_orders_202 : decode cX12_orders 202 = .ok (.aload_n 0, 1) := z_dd_42 (by decide +kernel)
theorem dX12_orders_203 : decode cX12_orders 203 = .ok (.dup, 1) := z_dd_89 (by decide +kernel)
theorem dX12_orders_204 : decode cX12_orders 204 = .ok (.getfield 408, 3) := z_dd_180 (by decide +kernel)
theorem dX12_orders_207 : decode cX12_orders 207 = .ok (.iconst 1, 1) := z_dd_4 (by decide +kernel)
theorem dX12_orders_208 : decode cX12_orders 208 = .ok (.iadd, 1) := z_dd_96 (by decide +kernel)
theorem dX12_orders_209 : decode cX12_orders 209 = .ok (.putfield 408, 3) := z_dd_181 (by decide +kernel)
theorem dX12_orders_212 : decode cX12_orders 212 = .ok (.aload_n 0, 1) := z_dd_42 (by decide +kernel)
theorem dX12_orders_213 : decode cX12_orders 213 = .ok (.getfield 408, 3) := z_dd_180 (by decide +kernel)
theorem dX12_orders_216 : decode cX12_orders 216 = .ok (.iconst 1, 1) := z_dd_4 (by decide +kernel)
theorem dX12_orders_217 : decode cX12_orders 217 = .ok (.isub, 1) := z_dd_100 (by decide +kernel)
theorem dX12_orders_218 : decode cX12_orders 218 = .ok (.ireturn, 1) := z_dd_172 (by decide +kernel)
theorem dX12_orders_141 : decode cX12_orders 141 = .ok (.aload_n 0, 1) := z_dd_42 (by decide +kernel)
theorem dX12_orders_142 : decode cX12_orders 142 = .ok (.iload_n 3, 1) := z_dd_29 (by decide +kernel)
theorem dX12_orders_143 : decode cX12_orders 143 = .ok (.putfield 411, 3) := z_dd_181 (by decide +kernel)
theorem dX12_orders_146 : decode cX12_orders 146 = .ok (.aload_n 0, 1) := z_dd_42 (by decide +kernel)
theorem dX12_orders_147 : decode cX12_orders 147 = .ok (.iload 4, 2) := z_dd_21 (by decide +kernel)
theorem dX12_orders_149 : decode cX12_orders 149 = .ok (.putfield 337, 3) := z_dd_181 (by decide +kernel)
theorem dX12_orders_152 : decode cX12_orders 152 = .ok (.iconst (-1), 1) := z_dd_2 (by decide +kernel)
theorem dX12_orders_153 : decode cX12_orders 153 = .ok (.ireturn, 1) := z_dd_172 (by decide +kernel)
theorem dX12_orders_81 : decode cX12_orders 81 = .ok (.aload_n 0, 1) := z_dd_42 (by decide +kernel)
theorem dX12_orders_82 : decode cX12_orders 82 = .ok (.getfield 294, 3) := z_dd_180 (by decide +kernel)
theorem dX12_orders_85 : decode cX12_orders 85 = .ok (.ifCond .ne 49, 3) := z_dd_154 (by decide +kernel)
theorem dX12_orders_88 : decode cX12_orders 88 = .ok (.aload_n 0, 1) := z_dd_42 (by decide +kernel)
theorem dX12_orders_89 : decode cX12_orders 89 = .ok (.getfield 411, 3) := z_dd_180 (by decide +kernel)
theorem dX12_orders_92 : decode cX12_orders 92 = .ok (.iload_n 3, 1) := z_dd_29 (by decide +kernel)
theorem dX12_orders_93 : decode cX12_orders 93 = .ok (.isub, 1) := z_dd_100 (by decide +kernel)
theorem dX12_orders_94 : decode cX12_orders 94 = .ok (.bipush 24, 2) := z_dd_16 (by decide +kernel)
theorem dX12_orders_96 : decode cX12_orders 96 = .ok (.if_icmp .ne 10, 3) := z_dd_160 (by decide +kernel)
theorem dX12_orders_106 : decode cX12_orders 106 = .ok (.aload_n 0, 1) := z_dd_42 (by decide +kernel)
theorem dX12_orders_107 : decode cX12_orders 107 = .ok (.aload_n 0, 1) := z_dd_42 (by decide +kernel)
theorem dX12_orders_108 : decode cX12_orders 108 = .ok (.getfield 411, 3) := z_dd_180 (by decide +kernel)
theorem dX12_orders_111 : decode cX12_orders 111 = .ok (.invokevirtual 414, 3) := z_dd_182 (by decide +kernel)
theorem dX12_orders_114 : decode cX12_orders 114 = .ok (.aload_n 0, 1) := z_dd_42 (by decide +kernel)
theorem dX12_orders_115 : decode cX12_orders 115 = .ok (.getfield 294, 3) := z_dd_180 (by decide +kernel)
theorem dX12_orders_118 : decode cX12_orders 118 = .ok (.ifCond .ne (-44), 3) := z_dd_154 (by decide +kernel)
theorem dX12_orders_121 : decode cX12_orders 121 = .ok (.aload_n 0, 1) := z_dd_42 (by decide +kernel)
theorem dX12_orders_122 : decode cX12_orders 122 = .ok (.dup, 1) := z_dd_89 (by decide +kernel)
theorem dX12_orders_123 : decode cX12_orders 123 = .ok (.getfield 411, 3) := z_dd_180 (by decide +kernel)
theorem dX12_orders_126 : decode cX12_orders 126 = .ok (.iconst 1, 1) := z_dd_4 (by decide +kernel)
theorem dX12_orders_127 : decode cX12_orders 127 = .ok (.iadd, 1) := z_dd_96 (by decide +kernel)
theorem dX12_orders_128 : decode cX12_orders 128 = .ok (.putfield 411, 3) := z_dd_181 (by decide +kernel)
theorem dX12_orders_131 : decode cX12_orders 131 = .ok (.goto (-57), 3) := z_dd_167 (by decide +kernel)
theorem dX12_orders_99 : decode cX12_orders 99 = .ok (.aload_n 0, 1) := z_dd_42 (by decide +kernel)
set_option maxRecDepth 20000 in
theorem ggX12_orders_X12_errs : GoodIn wsX12_orders wsX12_errs := goodIn_sub (fa_c (me_s (me_l (me_r (me_l (List.mem_of_getElem? (i := 22) rfl))))) (fa_a (fa_c (me_s (me_l (me_l (List.mem_of_getElem? (i := 5) rfl)))) (fa_c (me_s (me_l (me_l (List.mem_of_getElem? (i := 22) rfl)))) (fa_c (me_s (me_l (me_l (List.mem_of_getElem? (i := 4) rfl)))) fa_n))) (fun w h => (me_s (me_r h))))) (by decide +kernel)
set_option maxRecDepth 20000 in
theorem gX12_orders_X12_errs : GoodIn wsX12_orders (wsV RX12 304 RX12 yX12_errs wsX12_errs) := goodIn_app (goodIn_sub (fa_c (me_s (me_l (me_r (me_l (List.mem_of_getElem? (i := 19) rfl))))) (fa_c (me_s (me_l (me_r (me_l (List.mem_of_getElem? (i := 20) rfl))))) (fa_c (me_s (me_l (me_r (me_l (List.mem_of_getElem? (i := 21) rfl))))) (fa_c (me_s (me_l (me_l (List.mem_of_getElem? (i := 16) rfl)))) fa_n)))) (by decide +kernel)) ggX12_orders_X12_errs
theorem dX12_orders_100 : decode cX12_orders 100 = .ok (.invokevirtual 304, 3) := z_dd_182 (by decide +kernel)
theorem dX12_orders_103 : decode cX12_orders 103 = .ok (.goto (-29), 3) := z_dd_167 (by decide +kernel)
theorem dX12_orders_31 : decode cX12_orders 31 = .ok (.bipush (-3), 2) := z_dd_16 (by decide +kernel)
theorem dX12_orders_33 : decode cX12_orders 33 = .ok (.ireturn, 1) := z_dd_172 (by decide +kernel)
theorem dX12_feed_0 : decode cX12_feed 0 = .ok (.aload_n 0, 1) := z_dd_42 (by decide +kernel)
theorem dX12_feed_1 : decode cX12_feed 1 = .ok (.getfield 253, 3) := z_dd_180 (by decide +kernel)
theorem dX12_feed_4 : decode cX12_feed 4 = .ok (.bipush 20, 2) := z_dd_16 (by decide +kernel)
theorem dX12_feed_6 : decode cX12_feed 6 = .ok (.iadd, 1) := z_dd_96 (by decide +kernel)
theorem dX12_feed_7 : decode cX12_feed 7 = .ok (.sipush 500, 3) := z_dd_17 (by decide +kernel)
theorem dX12_feed_10 : decode cX12_feed 10 = .ok (.if_icmp .le 5, 3) := z_dd_164 (by decide +kernel)
theorem dX12_feed_15 : decode cX12_feed 15 = .ok (.iconst 0, 1) := z_dd_3 (by decide +kernel)
theorem dX12_feed_16 : decode cX12_feed 16 = .ok (.istore 6, 2) := z_dd_54 (by decide +kernel)
theorem dX12_feed_18 : decode cX12_feed 18 = .ok (.iload 6, 2) := z_dd_21 (by decide +kernel)
theorem dX12_feed_20 : decode cX12_feed 20 = .ok (.bipush 20, 2) := z_dd_16 (by decide +kernel)
theorem dX12_feed_22 : decode cX12_feed 22 = .ok (.if_icmp .ge 90, 3) := z_dd_162 (by decide +kernel)
theorem dX12_feed_112 : decode cX12_feed 112 = .ok (.aload_n 0, 1) := z_dd_42 (by decide +kernel)
theorem dX12_feed_113 : decode cX12_feed 113 = .ok (.getfield 253, 3) := z_dd_180 (by decide +kernel)
theorem dX12_feed_116 : decode cX12_feed 116 = .ok (.ireturn, 1) := z_dd_172 (by decide +kernel)
theorem dX12_feed_25 : decode cX12_feed 25 = .ok (.iload 6, 2) := z_dd_21 (by decide +kernel)
theorem dX12_feed_27 : decode cX12_feed 27 = .ok (.iconst 4, 1) := z_dd_7 (by decide +kernel)
theorem dX12_feed_28 : decode cX12_feed 28 = .ok (.if_icmp .ge 7, 3) := z_dd_162 (by decide +kernel)
theorem dX12_feed_35 : decode cX12_feed 35 = .ok (.iload 6, 2) := z_dd_21 (by decide +kernel)
theorem dX12_feed_37 : decode cX12_feed 37 = .ok (.bipush 8, 2) := z_dd_16 (by decide +kernel)
theorem dX12_feed_39 : decode cX12_feed 39 = .ok (.if_icmp .ge 7, 3) := z_dd_162 (by decide +kernel)
theorem dX12_feed_46 : decode cX12_feed 46 = .ok (.iload 6, 2) := z_dd_21 (by decide +kernel)
theorem dX12_feed_48 : decode cX12_feed 48 = .ok (.bipush 12, 2) := z_dd_16 (by decide +kernel)
theorem dX12_feed_50 : decode cX12_feed 50 = .ok (.if_icmp .ge 7, 3) := z_dd_162 (by decide +kernel)
theorem dX12_feed_57 : decode cX12_feed 57 = .ok (.iload 6, 2) := z_dd_21 (by decide +kernel)
theorem dX12_feed_59 : decode cX12_feed 59 = .ok (.bipush 16, 2) := z_dd_16 (by decide +kernel)
theorem dX12_feed_61 : decode cX12_feed 61 = .ok (.if_icmp .ge 8, 3) := z_dd_162 (by decide +kernel)
theorem dX12_feed_69 : decode cX12_feed 69 = .ok (.iload 5, 2) := z_dd_21 (by decide +kernel)
theorem dX12_feed_71 : decode cX12_feed 71 = .ok (.istore 7, 2) := z_dd_54 (by decide +kernel)
theorem dX12_feed_73 : decode cX12_feed 73 = .ok (.aload_n 0, 1) := z_dd_42 (by decide +kernel)
theorem dX12_feed_74 : decode cX12_feed 74 = .ok (.getfield 83, 3) := z_dd_180 (by decide +kernel)
theorem dX12_feed_77 : decode cX12_feed 77 = .ok (.aload_n 0, 1) := z_dd_42 (by decide +kernel)
theorem dX12_feed_78 : decode cX12_feed 78 = .ok (.getfield 253, 3) := z_dd_180 (by decide +kernel)
theorem dX12_feed_81 : decode cX12_feed 81 = .ok (.iload 7, 2) := z_dd_21 (by decide +kernel)
theorem dX12_feed_83 : decode cX12_feed 83 = .ok (.bipush 24, 2) := z_dd_16 (by decide +kernel)
theorem dX12_feed_85 : decode cX12_feed 85 = .ok (.bipush 8, 2) := z_dd_16 (by decide +kernel)
theorem dX12_feed_87 : decode cX12_feed 87 = .ok (.iload 6, 2) := z_dd_21 (by decide +kernel)
theorem dX12_feed_89 : decode cX12_feed 89 = .ok (.iconst 4, 1) := z_dd_7 (by decide +kernel)
theorem dX12_feed_90 : decode cX12_feed 90 = .ok (.irem, 1) := z_dd_112 (by decide +kernel)
theorem dX12_feed_91 : decode cX12_feed 91 = .ok (.imul, 1) := z_dd_104 (by decide +kernel)
theorem dX12_feed_92 : decode cX12_feed 92 = .ok (.isub, 1) := z_dd_100 (by decide +kernel)
theorem dX12_feed_93 : decode cX12_feed 93 = .ok (.ishr, 1) := z_dd_122 (by decide +kernel)
theorem dX12_feed_94 : decode cX12_feed 94 = .ok (.i2b, 1) := z_dd_145 (by decide +kernel)
theorem dX12_feed_95 : decode cX12_feed 95 = .ok (.bastore, 1) := z_dd_84 (by decide +kernel)
theorem dX12_feed_96 : decode cX12_feed 96 = .ok (.aload_n 0, 1) := z_dd_42 (by decide +kernel)
theorem dX12_feed_97 : decode cX12_feed 97 = .ok (.dup, 1) := z_dd_89 (by decide +kernel)
theorem dX12_feed_98 : decode cX12_feed 98 = .ok (.getfield 253, 3) := z_dd_180 (by decide +kernel)
theorem dX12_feed_101 : decode cX12_feed 101 = .ok (.iconst 1, 1) := z_dd_4 (by decide +kernel)
theorem dX12_feed_102 : decode cX12_feed 102 = .ok (.iadd, 1) := z_dd_96 (by decide +kernel)
theorem dX12_feed_103 : decode cX12_feed 103 = .ok (.putfield 253, 3) := z_dd_181 (by decide +kernel)
theorem dX12_feed_106 : decode cX12_feed 106 = .ok (.iinc 6 1, 3) := z_dd_132 (by decide +kernel)
theorem dX12_feed_109 : decode cX12_feed 109 = .ok (.goto (-91), 3) := z_dd_167 (by decide +kernel)
theorem dX12_feed_64 : decode cX12_feed 64 = .ok (.iload 4, 2) := z_dd_21 (by decide +kernel)
theorem dX12_feed_66 : decode cX12_feed 66 = .ok (.goto 5, 3) := z_dd_167 (by decide +kernel)
theorem dX12_feed_53 : decode cX12_feed 53 = .ok (.iload_n 3, 1) := z_dd_29 (by decide +kernel)
theorem dX12_feed_54 : decode cX12_feed 54 = .ok (.goto 17, 3) := z_dd_167 (by decide +kernel)
theorem dX12_feed_42 : decode cX12_feed 42 = .ok (.iload_n 2, 1) := z_dd_28 (by decide +kernel)
theorem dX12_feed_43 : decode cX12_feed 43 = .ok (.goto 28, 3) := z_dd_167 (by decide +kernel)
theorem dX12_feed_31 : decode cX12_feed 31 = .ok (.iload_n 1, 1) := z_dd_27 (by decide +kernel)
theorem dX12_feed_32 : decode cX12_feed 32 = .ok (.goto 39, 3) := z_dd_167 (by decide +kernel)
theorem dX12_feed_13 : decode cX12_feed 13 = .ok (.iconst (-1), 1) := z_dd_2 (by decide +kernel)
theorem dX12_feed_14 : decode cX12_feed 14 = .ok (.ireturn, 1) := z_dd_172 (by decide +kernel)

noncomputable def z_iro (I : z_I) : Prop := (I 0 14).toInt ≤ 24 * (I 0 13).toInt ∧ (I 0 15).toInt ≤ 505 * (I 0 13).toInt
theorem z_tw {I : z_I} {n : Nat} {B : Int} {x : Int32} (h : z_PS I n B) (hx : x.toInt = (I 0 47).toInt - 1) (hd : 0 < (I 0 47).toInt) : 0 ≤ (I 26 x.toNatClampNeg).toInt ∧ (I 26 x.toNatClampNeg).toInt ≤ 5 := by
  have h1 := z_top (z_pst h hx hd)
  have h2 := h1.2.2.2.2.2.2.2.2.2.2.2
  unfold z_fv at h2
  omega
noncomputable def L_X12_parse : z_L := [(0, 35), (0, 36), (0, 37), (0, 38), (0, 34), (0, 42), (0, 32), (0, 39), (21, 999), (22, 999), (23, 999), (0, 15), (26, 999), (27, 999), (28, 999), (29, 999), (0, 47), (0, 40)]
theorem zj_X12_parse_X12 : ∀ w ∈ wsX120, w ∈ wsX12_parse := fun w h => (List.mem_cons_of_mem _ (List.mem_append_right _ h))
set_option maxHeartbeats 8000000 in
set_option maxRecDepth 100000 in
theorem sx_X12_parse (l : Launch) (G : z_G) (ad : Nat → Nat) (I : z_I) (J : z_J) (hmp : z_imp I) (hmt : z_imt I) (hmd : z_imd I) (hmg : z_img I) (hmn : z_imn I) (hNd : z_Nd I) (hrp : z_irp I) (a1 : Int32) (q1 : 0 ≤ a1.toInt ∧ a1.toInt ≤ 5) (q2 : 1010 * (500 - (I 0 35).toInt) + 1000 * (I 0 15).toInt + 10 ≤ 6100000) : z_M l yX12_parse wsX12_parse { frames := 5, cells := 0, slots := 0, locals := 98 } [.ref (ad 0), .int a1] G (shM, ad, I, J, PM ad) (fun r u1 => ∃ (I1 : z_I) (J1 : z_J), u1 = (shM, ad, I1, J1, PM ad) ∧ z_imp I1 ∧ z_imt I1 ∧ z_imd I1 ∧ z_img I1 ∧ z_imn I1 ∧ z_Nd I1 ∧ z_irp I1 ∧ z_fr L_X12_parse I1 I ∧ (0 ≤ r.toInt ∧ r.toInt ≤ 6199 ∧ (¬ (I1 0 42).toInt = 0 ∨ 1010 * (500 - (I1 0 35).toInt) + 1000 * (I1 0 15).toInt ≤ 1010 * (500 - (I 0 35).toInt) + 1000 * (I 0 15).toInt + 10))) 0 0 := by
  intro sz
  refine z_headQ (cc := cX12_parse) (maxL := 4) (ret := (some .int)) (by decide) rfl (Nat.le_of_ble_eq_true rfl) ?_
  intro p e s m below meth c0 ls hIn hK hsz hW hl
  obtain ⟨hx, hb, hr, hml, hown, hts, hlocks, hname⟩ := hIn
  subst hsz
  have hown : s.vm.findClass RX12 = some m.cls := hown
  have hA : ∀ q : Nat, s.heap.size ≤ q → z_A (shM, ad, I, J, PM ad) s.heap.size q := fun q h => Or.inr h
  generalize hAe : z_A (shM, ad, I, J, PM ad) s.heap.size = A at *
  have hS : va_S A s.heap s.heap [] := va_S.rf
  have hl : lv_has ls 4 [(0, .ref (ad 0)), (1, .int a1)] := hl
  have krp : 0 ≤ (I 0 35).toInt ∧ (I 0 35).toInt ≤ (I 0 34).toInt ∧ (I 0 34).toInt ≤ (I 0 33).toInt ∧ (I 0 33).toInt ≤ 500 ∧ ((I 0 36).toInt = 0 ∨ (I 0 35).toInt + 1 ≤ (I 0 34).toInt) := hrp
  refine lv_aload_n hx hb dX12_parse_0 rfl (lv_at hl 0 rfl) ?_
  refine lv_iconst (v := 0) hx hb dX12_parse_1 (by decide) ?_
  refine z_put (T := TX12) (N := 96) (ci := 12) (i := 0) (v := .int 0) (I1 := z_up I 0 47 0) (J1 := J) (P1 := PM ad) hx hb hts zj_X12_parse_X12 tyX12 tyX12_ok nmX12 hown hK hW hS rfl rfl 47 (by decide) (hts (.fieldLink RX12 340 "PetrolBoardModel" "deep" "I") (me_s (me_l (me_l (List.mem_of_getElem? (i := 0) rfl))))) (fun _ h => h) rfl rfl rfl (by first | rfl | exact congrArg _ z_up_s) (fun a b h ty => z_vI h ty) dX12_parse_2 (fun H locs hz1 hW hS => ?_)
  obtain ⟨I1, eI1⟩ : ∃ K : z_I, K = z_up I 0 47 0 := ⟨_, rfl⟩
  rw [← eI1] at hW
  have f2 := z_fr_k z_fr_0 (show z_wr L_X12_parse 0 47 = true by decide) eI1
  have a3 := z_Nd_n hNd (by decide) eI1
  refine lv_aload_n hx hb dX12_parse_5 rfl (lv_at hl 0 rfl) ?_
  refine lv_iconst (v := 0) hx hb dX12_parse_6 (by decide) ?_
  refine z_put (T := TX12) (N := 96) (ci := 12) (i := 0) (v := .int 0) (I1 := z_up I1 0 39 0) (J1 := J) (P1 := PM ad) hx hb hts zj_X12_parse_X12 tyX12 tyX12_ok nmX12 hown hK hW hS rfl rfl 39 (by decide) (hts (.fieldLink RX12 346 "PetrolBoardModel" "open" "I") (me_s (me_l (me_l (List.mem_of_getElem? (i := 1) rfl))))) (fun _ h => h) rfl rfl rfl (by first | rfl | exact congrArg _ z_up_s) (fun a b h ty => z_vI h ty) dX12_parse_7 (fun H locs hz1 hW hS => ?_)
  obtain ⟨I4, eI4⟩ : ∃ K : z_I, K = z_up I1 0 39 0 := ⟨_, rfl⟩
  rw [← eI4] at hW
  have f5 := z_fr_k f2 (show z_wr L_X12_parse 0 39 = true by decide) eI4
  have a6 := z_Nd_n a3 (by decide) eI4
  refine lv_aload_n hx hb dX12_parse_10 rfl (lv_at hl 0 rfl) ?_
  refine lv_iload_n hx hb dX12_parse_11 rfl (lv_at hl 1 rfl) ?_
  refine z_cv hW hS hA (va_runV (As := [.int a1]) (rest := []) ⟨hx, hb, hml, hown, hts⟩ (sx_X12_begin l G ad I4 J ⟨(by show 0 ≤ (I4 0 47).toInt ∧ (I4 0 47).toInt ≤ 119; rw [eI4, z_up_k (by decide), eI1, z_up_s]; decide), (by show 0 ≤ (I4 0 39).toInt ∧ (I4 0 39).toInt ≤ 100; rw [eI4, z_up_s]; decide)⟩ a1 (by have q0 : (I4 0 47) = 0 := (by rw [eI4, z_up_k (by decide), eI1, z_up_s]); have z0 := z_l0; show (I4 0 47).toInt ≤ 118; rw [q0]; omega) _) (cwV 1 hts gX12_parse_X12_begin rfl rfl rfl hy_X12_begin ⟨Nat.le_of_ble_eq_true rfl, Nat.le_of_ble_eq_true rfl⟩) (z_preV (i := 0) hK hW rfl rfl) rfl rfl hl.1 rfl (lv_room (Nat.le_of_ble_eq_true rfl)) dX12_parse_12 ⟨Nat.le_of_ble_eq_true rfl, Nat.le_of_ble_eq_true rfl⟩) (fun u1 H locs hp hW hS => ?_)
  obtain ⟨I7, J9, e9, hI7md, fI7, hp⟩ := hp
  rw [e9] at hW
  have f8 := z_fr_sub (L := L_X12_parse) f5 fI7 (by decide)
  have k10 : 0 ≤ (I7 0 31).toInt ∧ (I7 0 31).toInt ≤ 500 := by rw [fI7 0 31 (by decide)]; exact (by show 0 ≤ (I4 0 31).toInt ∧ (I4 0 31).toInt ≤ 500; rw [eI4, z_up_k (by decide), eI1, z_up_k (by decide)]; exact hmp.1)
  have k11 : 0 ≤ (I7 0 33).toInt ∧ (I7 0 33).toInt ≤ 500 := by rw [fI7 0 33 (by decide)]; exact (by show 0 ≤ (I4 0 33).toInt ∧ (I4 0 33).toInt ≤ 500; rw [eI4, z_up_k (by decide), eI1, z_up_k (by decide)]; exact hmp.2.1)
  have k12 : 0 ≤ (I7 0 34).toInt ∧ (I7 0 34).toInt ≤ 500 := by rw [fI7 0 34 (by decide)]; exact (by show 0 ≤ (I4 0 34).toInt ∧ (I4 0 34).toInt ≤ 500; rw [eI4, z_up_k (by decide), eI1, z_up_k (by decide)]; exact hmp.2.2.1)
  have k13 : 0 ≤ (I7 0 35).toInt ∧ (I7 0 35).toInt ≤ 500 := by rw [fI7 0 35 (by decide)]; exact (by show 0 ≤ (I4 0 35).toInt ∧ (I4 0 35).toInt ≤ 500; rw [eI4, z_up_k (by decide), eI1, z_up_k (by decide)]; exact hmp.2.2.2)
  have k14 : 0 ≤ (I7 0 36).toInt ∧ (I7 0 36).toInt ≤ 4 := by rw [fI7 0 36 (by decide)]; exact (by show 0 ≤ (I4 0 36).toInt ∧ (I4 0 36).toInt ≤ 4; rw [eI4, z_up_k (by decide), eI1, z_up_k (by decide)]; exact hmt.1)
  have k15 : 0 ≤ (I7 0 42).toInt ∧ (I7 0 42).toInt ≤ 1 := by rw [fI7 0 42 (by decide)]; exact (by show 0 ≤ (I4 0 42).toInt ∧ (I4 0 42).toInt ≤ 1; rw [eI4, z_up_k (by decide), eI1, z_up_k (by decide)]; exact hmt.2)
  have k16 : (I7 0 39).toInt = 0 := by rw [fI7 0 39 (by decide), eI4, z_up_s]; exact z_l0
  have k17 : 0 ≤ (I7 0 40).toInt ∧ (I7 0 40).toInt ≤ 6199 := by rw [fI7 0 40 (by decide)]; exact (by show 0 ≤ (I4 0 40).toInt ∧ (I4 0 40).toInt ≤ 6199; rw [eI4, z_up_k (by decide), eI1, z_up_k (by decide)]; exact hmg)
  have k18 : 0 ≤ (I7 0 15).toInt ∧ (I7 0 15).toInt ≤ 6100 := by rw [fI7 0 15 (by decide)]; exact (by show 0 ≤ (I4 0 15).toInt ∧ (I4 0 15).toInt ≤ 6100; rw [eI4, z_up_k (by decide), eI1, z_up_k (by decide)]; exact hmn)
  have k19 : 0 ≤ (I7 0 35).toInt ∧ (I7 0 35).toInt ≤ (I7 0 34).toInt ∧ (I7 0 34).toInt ≤ (I7 0 33).toInt ∧ (I7 0 33).toInt ≤ 500 ∧ ((I7 0 36).toInt = 0 ∨ (I7 0 35).toInt + 1 ≤ (I7 0 34).toInt) := (by have q0 : (I7 0 35) = (I 0 35) := (by rw [fI7 0 35 (by decide), eI4, z_up_k (by decide), eI1, z_up_k (by decide)]); have q1 : (I7 0 34) = (I 0 34) := (by rw [fI7 0 34 (by decide), eI4, z_up_k (by decide), eI1, z_up_k (by decide)]); have q2 : (I7 0 33) = (I 0 33) := (by rw [fI7 0 33 (by decide), eI4, z_up_k (by decide), eI1, z_up_k (by decide)]); have q3 : (I7 0 36) = (I 0 36) := (by rw [fI7 0 36 (by decide), eI4, z_up_k (by decide), eI1, z_up_k (by decide)]); show 0 ≤ (I7 0 35).toInt ∧ (I7 0 35).toInt ≤ (I7 0 34).toInt ∧ (I7 0 34).toInt ≤ (I7 0 33).toInt ∧ (I7 0 33).toInt ≤ 500 ∧ ((I7 0 36).toInt = 0 ∨ (I7 0 35).toInt + 1 ≤ (I7 0 34).toInt); rw [q0, q1, q2, q3]; first | omega | decide)
  have k20 : (I7 0 35).toInt = (I 0 35).toInt := by rw [fI7 0 35 (by decide), eI4, z_up_k (by decide), eI1, z_up_k (by decide)]
  have k21 : (I7 0 34).toInt = (I 0 34).toInt := by rw [fI7 0 34 (by decide), eI4, z_up_k (by decide), eI1, z_up_k (by decide)]
  have k22 : (I7 0 36).toInt = (I 0 36).toInt := by rw [fI7 0 36 (by decide), eI4, z_up_k (by decide), eI1, z_up_k (by decide)]
  have k23 : (I7 0 42).toInt = (I 0 42).toInt := by rw [fI7 0 42 (by decide), eI4, z_up_k (by decide), eI1, z_up_k (by decide)]
  have k24 : (I7 0 39).toInt = 0 := by rw [fI7 0 39 (by decide), eI4, z_up_s]; exact z_l0
  have k25 : (I7 0 15).toInt = (I 0 15).toInt := by rw [fI7 0 15 (by decide), eI4, z_up_k (by decide), eI1, z_up_k (by decide)]
  have k26 : (I7 0 40).toInt = (I 0 40).toInt := by rw [fI7 0 40 (by decide), eI4, z_up_k (by decide), eI1, z_up_k (by decide)]
  have h27 := hp
  have lp28 : ∀ (f : Nat)  (I29 : z_I) (J30 : z_J) (H : Heap) (locs : List Loc) (ls : Array Slot), ((¬ (I29 0 42).toInt = 0 ∧ 1 ≤ f) ∨ ∃ n B, z_PS I29 n B ∧ B + 2 ≤ (f : Int) ∧ B ≤ 1010 * (500 - (I 0 35).toInt) + 1000 * (I 0 15).toInt + 10) → (z_imp I29) → (z_imt I29) → (z_imd I29) → (z_img I29) → (z_imn I29) → (z_Nd I29) → (z_irp I29) → (z_fr L_X12_parse I29 I) → z_W G A (shM, ad, I29, J30, PM ad) H → va_S A s.heap H locs → lv_has ls 4 [(0, .ref (ad 0)), (1, .int a1)] → W p l e (headSpec wsX12_parse { frames := 5, cells := 0, slots := 0, locals := 98 }).room s m ([.ref (ad 0), .int a1] : List Value).toArray below meth c0 H locs 0 0 (MQ below (va_Qi (fun (r : Int32) (u1 : z_U) => ∃ (I1 : z_I) (J1 : z_J), u1 = (shM, ad, I1, J1, PM ad) ∧ z_imp I1 ∧ z_imt I1 ∧ z_imd I1 ∧ z_img I1 ∧ z_imn I1 ∧ z_Nd I1 ∧ z_irp I1 ∧ z_fr L_X12_parse I1 I ∧ (0 ≤ r.toInt ∧ r.toInt ≤ 6199 ∧ (¬ (I1 0 42).toInt = 0 ∨ 1010 * (500 - (I1 0 35).toInt) + 1000 * (I1 0 15).toInt ≤ 1010 * (500 - (I 0 35).toInt) + 1000 * (I 0 15).toInt + 10))) (z_B G A) A) ([.ref (ad 0), .int a1] : List Value).toArray s 0 0 A) (F0 m 15 ls []) := by
    intro f
    induction f with
    | zero => intro  I29 J30 H locs ls lp28m lp28mp lp28mt lp28md lp28mg lp28mn lp28Nd lp28rp lp28fr hW hS hl; exact False.elim (by rcases lp28m with q | ⟨n, B, q1, q2, q3⟩; (· omega); (· (have := z_psn q1; omega)))
    | succ f lp28ih =>
      intro  I29 J30 H locs ls lp28m lp28mp lp28mt lp28md lp28mg lp28mn lp28Nd lp28rp lp28fr hW hS hl
      have k31 : 0 ≤ (I29 0 35).toInt ∧ (I29 0 35).toInt ≤ (I29 0 34).toInt ∧ (I29 0 34).toInt ≤ (I29 0 33).toInt ∧ (I29 0 33).toInt ≤ 500 ∧ ((I29 0 36).toInt = 0 ∨ (I29 0 35).toInt + 1 ≤ (I29 0 34).toInt) := lp28rp
      refine lv_aload_n hx hb dX12_parse_15 rfl (lv_at hl 0 rfl) ?_
      have r32 : 0 ≤ (I29 0 47).toInt ∧ (I29 0 47).toInt ≤ 119 := lp28md.1
      refine z_get (T := TX12) (N := 96) (ci := 12) (i := 0) (v := .int (I29 0 47)) hx hb hts zj_X12_parse_X12 hown hK hW rfl rfl 47 (by decide) (hts (.fieldLink RX12 340 "PetrolBoardModel" "deep" "I") (me_s (me_l (me_l (List.mem_of_getElem? (i := 0) rfl))))) (fun _ h => h) rfl dX12_parse_16 ?_
      refine lv_if_le (tgt := 109) hx hb dX12_parse_19 (by decide) (fun c33 => ?_) (fun c33 => ?_)
      · have g34 := z_f_le rfl z_l0 c33
        refine lv_aload_n hx hb dX12_parse_109 rfl (lv_at hl 0 rfl) ?_
        have r35 : 0 ≤ (I29 0 40).toInt ∧ (I29 0 40).toInt ≤ 6199 := lp28mg
        refine z_get (T := TX12) (N := 96) (ci := 12) (i := 0) (v := .int (I29 0 40)) hx hb hts zj_X12_parse_X12 hown hK hW rfl rfl 40 (by decide) (hts (.fieldLink RX12 343 "PetrolBoardModel" "got" "I") (me_s (me_l (me_l (List.mem_of_getElem? (i := 4) rfl))))) (fun _ h => h) rfl dX12_parse_110 ?_
        exact z_iret hx hb hr hK hS (Nat.le_of_ble_eq_true rfl) (Nat.le_of_ble_eq_true rfl) hlocks dX12_parse_113 (shM, ad, I29, J30, PM ad) hW ⟨I29, J30, rfl, ⟨(by show 0 ≤ (I29 0 31).toInt ∧ (I29 0 31).toInt ≤ 500; exact lp28mp.1), (by show 0 ≤ (I29 0 33).toInt ∧ (I29 0 33).toInt ≤ 500; exact lp28mp.2.1), (by show 0 ≤ (I29 0 34).toInt ∧ (I29 0 34).toInt ≤ 500; exact lp28mp.2.2.1), (by show 0 ≤ (I29 0 35).toInt ∧ (I29 0 35).toInt ≤ 500; exact lp28mp.2.2.2)⟩, ⟨(by show 0 ≤ (I29 0 36).toInt ∧ (I29 0 36).toInt ≤ 4; exact lp28mt.1), (by show 0 ≤ (I29 0 42).toInt ∧ (I29 0 42).toInt ≤ 1; exact lp28mt.2)⟩, ⟨(by show 0 ≤ (I29 0 47).toInt ∧ (I29 0 47).toInt ≤ 119; exact lp28md.1), (by show 0 ≤ (I29 0 39).toInt ∧ (I29 0 39).toInt ≤ 100; exact lp28md.2)⟩, (by show 0 ≤ (I29 0 40).toInt ∧ (I29 0 40).toInt ≤ 6199; exact lp28mg), (by show 0 ≤ (I29 0 15).toInt ∧ (I29 0 15).toInt ≤ 6100; exact lp28mn), lp28Nd, (by show 0 ≤ (I29 0 35).toInt ∧ (I29 0 35).toInt ≤ (I29 0 34).toInt ∧ (I29 0 34).toInt ≤ (I29 0 33).toInt ∧ (I29 0 33).toInt ≤ 500 ∧ ((I29 0 36).toInt = 0 ∨ (I29 0 35).toInt + 1 ≤ (I29 0 34).toInt); first | omega | decide), lp28fr, ⟨by omega, by omega, (lp28m).elim (fun q => Or.inl q.1) (fun ⟨n, B, q, _, hb⟩ => Or.inr (by have := z_psn q; omega))⟩⟩
      · have g36 := z_f_nle rfl z_l0 c33
        refine lv_aload_n hx hb dX12_parse_22 rfl (lv_at hl 0 rfl) ?_
        have r37 : 0 ≤ (I29 0 42).toInt ∧ (I29 0 42).toInt ≤ 1 := lp28mt.2
        refine z_get (T := TX12) (N := 96) (ci := 12) (i := 0) (v := .int (I29 0 42)) hx hb hts zj_X12_parse_X12 hown hK hW rfl rfl 42 (by decide) (hts (.fieldLink RX12 294 "PetrolBoardModel" "isWrong" "Z") (me_s (me_l (me_l (List.mem_of_getElem? (i := 2) rfl))))) (fun _ h => h) rfl dX12_parse_23 ?_
        refine lv_if_ne (tgt := 109) hx hb dX12_parse_26 (by decide) (fun c38 => ?_) (fun c38 => ?_)
        · have g39 := z_f_ne rfl z_l0 c38
          refine lv_aload_n hx hb dX12_parse_109 rfl (lv_at hl 0 rfl) ?_
          have r40 : 0 ≤ (I29 0 40).toInt ∧ (I29 0 40).toInt ≤ 6199 := lp28mg
          refine z_get (T := TX12) (N := 96) (ci := 12) (i := 0) (v := .int (I29 0 40)) hx hb hts zj_X12_parse_X12 hown hK hW rfl rfl 40 (by decide) (hts (.fieldLink RX12 343 "PetrolBoardModel" "got" "I") (me_s (me_l (me_l (List.mem_of_getElem? (i := 4) rfl))))) (fun _ h => h) rfl dX12_parse_110 ?_
          exact z_iret hx hb hr hK hS (Nat.le_of_ble_eq_true rfl) (Nat.le_of_ble_eq_true rfl) hlocks dX12_parse_113 (shM, ad, I29, J30, PM ad) hW ⟨I29, J30, rfl, ⟨(by show 0 ≤ (I29 0 31).toInt ∧ (I29 0 31).toInt ≤ 500; exact lp28mp.1), (by show 0 ≤ (I29 0 33).toInt ∧ (I29 0 33).toInt ≤ 500; exact lp28mp.2.1), (by show 0 ≤ (I29 0 34).toInt ∧ (I29 0 34).toInt ≤ 500; exact lp28mp.2.2.1), (by show 0 ≤ (I29 0 35).toInt ∧ (I29 0 35).toInt ≤ 500; exact lp28mp.2.2.2)⟩, ⟨(by show 0 ≤ (I29 0 36).toInt ∧ (I29 0 36).toInt ≤ 4; exact lp28mt.1), (by show 0 ≤ (I29 0 42).toInt ∧ (I29 0 42).toInt ≤ 1; exact lp28mt.2)⟩, ⟨(by show 0 ≤ (I29 0 47).toInt ∧ (I29 0 47).toInt ≤ 119; exact lp28md.1), (by show 0 ≤ (I29 0 39).toInt ∧ (I29 0 39).toInt ≤ 100; exact lp28md.2)⟩, (by show 0 ≤ (I29 0 40).toInt ∧ (I29 0 40).toInt ≤ 6199; exact lp28mg), (by show 0 ≤ (I29 0 15).toInt ∧ (I29 0 15).toInt ≤ 6100; exact lp28mn), lp28Nd, (by show 0 ≤ (I29 0 35).toInt ∧ (I29 0 35).toInt ≤ (I29 0 34).toInt ∧ (I29 0 34).toInt ≤ (I29 0 33).toInt ∧ (I29 0 33).toInt ≤ 500 ∧ ((I29 0 36).toInt = 0 ∨ (I29 0 35).toInt + 1 ≤ (I29 0 34).toInt); first | omega | decide), lp28fr, ⟨by omega, by omega, (lp28m).elim (fun q => Or.inl q.1) (fun ⟨n, B, q, _, hb⟩ => Or.inr (by have := z_psn q; omega))⟩⟩
        · have g41 := z_f_eq rfl z_l0 c38
          obtain ⟨n9, B9, hP9, hf9, hb9⟩ := (lp28m).resolve_left (fun q => q.1 (by omega))
          have hN9 := z_psn hP9
          refine lv_aload_n hx hb dX12_parse_29 rfl (lv_at hl 0 rfl) ?_
          refine z_get (T := TX12) (N := 96) (ci := 12) (i := 0) (v := .int (I29 0 47)) hx hb hts zj_X12_parse_X12 hown hK hW rfl rfl 47 (by decide) (hts (.fieldLink RX12 340 "PetrolBoardModel" "deep" "I") (me_s (me_l (me_l (List.mem_of_getElem? (i := 0) rfl))))) (fun _ h => h) rfl dX12_parse_30 ?_
          refine lv_iconst (v := 1) hx hb dX12_parse_33 (by decide) ?_
          refine lv_isub hx hb dX12_parse_34 ?_
          refine lv_topi (fun x42 ex42 => ?_)
          have tx42 : x42.toInt = (I29 0 47).toInt - 1 := z_tsub ex42 rfl z_l1 (by omega) (by omega)
          refine lv_istore_n (lv' := [(2, .int x42), (0, .ref (ad 0)), (1, .int a1)]) hx hb dX12_parse_35 rfl hl (by decide) rfl (fun ls hl => ?_)
          refine lv_aload_n hx hb dX12_parse_36 rfl (lv_at hl 1 rfl) ?_
          refine z_get (T := TX12) (N := 96) (ci := 12) (i := 0) (v := .ref (ad 26)) hx hb hts zj_X12_parse_X12 hown hK hW rfl rfl 43 (by decide) (hts (.fieldLink RX12 91 "PetrolBoardModel" "what" "[I") (me_s (me_l (me_l (List.mem_of_getElem? (i := 3) rfl))))) (fun _ h => h) rfl dX12_parse_37 ?_
          refine lv_iload_n hx hb dX12_parse_40 rfl (lv_at hl 0 rfl) ?_
          refine z_iald (i := 26) hx hb hK hW rfl (z_ix rfl (by omega) (by omega)) dX12_parse_41 ?_
          refine lv_topi (fun x43 ex43 => ?_)
          have h44 := z_tw hP9 tx42 (by omega)
          rw [← ex43] at h44
          refine lv_istore_n (lv' := [(3, .int x43), (2, .int x42), (0, .ref (ad 0)), (1, .int a1)]) hx hb dX12_parse_42 rfl hl (by decide) rfl (fun ls hl => ?_)
          refine lv_iload_n hx hb dX12_parse_43 rfl (lv_at hl 0 rfl) ?_
          refine lv_iconst (v := 2) hx hb dX12_parse_44 (by decide) ?_
          refine lv_icmp_ge (tgt := 65) hx hb dX12_parse_45 (by decide) (fun c45 => ?_) (fun c45 => ?_)
          · have g46 := z_f_ge rfl z_l2 c45
            refine lv_iload_n hx hb dX12_parse_65 rfl (lv_at hl 0 rfl) ?_
            refine lv_iconst (v := 2) hx hb dX12_parse_66 (by decide) ?_
            refine lv_icmp_ne (tgt := 78) hx hb dX12_parse_67 (by decide) (fun c47 => ?_) (fun c47 => ?_)
            · have g48 := z_f_ne rfl z_l2 c47
              refine lv_iload_n hx hb dX12_parse_78 rfl (lv_at hl 0 rfl) ?_
              refine lv_iconst (v := 5) hx hb dX12_parse_79 (by decide) ?_
              refine lv_icmp_ge (tgt := 101) hx hb dX12_parse_80 (by decide) (fun c49 => ?_) (fun c49 => ?_)
              · have g50 := z_f_ge rfl z_l5 c49
                refine lv_aload_n hx hb dX12_parse_101 rfl (lv_at hl 2 rfl) ?_
                refine lv_iload_n hx hb dX12_parse_102 rfl (lv_at hl 1 rfl) ?_
                refine z_cv hW hS hA (va_runV (As := [.int x42]) (rest := []) ⟨hx, hb, hml, hown, hts⟩ (sx_X12_test l G ad I29 J30 ⟨(by show 0 ≤ (I29 0 31).toInt ∧ (I29 0 31).toInt ≤ 500; exact lp28mp.1), (by show 0 ≤ (I29 0 33).toInt ∧ (I29 0 33).toInt ≤ 500; exact lp28mp.2.1), (by show 0 ≤ (I29 0 34).toInt ∧ (I29 0 34).toInt ≤ 500; exact lp28mp.2.2.1), (by show 0 ≤ (I29 0 35).toInt ∧ (I29 0 35).toInt ≤ 500; exact lp28mp.2.2.2)⟩ ⟨(by show 0 ≤ (I29 0 36).toInt ∧ (I29 0 36).toInt ≤ 4; exact lp28mt.1), (by show 0 ≤ (I29 0 42).toInt ∧ (I29 0 42).toInt ≤ 1; exact lp28mt.2)⟩ ⟨(by show 0 ≤ (I29 0 47).toInt ∧ (I29 0 47).toInt ≤ 119; exact lp28md.1), (by show 0 ≤ (I29 0 39).toInt ∧ (I29 0 39).toInt ≤ 100; exact lp28md.2)⟩ (by show 0 ≤ (I29 0 40).toInt ∧ (I29 0 40).toInt ≤ 6199; exact lp28mg) (by show 0 ≤ (I29 0 15).toInt ∧ (I29 0 15).toInt ≤ 6100; exact lp28mn) lp28Nd (by show 0 ≤ (I29 0 35).toInt ∧ (I29 0 35).toInt ≤ (I29 0 34).toInt ∧ (I29 0 34).toInt ≤ (I29 0 33).toInt ∧ (I29 0 33).toInt ≤ 500 ∧ ((I29 0 36).toInt = 0 ∨ (I29 0 35).toInt + 1 ≤ (I29 0 34).toInt); first | omega | decide) B9 x42 ⟨by omega, by omega⟩ (by rw [← ex43]; omega) (z_pst hP9 tx42 (by omega)) _) (cwV 1 hts gX12_parse_X12_test rfl rfl rfl hy_X12_test ⟨Nat.le_of_ble_eq_true rfl, Nat.le_of_ble_eq_true rfl⟩) (z_preV (i := 0) hK hW rfl rfl) rfl rfl hl.1 rfl (lv_room (Nat.le_of_ble_eq_true rfl)) dX12_parse_103 ⟨Nat.le_of_ble_eq_true rfl, Nat.le_of_ble_eq_true rfl⟩) (fun u1 H locs hp hW hS => ?_)
                obtain ⟨I51, J53, e9, hI51mp, hI51mt, hI51md, hI51mg, hI51mn, hI51Nd, hI51rp, fI51, hp⟩ := hp
                rw [e9] at hW
                have f52 := z_fr_sub (L := L_X12_parse) lp28fr fI51 (by decide)
                have k54 : 0 ≤ (I51 0 35).toInt ∧ (I51 0 35).toInt ≤ (I51 0 34).toInt ∧ (I51 0 34).toInt ≤ (I51 0 33).toInt ∧ (I51 0 33).toInt ≤ 500 ∧ ((I51 0 36).toInt = 0 ∨ (I51 0 35).toInt + 1 ≤ (I51 0 34).toInt) := hI51rp
                have hst := hp
                refine lv_goto (tgt := 15) hx hb dX12_parse_106 (by decide) ?_
                exact lp28ih  I51 J53 _ _ _ (hst.elim (fun q => Or.inl ⟨q, by omega⟩) (fun ⟨n, q⟩ => Or.inr ⟨n, B9 - 1, q, by omega, by omega⟩)) ⟨(by show 0 ≤ (I51 0 31).toInt ∧ (I51 0 31).toInt ≤ 500; exact hI51mp.1), (by show 0 ≤ (I51 0 33).toInt ∧ (I51 0 33).toInt ≤ 500; exact hI51mp.2.1), (by show 0 ≤ (I51 0 34).toInt ∧ (I51 0 34).toInt ≤ 500; exact hI51mp.2.2.1), (by show 0 ≤ (I51 0 35).toInt ∧ (I51 0 35).toInt ≤ 500; exact hI51mp.2.2.2)⟩ ⟨(by show 0 ≤ (I51 0 36).toInt ∧ (I51 0 36).toInt ≤ 4; exact hI51mt.1), (by show 0 ≤ (I51 0 42).toInt ∧ (I51 0 42).toInt ≤ 1; exact hI51mt.2)⟩ ⟨(by show 0 ≤ (I51 0 47).toInt ∧ (I51 0 47).toInt ≤ 119; exact hI51md.1), (by show 0 ≤ (I51 0 39).toInt ∧ (I51 0 39).toInt ≤ 100; exact hI51md.2)⟩ (by show 0 ≤ (I51 0 40).toInt ∧ (I51 0 40).toInt ≤ 6199; exact hI51mg) (by show 0 ≤ (I51 0 15).toInt ∧ (I51 0 15).toInt ≤ 6100; exact hI51mn) hI51Nd (by show 0 ≤ (I51 0 35).toInt ∧ (I51 0 35).toInt ≤ (I51 0 34).toInt ∧ (I51 0 34).toInt ≤ (I51 0 33).toInt ∧ (I51 0 33).toInt ≤ 500 ∧ ((I51 0 36).toInt = 0 ∨ (I51 0 35).toInt + 1 ≤ (I51 0 34).toInt); first | omega | decide) f52 hW hS (lv_sub hl [2, 3] rfl)
              · have g55 := z_f_nge rfl z_l5 c49
                refine lv_aload_n hx hb dX12_parse_83 rfl (lv_at hl 2 rfl) ?_
                refine lv_iload_n hx hb dX12_parse_84 rfl (lv_at hl 1 rfl) ?_
                refine lv_iload_n hx hb dX12_parse_85 rfl (lv_at hl 0 rfl) ?_
                refine lv_iconst (v := 3) hx hb dX12_parse_86 (by decide) ?_
                refine lv_icmp_ne (tgt := 94) hx hb dX12_parse_87 (by decide) (fun c56 => ?_) (fun c56 => ?_)
                · have g57 := z_f_ne rfl z_l3 c56
                  refine lv_iconst (v := 0) hx hb dX12_parse_94 (by decide) ?_
                  refine z_cv hW hS hA (va_runV (As := [.int x42, .int 0]) (rest := []) ⟨hx, hb, hml, hown, hts⟩ (sx_X12_chain_0 l G ad I29 J30 ⟨(by show 0 ≤ (I29 0 31).toInt ∧ (I29 0 31).toInt ≤ 500; exact lp28mp.1), (by show 0 ≤ (I29 0 33).toInt ∧ (I29 0 33).toInt ≤ 500; exact lp28mp.2.1), (by show 0 ≤ (I29 0 34).toInt ∧ (I29 0 34).toInt ≤ 500; exact lp28mp.2.2.1), (by show 0 ≤ (I29 0 35).toInt ∧ (I29 0 35).toInt ≤ 500; exact lp28mp.2.2.2)⟩ ⟨(by show 0 ≤ (I29 0 36).toInt ∧ (I29 0 36).toInt ≤ 4; exact lp28mt.1), (by show 0 ≤ (I29 0 42).toInt ∧ (I29 0 42).toInt ≤ 1; exact lp28mt.2)⟩ ⟨(by show 0 ≤ (I29 0 47).toInt ∧ (I29 0 47).toInt ≤ 119; exact lp28md.1), (by show 0 ≤ (I29 0 39).toInt ∧ (I29 0 39).toInt ≤ 100; exact lp28md.2)⟩ (by show 0 ≤ (I29 0 40).toInt ∧ (I29 0 40).toInt ≤ 6199; exact lp28mg) (by show 0 ≤ (I29 0 15).toInt ∧ (I29 0 15).toInt ≤ 6100; exact lp28mn) lp28Nd (by show 0 ≤ (I29 0 35).toInt ∧ (I29 0 35).toInt ≤ (I29 0 34).toInt ∧ (I29 0 34).toInt ≤ (I29 0 33).toInt ∧ (I29 0 33).toInt ≤ 500 ∧ ((I29 0 36).toInt = 0 ∨ (I29 0 35).toInt + 1 ≤ (I29 0 34).toInt); first | omega | decide) B9 x42 ⟨by omega, by omega⟩ (by rw [← ex43]; omega) (z_pst hP9 tx42 (by omega)) _) (cwV 2 hts gX12_parse_X12_chain rfl rfl rfl hy_X12_chain ⟨Nat.le_of_ble_eq_true rfl, Nat.le_of_ble_eq_true rfl⟩) (z_preV (i := 0) hK hW rfl rfl) rfl rfl hl.1 rfl (lv_room (Nat.le_of_ble_eq_true rfl)) dX12_parse_95 ⟨Nat.le_of_ble_eq_true rfl, Nat.le_of_ble_eq_true rfl⟩) (fun u1 H locs hp hW hS => ?_)
                  obtain ⟨I58, J60, e9, hI58mp, hI58mt, hI58md, hI58mg, hI58mn, hI58Nd, hI58rp, fI58, hp⟩ := hp
                  rw [e9] at hW
                  have f59 := z_fr_sub (L := L_X12_parse) lp28fr fI58 (by decide)
                  have k61 : 0 ≤ (I58 0 35).toInt ∧ (I58 0 35).toInt ≤ (I58 0 34).toInt ∧ (I58 0 34).toInt ≤ (I58 0 33).toInt ∧ (I58 0 33).toInt ≤ 500 ∧ ((I58 0 36).toInt = 0 ∨ (I58 0 35).toInt + 1 ≤ (I58 0 34).toInt) := hI58rp
                  have hst := hp
                  refine lv_goto (tgt := 106) hx hb dX12_parse_98 (by decide) ?_
                  refine lv_goto (tgt := 15) hx hb dX12_parse_106 (by decide) ?_
                  exact lp28ih  I58 J60 _ _ _ (hst.elim (fun q => Or.inl ⟨q, by omega⟩) (fun ⟨n, q⟩ => Or.inr ⟨n, B9 - 1, q, by omega, by omega⟩)) ⟨(by show 0 ≤ (I58 0 31).toInt ∧ (I58 0 31).toInt ≤ 500; exact hI58mp.1), (by show 0 ≤ (I58 0 33).toInt ∧ (I58 0 33).toInt ≤ 500; exact hI58mp.2.1), (by show 0 ≤ (I58 0 34).toInt ∧ (I58 0 34).toInt ≤ 500; exact hI58mp.2.2.1), (by show 0 ≤ (I58 0 35).toInt ∧ (I58 0 35).toInt ≤ 500; exact hI58mp.2.2.2)⟩ ⟨(by show 0 ≤ (I58 0 36).toInt ∧ (I58 0 36).toInt ≤ 4; exact hI58mt.1), (by show 0 ≤ (I58 0 42).toInt ∧ (I58 0 42).toInt ≤ 1; exact hI58mt.2)⟩ ⟨(by show 0 ≤ (I58 0 47).toInt ∧ (I58 0 47).toInt ≤ 119; exact hI58md.1), (by show 0 ≤ (I58 0 39).toInt ∧ (I58 0 39).toInt ≤ 100; exact hI58md.2)⟩ (by show 0 ≤ (I58 0 40).toInt ∧ (I58 0 40).toInt ≤ 6199; exact hI58mg) (by show 0 ≤ (I58 0 15).toInt ∧ (I58 0 15).toInt ≤ 6100; exact hI58mn) hI58Nd (by show 0 ≤ (I58 0 35).toInt ∧ (I58 0 35).toInt ≤ (I58 0 34).toInt ∧ (I58 0 34).toInt ≤ (I58 0 33).toInt ∧ (I58 0 33).toInt ≤ 500 ∧ ((I58 0 36).toInt = 0 ∨ (I58 0 35).toInt + 1 ≤ (I58 0 34).toInt); first | omega | decide) f59 hW hS (lv_sub hl [2, 3] rfl)
                · have g62 := z_f_eq rfl z_l3 c56
                  refine lv_iconst (v := 1) hx hb dX12_parse_90 (by decide) ?_
                  refine lv_goto (tgt := 95) hx hb dX12_parse_91 (by decide) ?_
                  refine z_cv hW hS hA (va_runV (As := [.int x42, .int 1]) (rest := []) ⟨hx, hb, hml, hown, hts⟩ (sx_X12_chain_1 l G ad I29 J30 ⟨(by show 0 ≤ (I29 0 31).toInt ∧ (I29 0 31).toInt ≤ 500; exact lp28mp.1), (by show 0 ≤ (I29 0 33).toInt ∧ (I29 0 33).toInt ≤ 500; exact lp28mp.2.1), (by show 0 ≤ (I29 0 34).toInt ∧ (I29 0 34).toInt ≤ 500; exact lp28mp.2.2.1), (by show 0 ≤ (I29 0 35).toInt ∧ (I29 0 35).toInt ≤ 500; exact lp28mp.2.2.2)⟩ ⟨(by show 0 ≤ (I29 0 36).toInt ∧ (I29 0 36).toInt ≤ 4; exact lp28mt.1), (by show 0 ≤ (I29 0 42).toInt ∧ (I29 0 42).toInt ≤ 1; exact lp28mt.2)⟩ ⟨(by show 0 ≤ (I29 0 47).toInt ∧ (I29 0 47).toInt ≤ 119; exact lp28md.1), (by show 0 ≤ (I29 0 39).toInt ∧ (I29 0 39).toInt ≤ 100; exact lp28md.2)⟩ (by show 0 ≤ (I29 0 40).toInt ∧ (I29 0 40).toInt ≤ 6199; exact lp28mg) (by show 0 ≤ (I29 0 15).toInt ∧ (I29 0 15).toInt ≤ 6100; exact lp28mn) lp28Nd (by show 0 ≤ (I29 0 35).toInt ∧ (I29 0 35).toInt ≤ (I29 0 34).toInt ∧ (I29 0 34).toInt ≤ (I29 0 33).toInt ∧ (I29 0 33).toInt ≤ 500 ∧ ((I29 0 36).toInt = 0 ∨ (I29 0 35).toInt + 1 ≤ (I29 0 34).toInt); first | omega | decide) B9 x42 ⟨by omega, by omega⟩ (by rw [← ex43]; omega) (z_pst hP9 tx42 (by omega)) _) (cwV 2 hts gX12_parse_X12_chain rfl rfl rfl hy_X12_chain ⟨Nat.le_of_ble_eq_true rfl, Nat.le_of_ble_eq_true rfl⟩) (z_preV (i := 0) hK hW rfl rfl) rfl rfl hl.1 rfl (lv_room (Nat.le_of_ble_eq_true rfl)) dX12_parse_95 ⟨Nat.le_of_ble_eq_true rfl, Nat.le_of_ble_eq_true rfl⟩) (fun u1 H locs hp hW hS => ?_)
                  obtain ⟨I63, J65, e9, hI63mp, hI63mt, hI63md, hI63mg, hI63mn, hI63Nd, hI63rp, fI63, hp⟩ := hp
                  rw [e9] at hW
                  have f64 := z_fr_sub (L := L_X12_parse) lp28fr fI63 (by decide)
                  have k66 : 0 ≤ (I63 0 35).toInt ∧ (I63 0 35).toInt ≤ (I63 0 34).toInt ∧ (I63 0 34).toInt ≤ (I63 0 33).toInt ∧ (I63 0 33).toInt ≤ 500 ∧ ((I63 0 36).toInt = 0 ∨ (I63 0 35).toInt + 1 ≤ (I63 0 34).toInt) := hI63rp
                  have hst := hp
                  refine lv_goto (tgt := 106) hx hb dX12_parse_98 (by decide) ?_
                  refine lv_goto (tgt := 15) hx hb dX12_parse_106 (by decide) ?_
                  exact lp28ih  I63 J65 _ _ _ (hst.elim (fun q => Or.inl ⟨q, by omega⟩) (fun ⟨n, q⟩ => Or.inr ⟨n, B9 - 1, q, by omega, by omega⟩)) ⟨(by show 0 ≤ (I63 0 31).toInt ∧ (I63 0 31).toInt ≤ 500; exact hI63mp.1), (by show 0 ≤ (I63 0 33).toInt ∧ (I63 0 33).toInt ≤ 500; exact hI63mp.2.1), (by show 0 ≤ (I63 0 34).toInt ∧ (I63 0 34).toInt ≤ 500; exact hI63mp.2.2.1), (by show 0 ≤ (I63 0 35).toInt ∧ (I63 0 35).toInt ≤ 500; exact hI63mp.2.2.2)⟩ ⟨(by show 0 ≤ (I63 0 36).toInt ∧ (I63 0 36).toInt ≤ 4; exact hI63mt.1), (by show 0 ≤ (I63 0 42).toInt ∧ (I63 0 42).toInt ≤ 1; exact hI63mt.2)⟩ ⟨(by show 0 ≤ (I63 0 47).toInt ∧ (I63 0 47).toInt ≤ 119; exact hI63md.1), (by show 0 ≤ (I63 0 39).toInt ∧ (I63 0 39).toInt ≤ 100; exact hI63md.2)⟩ (by show 0 ≤ (I63 0 40).toInt ∧ (I63 0 40).toInt ≤ 6199; exact hI63mg) (by show 0 ≤ (I63 0 15).toInt ∧ (I63 0 15).toInt ≤ 6100; exact hI63mn) hI63Nd (by show 0 ≤ (I63 0 35).toInt ∧ (I63 0 35).toInt ≤ (I63 0 34).toInt ∧ (I63 0 34).toInt ≤ (I63 0 33).toInt ∧ (I63 0 33).toInt ≤ 500 ∧ ((I63 0 36).toInt = 0 ∨ (I63 0 35).toInt + 1 ≤ (I63 0 34).toInt); first | omega | decide) f64 hW hS (lv_sub hl [2, 3] rfl)
            · have g67 := z_f_eq rfl z_l2 c47
              refine lv_aload_n hx hb dX12_parse_70 rfl (lv_at hl 2 rfl) ?_
              refine lv_iload_n hx hb dX12_parse_71 rfl (lv_at hl 1 rfl) ?_
              refine z_cv hW hS hA (va_runV (As := [.int x42]) (rest := []) ⟨hx, hb, hml, hown, hts⟩ (sx_X12_atom l G ad I29 J30 ⟨(by show 0 ≤ (I29 0 31).toInt ∧ (I29 0 31).toInt ≤ 500; exact lp28mp.1), (by show 0 ≤ (I29 0 33).toInt ∧ (I29 0 33).toInt ≤ 500; exact lp28mp.2.1), (by show 0 ≤ (I29 0 34).toInt ∧ (I29 0 34).toInt ≤ 500; exact lp28mp.2.2.1), (by show 0 ≤ (I29 0 35).toInt ∧ (I29 0 35).toInt ≤ 500; exact lp28mp.2.2.2)⟩ ⟨(by show 0 ≤ (I29 0 36).toInt ∧ (I29 0 36).toInt ≤ 4; exact lp28mt.1), (by show 0 ≤ (I29 0 42).toInt ∧ (I29 0 42).toInt ≤ 1; exact lp28mt.2)⟩ ⟨(by show 0 ≤ (I29 0 47).toInt ∧ (I29 0 47).toInt ≤ 119; exact lp28md.1), (by show 0 ≤ (I29 0 39).toInt ∧ (I29 0 39).toInt ≤ 100; exact lp28md.2)⟩ (by show 0 ≤ (I29 0 40).toInt ∧ (I29 0 40).toInt ≤ 6199; exact lp28mg) (by show 0 ≤ (I29 0 15).toInt ∧ (I29 0 15).toInt ≤ 6100; exact lp28mn) lp28Nd (by show 0 ≤ (I29 0 35).toInt ∧ (I29 0 35).toInt ≤ (I29 0 34).toInt ∧ (I29 0 34).toInt ≤ (I29 0 33).toInt ∧ (I29 0 33).toInt ≤ 500 ∧ ((I29 0 36).toInt = 0 ∨ (I29 0 35).toInt + 1 ≤ (I29 0 34).toInt); first | omega | decide) B9 x42 ⟨by omega, by omega⟩ (by rw [← ex43]; omega) (z_pst hP9 tx42 (by omega)) _) (cwV 1 hts gX12_parse_X12_atom rfl rfl rfl hy_X12_atom ⟨Nat.le_of_ble_eq_true rfl, Nat.le_of_ble_eq_true rfl⟩) (z_preV (i := 0) hK hW rfl rfl) rfl rfl hl.1 rfl (lv_room (Nat.le_of_ble_eq_true rfl)) dX12_parse_72 ⟨Nat.le_of_ble_eq_true rfl, Nat.le_of_ble_eq_true rfl⟩) (fun u1 H locs hp hW hS => ?_)
              obtain ⟨I68, J70, e9, hI68mp, hI68mt, hI68md, hI68mg, hI68mn, hI68Nd, hI68rp, fI68, hp⟩ := hp
              rw [e9] at hW
              have f69 := z_fr_sub (L := L_X12_parse) lp28fr fI68 (by decide)
              have k71 : 0 ≤ (I68 0 35).toInt ∧ (I68 0 35).toInt ≤ (I68 0 34).toInt ∧ (I68 0 34).toInt ≤ (I68 0 33).toInt ∧ (I68 0 33).toInt ≤ 500 ∧ ((I68 0 36).toInt = 0 ∨ (I68 0 35).toInt + 1 ≤ (I68 0 34).toInt) := hI68rp
              have hst := hp
              refine lv_goto (tgt := 106) hx hb dX12_parse_75 (by decide) ?_
              refine lv_goto (tgt := 15) hx hb dX12_parse_106 (by decide) ?_
              exact lp28ih  I68 J70 _ _ _ (hst.elim (fun q => Or.inl ⟨q, by omega⟩) (fun ⟨n, q⟩ => Or.inr ⟨n, B9 - 1, q, by omega, by omega⟩)) ⟨(by show 0 ≤ (I68 0 31).toInt ∧ (I68 0 31).toInt ≤ 500; exact hI68mp.1), (by show 0 ≤ (I68 0 33).toInt ∧ (I68 0 33).toInt ≤ 500; exact hI68mp.2.1), (by show 0 ≤ (I68 0 34).toInt ∧ (I68 0 34).toInt ≤ 500; exact hI68mp.2.2.1), (by show 0 ≤ (I68 0 35).toInt ∧ (I68 0 35).toInt ≤ 500; exact hI68mp.2.2.2)⟩ ⟨(by show 0 ≤ (I68 0 36).toInt ∧ (I68 0 36).toInt ≤ 4; exact hI68mt.1), (by show 0 ≤ (I68 0 42).toInt ∧ (I68 0 42).toInt ≤ 1; exact hI68mt.2)⟩ ⟨(by show 0 ≤ (I68 0 47).toInt ∧ (I68 0 47).toInt ≤ 119; exact hI68md.1), (by show 0 ≤ (I68 0 39).toInt ∧ (I68 0 39).toInt ≤ 100; exact hI68md.2)⟩ (by show 0 ≤ (I68 0 40).toInt ∧ (I68 0 40).toInt ≤ 6199; exact hI68mg) (by show 0 ≤ (I68 0 15).toInt ∧ (I68 0 15).toInt ≤ 6100; exact hI68mn) hI68Nd (by show 0 ≤ (I68 0 35).toInt ∧ (I68 0 35).toInt ≤ (I68 0 34).toInt ∧ (I68 0 34).toInt ≤ (I68 0 33).toInt ∧ (I68 0 33).toInt ≤ 500 ∧ ((I68 0 36).toInt = 0 ∨ (I68 0 35).toInt + 1 ≤ (I68 0 34).toInt); first | omega | decide) f69 hW hS (lv_sub hl [2, 3] rfl)
          · have g72 := z_f_nge rfl z_l2 c45
            refine lv_aload_n hx hb dX12_parse_48 rfl (lv_at hl 2 rfl) ?_
            refine lv_iload_n hx hb dX12_parse_49 rfl (lv_at hl 1 rfl) ?_
            refine lv_iload_n hx hb dX12_parse_50 rfl (lv_at hl 0 rfl) ?_
            refine lv_if_ne (tgt := 58) hx hb dX12_parse_51 (by decide) (fun c73 => ?_) (fun c73 => ?_)
            · have g74 := z_f_ne rfl z_l0 c73
              refine lv_iconst (v := 0) hx hb dX12_parse_58 (by decide) ?_
              refine z_cv hW hS hA (va_runV (As := [.int x42, .int 0]) (rest := []) ⟨hx, hb, hml, hown, hts⟩ (sx_X12_sums_0 l G ad I29 J30 ⟨(by show 0 ≤ (I29 0 31).toInt ∧ (I29 0 31).toInt ≤ 500; exact lp28mp.1), (by show 0 ≤ (I29 0 33).toInt ∧ (I29 0 33).toInt ≤ 500; exact lp28mp.2.1), (by show 0 ≤ (I29 0 34).toInt ∧ (I29 0 34).toInt ≤ 500; exact lp28mp.2.2.1), (by show 0 ≤ (I29 0 35).toInt ∧ (I29 0 35).toInt ≤ 500; exact lp28mp.2.2.2)⟩ ⟨(by show 0 ≤ (I29 0 36).toInt ∧ (I29 0 36).toInt ≤ 4; exact lp28mt.1), (by show 0 ≤ (I29 0 42).toInt ∧ (I29 0 42).toInt ≤ 1; exact lp28mt.2)⟩ ⟨(by show 0 ≤ (I29 0 47).toInt ∧ (I29 0 47).toInt ≤ 119; exact lp28md.1), (by show 0 ≤ (I29 0 39).toInt ∧ (I29 0 39).toInt ≤ 100; exact lp28md.2)⟩ (by show 0 ≤ (I29 0 40).toInt ∧ (I29 0 40).toInt ≤ 6199; exact lp28mg) (by show 0 ≤ (I29 0 15).toInt ∧ (I29 0 15).toInt ≤ 6100; exact lp28mn) lp28Nd (by show 0 ≤ (I29 0 35).toInt ∧ (I29 0 35).toInt ≤ (I29 0 34).toInt ∧ (I29 0 34).toInt ≤ (I29 0 33).toInt ∧ (I29 0 33).toInt ≤ 500 ∧ ((I29 0 36).toInt = 0 ∨ (I29 0 35).toInt + 1 ≤ (I29 0 34).toInt); first | omega | decide) B9 x42 ⟨by omega, by omega⟩ (by rw [← ex43]; omega) (z_pst hP9 tx42 (by omega)) _) (cwV 2 hts gX12_parse_X12_sums rfl rfl rfl hy_X12_sums ⟨Nat.le_of_ble_eq_true rfl, Nat.le_of_ble_eq_true rfl⟩) (z_preV (i := 0) hK hW rfl rfl) rfl rfl hl.1 rfl (lv_room (Nat.le_of_ble_eq_true rfl)) dX12_parse_59 ⟨Nat.le_of_ble_eq_true rfl, Nat.le_of_ble_eq_true rfl⟩) (fun u1 H locs hp hW hS => ?_)
              obtain ⟨I75, J77, e9, hI75mp, hI75mt, hI75md, hI75mg, hI75mn, hI75Nd, hI75rp, fI75, hp⟩ := hp
              rw [e9] at hW
              have f76 := z_fr_sub (L := L_X12_parse) lp28fr fI75 (by decide)
              have k78 : 0 ≤ (I75 0 35).toInt ∧ (I75 0 35).toInt ≤ (I75 0 34).toInt ∧ (I75 0 34).toInt ≤ (I75 0 33).toInt ∧ (I75 0 33).toInt ≤ 500 ∧ ((I75 0 36).toInt = 0 ∨ (I75 0 35).toInt + 1 ≤ (I75 0 34).toInt) := hI75rp
              have hst := hp
              refine lv_goto (tgt := 106) hx hb dX12_parse_62 (by decide) ?_
              refine lv_goto (tgt := 15) hx hb dX12_parse_106 (by decide) ?_
              exact lp28ih  I75 J77 _ _ _ (hst.elim (fun q => Or.inl ⟨q, by omega⟩) (fun ⟨n, q⟩ => Or.inr ⟨n, B9 - 1, q, by omega, by omega⟩)) ⟨(by show 0 ≤ (I75 0 31).toInt ∧ (I75 0 31).toInt ≤ 500; exact hI75mp.1), (by show 0 ≤ (I75 0 33).toInt ∧ (I75 0 33).toInt ≤ 500; exact hI75mp.2.1), (by show 0 ≤ (I75 0 34).toInt ∧ (I75 0 34).toInt ≤ 500; exact hI75mp.2.2.1), (by show 0 ≤ (I75 0 35).toInt ∧ (I75 0 35).toInt ≤ 500; exact hI75mp.2.2.2)⟩ ⟨(by show 0 ≤ (I75 0 36).toInt ∧ (I75 0 36).toInt ≤ 4; exact hI75mt.1), (by show 0 ≤ (I75 0 42).toInt ∧ (I75 0 42).toInt ≤ 1; exact hI75mt.2)⟩ ⟨(by show 0 ≤ (I75 0 47).toInt ∧ (I75 0 47).toInt ≤ 119; exact hI75md.1), (by show 0 ≤ (I75 0 39).toInt ∧ (I75 0 39).toInt ≤ 100; exact hI75md.2)⟩ (by show 0 ≤ (I75 0 40).toInt ∧ (I75 0 40).toInt ≤ 6199; exact hI75mg) (by show 0 ≤ (I75 0 15).toInt ∧ (I75 0 15).toInt ≤ 6100; exact hI75mn) hI75Nd (by show 0 ≤ (I75 0 35).toInt ∧ (I75 0 35).toInt ≤ (I75 0 34).toInt ∧ (I75 0 34).toInt ≤ (I75 0 33).toInt ∧ (I75 0 33).toInt ≤ 500 ∧ ((I75 0 36).toInt = 0 ∨ (I75 0 35).toInt + 1 ≤ (I75 0 34).toInt); first | omega | decide) f76 hW hS (lv_sub hl [2, 3] rfl)
            · have g79 := z_f_eq rfl z_l0 c73
              refine lv_iconst (v := 1) hx hb dX12_parse_54 (by decide) ?_
              refine lv_goto (tgt := 59) hx hb dX12_parse_55 (by decide) ?_
              refine z_cv hW hS hA (va_runV (As := [.int x42, .int 1]) (rest := []) ⟨hx, hb, hml, hown, hts⟩ (sx_X12_sums_1 l G ad I29 J30 ⟨(by show 0 ≤ (I29 0 31).toInt ∧ (I29 0 31).toInt ≤ 500; exact lp28mp.1), (by show 0 ≤ (I29 0 33).toInt ∧ (I29 0 33).toInt ≤ 500; exact lp28mp.2.1), (by show 0 ≤ (I29 0 34).toInt ∧ (I29 0 34).toInt ≤ 500; exact lp28mp.2.2.1), (by show 0 ≤ (I29 0 35).toInt ∧ (I29 0 35).toInt ≤ 500; exact lp28mp.2.2.2)⟩ ⟨(by show 0 ≤ (I29 0 36).toInt ∧ (I29 0 36).toInt ≤ 4; exact lp28mt.1), (by show 0 ≤ (I29 0 42).toInt ∧ (I29 0 42).toInt ≤ 1; exact lp28mt.2)⟩ ⟨(by show 0 ≤ (I29 0 47).toInt ∧ (I29 0 47).toInt ≤ 119; exact lp28md.1), (by show 0 ≤ (I29 0 39).toInt ∧ (I29 0 39).toInt ≤ 100; exact lp28md.2)⟩ (by show 0 ≤ (I29 0 40).toInt ∧ (I29 0 40).toInt ≤ 6199; exact lp28mg) (by show 0 ≤ (I29 0 15).toInt ∧ (I29 0 15).toInt ≤ 6100; exact lp28mn) lp28Nd (by show 0 ≤ (I29 0 35).toInt ∧ (I29 0 35).toInt ≤ (I29 0 34).toInt ∧ (I29 0 34).toInt ≤ (I29 0 33).toInt ∧ (I29 0 33).toInt ≤ 500 ∧ ((I29 0 36).toInt = 0 ∨ (I29 0 35).toInt + 1 ≤ (I29 0 34).toInt); first | omega | decide) B9 x42 ⟨by omega, by omega⟩ (by rw [← ex43]; omega) (z_pst hP9 tx42 (by omega)) _) (cwV 2 hts gX12_parse_X12_sums rfl rfl rfl hy_X12_sums ⟨Nat.le_of_ble_eq_true rfl, Nat.le_of_ble_eq_true rfl⟩) (z_preV (i := 0) hK hW rfl rfl) rfl rfl hl.1 rfl (lv_room (Nat.le_of_ble_eq_true rfl)) dX12_parse_59 ⟨Nat.le_of_ble_eq_true rfl, Nat.le_of_ble_eq_true rfl⟩) (fun u1 H locs hp hW hS => ?_)
              obtain ⟨I80, J82, e9, hI80mp, hI80mt, hI80md, hI80mg, hI80mn, hI80Nd, hI80rp, fI80, hp⟩ := hp
              rw [e9] at hW
              have f81 := z_fr_sub (L := L_X12_parse) lp28fr fI80 (by decide)
              have k83 : 0 ≤ (I80 0 35).toInt ∧ (I80 0 35).toInt ≤ (I80 0 34).toInt ∧ (I80 0 34).toInt ≤ (I80 0 33).toInt ∧ (I80 0 33).toInt ≤ 500 ∧ ((I80 0 36).toInt = 0 ∨ (I80 0 35).toInt + 1 ≤ (I80 0 34).toInt) := hI80rp
              have hst := hp
              refine lv_goto (tgt := 106) hx hb dX12_parse_62 (by decide) ?_
              refine lv_goto (tgt := 15) hx hb dX12_parse_106 (by decide) ?_
              exact lp28ih  I80 J82 _ _ _ (hst.elim (fun q => Or.inl ⟨q, by omega⟩) (fun ⟨n, q⟩ => Or.inr ⟨n, B9 - 1, q, by omega, by omega⟩)) ⟨(by show 0 ≤ (I80 0 31).toInt ∧ (I80 0 31).toInt ≤ 500; exact hI80mp.1), (by show 0 ≤ (I80 0 33).toInt ∧ (I80 0 33).toInt ≤ 500; exact hI80mp.2.1), (by show 0 ≤ (I80 0 34).toInt ∧ (I80 0 34).toInt ≤ 500; exact hI80mp.2.2.1), (by show 0 ≤ (I80 0 35).toInt ∧ (I80 0 35).toInt ≤ 500; exact hI80mp.2.2.2)⟩ ⟨(by show 0 ≤ (I80 0 36).toInt ∧ (I80 0 36).toInt ≤ 4; exact hI80mt.1), (by show 0 ≤ (I80 0 42).toInt ∧ (I80 0 42).toInt ≤ 1; exact hI80mt.2)⟩ ⟨(by show 0 ≤ (I80 0 47).toInt ∧ (I80 0 47).toInt ≤ 119; exact hI80md.1), (by show 0 ≤ (I80 0 39).toInt ∧ (I80 0 39).toInt ≤ 100; exact hI80md.2)⟩ (by show 0 ≤ (I80 0 40).toInt ∧ (I80 0 40).toInt ≤ 6199; exact hI80mg) (by show 0 ≤ (I80 0 15).toInt ∧ (I80 0 15).toInt ≤ 6100; exact hI80mn) hI80Nd (by show 0 ≤ (I80 0 35).toInt ∧ (I80 0 35).toInt ≤ (I80 0 34).toInt ∧ (I80 0 34).toInt ≤ (I80 0 33).toInt ∧ (I80 0 33).toInt ≤ 500 ∧ ((I80 0 36).toInt = 0 ∨ (I80 0 35).toInt + 1 ≤ (I80 0 34).toInt); first | omega | decide) f81 hW hS (lv_sub hl [2, 3] rfl)
  exact lp28 (1010 * (500 - (I 0 35).toInt) + 1000 * (I 0 15).toInt + 12).toNat  I7 J9 _ _ _ (Or.inr ⟨1, 1010 * (500 - (I 0 35).toInt) + 1000 * (I 0 15).toInt + 10, z_START h27 (wi := a1.toInt) rfl ⟨by omega, by omega⟩ (by show (I4 0 47).toInt = 0; have q9 : (I4 0 47) = 0 := (by rw [eI4, z_up_k (by decide), eI1, z_up_s]); rw [q9]; first | omega | decide) (by omega) (by omega) (by omega) (by omega) (by omega), by omega, Int.le_refl _⟩) ⟨(by show 0 ≤ (I7 0 31).toInt ∧ (I7 0 31).toInt ≤ 500; exact k10), (by show 0 ≤ (I7 0 33).toInt ∧ (I7 0 33).toInt ≤ 500; exact k11), (by show 0 ≤ (I7 0 34).toInt ∧ (I7 0 34).toInt ≤ 500; exact k12), (by show 0 ≤ (I7 0 35).toInt ∧ (I7 0 35).toInt ≤ 500; exact k13)⟩ ⟨(by show 0 ≤ (I7 0 36).toInt ∧ (I7 0 36).toInt ≤ 4; exact k14), (by show 0 ≤ (I7 0 42).toInt ∧ (I7 0 42).toInt ≤ 1; exact k15)⟩ ⟨(by show 0 ≤ (I7 0 47).toInt ∧ (I7 0 47).toInt ≤ 119; exact hI7md.1), (by show 0 ≤ (I7 0 39).toInt ∧ (I7 0 39).toInt ≤ 100; exact hI7md.2)⟩ (by show 0 ≤ (I7 0 40).toInt ∧ (I7 0 40).toInt ≤ 6199; exact k17) (by show 0 ≤ (I7 0 15).toInt ∧ (I7 0 15).toInt ≤ 6100; exact k18) (z_Nd_fr a6 fI7 (by decide)) (by show 0 ≤ (I7 0 35).toInt ∧ (I7 0 35).toInt ≤ (I7 0 34).toInt ∧ (I7 0 34).toInt ≤ (I7 0 33).toInt ∧ (I7 0 33).toInt ≤ 500 ∧ ((I7 0 36).toInt = 0 ∨ (I7 0 35).toInt + 1 ≤ (I7 0 34).toInt); first | omega | decide) f8 hW hS (lv_sub hl [0, 1] rfl)
noncomputable def L_X12_statement : z_L := [(0, 35), (0, 36), (0, 37), (0, 38), (0, 34), (0, 42), (0, 32), (0, 39), (21, 999), (22, 999), (23, 999), (0, 15), (26, 999), (27, 999), (28, 999), (29, 999), (0, 47), (0, 40), (16, 999), (17, 999), (18, 999), (19, 999), (15, 999), (20, 999)]
theorem zj_X12_statement_X12 : ∀ w ∈ wsX120, w ∈ wsX12_statement := fun w h => (List.mem_cons_of_mem _ (List.mem_append_right _ h))
set_option maxHeartbeats 8000000 in
set_option maxRecDepth 100000 in
theorem sx_X12_statement (l : Launch) (G : z_G) (ad : Nat → Nat) (I : z_I) (J : z_J) (hmp : z_imp I) (hmt : z_imt I) (hmd : z_imd I) (hmg : z_img I) (hmn : z_imn I) (hNd : z_Nd I) (hrp : z_irp I) (hAsf : z_rg 19 0 6200 I) (hAst : z_rg 20 0 6200 I) (hAsc : z_rg 18 (-1) 6199 I) (hEx : z_Ex I) (a1 : Int32) (q1 : 0 ≤ a1.toInt ∧ a1.toInt ≤ 287) (q2 : 1010 * (500 - (I 0 35).toInt) + 1000 * (I 0 15).toInt + 20 ≤ 6100000) : z_Mv l yX12_statement wsX12_statement { frames := 6, cells := 0, slots := 0, locals := 121 } [.ref (ad 0), .int a1] G (shM, ad, I, J, PM ad) (fun u1 => ∃ (I1 : z_I) (J1 : z_J), u1 = (shM, ad, I1, J1, PM ad) ∧ z_imp I1 ∧ z_imt I1 ∧ z_imd I1 ∧ z_img I1 ∧ z_imn I1 ∧ z_Nd I1 ∧ z_irp I1 ∧ z_rg 19 0 6200 I1 ∧ z_rg 20 0 6200 I1 ∧ z_rg 18 (-1) 6199 I1 ∧ z_Ex I1 ∧ z_fr L_X12_statement I1 I ∧ (¬ (I1 0 42).toInt = 0 ∨ 1010 * (500 - (I1 0 35).toInt) + 1000 * (I1 0 15).toInt ≤ 1010 * (500 - (I 0 35).toInt) + 1000 * (I 0 15).toInt + 20)) 0 0 := by
  intro sz
  refine z_headQ (cc := cX12_statement) (maxL := 3) (ret := none) (by decide) rfl (Nat.le_of_ble_eq_true rfl) ?_
  intro p e s m below meth c0 ls hIn hK hsz hW hl
  obtain ⟨hx, hb, hr, hml, hown, hts, hlocks, hname⟩ := hIn
  subst hsz
  have hown : s.vm.findClass RX12 = some m.cls := hown
  have hA : ∀ q : Nat, s.heap.size ≤ q → z_A (shM, ad, I, J, PM ad) s.heap.size q := fun q h => Or.inr h
  generalize hAe : z_A (shM, ad, I, J, PM ad) s.heap.size = A at *
  have hS : va_S A s.heap s.heap [] := va_S.rf
  have hl : lv_has ls 3 [(0, .ref (ad 0)), (1, .int a1)] := hl
  have krp : 0 ≤ (I 0 35).toInt ∧ (I 0 35).toInt ≤ (I 0 34).toInt ∧ (I 0 34).toInt ≤ (I 0 33).toInt ∧ (I 0 33).toInt ≤ 500 ∧ ((I 0 36).toInt = 0 ∨ (I 0 35).toInt + 1 ≤ (I 0 34).toInt) := hrp
  refine lv_aload_n hx hb dX12_statement_0 rfl (lv_at hl 0 rfl) ?_
  refine z_get (T := TX12) (N := 96) (ci := 12) (i := 0) (v := .ref (ad 16)) hx hb hts zj_X12_statement_X12 hown hK hW rfl rfl 21 (by decide) (hts (.fieldLink RX12 55 "PetrolBoardModel" "stNumber" "[I") (me_s (me_l (me_l (List.mem_of_getElem? (i := 0) rfl))))) (fun _ h => h) rfl dX12_statement_1 ?_
  refine lv_iload_n hx hb dX12_statement_4 rfl (lv_at hl 1 rfl) ?_
  refine lv_iconst (v := 0) hx hb dX12_statement_5 (by decide) ?_
  refine z_iast (i := 16) hx hb hK hW hS rfl (z_ix rfl (by omega) (by omega)) dX12_statement_6 (fun H locs hz1 hW hS => ?_)
  obtain ⟨I1, eI1⟩ : ∃ K : z_I, K = z_up I 16 a1.toNatClampNeg 0 := ⟨_, rfl⟩
  rw [← eI1] at hW
  have f2 := z_fr_a z_fr_0 (show z_wa L_X12_statement 16 = true by decide) eI1
  have a3 := z_Nd_n hNd (by decide) eI1
  have a4 := z_rg_n hAsf (by decide) eI1
  have a5 := z_rg_n hAst (by decide) eI1
  have a6 := z_rg_n hAsc (by decide) eI1
  have a7 := z_Ex_n hEx (by decide) eI1
  refine lv_aload_n hx hb dX12_statement_7 rfl (lv_at hl 0 rfl) ?_
  refine z_get (T := TX12) (N := 96) (ci := 12) (i := 0) (v := .ref (ad 17)) hx hb hts zj_X12_statement_X12 hown hK hW rfl rfl 22 (by decide) (hts (.fieldLink RX12 58 "PetrolBoardModel" "stEx" "[I") (me_s (me_l (me_l (List.mem_of_getElem? (i := 1) rfl))))) (fun _ h => h) rfl dX12_statement_8 ?_
  refine lv_iload_n hx hb dX12_statement_11 rfl (lv_at hl 1 rfl) ?_
  refine lv_iconst (v := (-1)) hx hb dX12_statement_12 (by decide) ?_
  refine z_iast (i := 17) hx hb hK hW hS rfl (z_ix rfl (by omega) (by omega)) dX12_statement_13 (fun H locs hz1 hW hS => ?_)
  obtain ⟨I8, eI8⟩ : ∃ K : z_I, K = z_up I1 17 a1.toNatClampNeg (-1) := ⟨_, rfl⟩
  rw [← eI8] at hW
  have f9 := z_fr_a f2 (show z_wa L_X12_statement 17 = true by decide) eI8
  have a10 := z_Nd_n a3 (by decide) eI8
  have a11 := z_rg_n a4 (by decide) eI8
  have a12 := z_rg_n a5 (by decide) eI8
  have a13 := z_rg_n a6 (by decide) eI8
  refine lv_aload_n hx hb dX12_statement_14 rfl (lv_at hl 0 rfl) ?_
  refine z_get (T := TX12) (N := 96) (ci := 12) (i := 0) (v := .ref (ad 18)) hx hb hts zj_X12_statement_X12 hown hK hW rfl rfl 23 (by decide) (hts (.fieldLink RX12 61 "PetrolBoardModel" "stCond" "[I") (me_s (me_l (me_l (List.mem_of_getElem? (i := 2) rfl))))) (fun _ h => h) rfl dX12_statement_15 ?_
  refine lv_iload_n hx hb dX12_statement_18 rfl (lv_at hl 1 rfl) ?_
  refine lv_iconst (v := (-1)) hx hb dX12_statement_19 (by decide) ?_
  refine z_iast (i := 18) hx hb hK hW hS rfl (z_ix rfl (by omega) (by omega)) dX12_statement_20 (fun H locs hz1 hW hS => ?_)
  obtain ⟨I15, eI15⟩ : ∃ K : z_I, K = z_up I8 18 a1.toNatClampNeg (-1) := ⟨_, rfl⟩
  rw [← eI15] at hW
  have f16 := z_fr_a f9 (show z_wa L_X12_statement 18 = true by decide) eI15
  have a17 := z_Nd_n a10 (by decide) eI15
  have a18 := z_rg_n a11 (by decide) eI15
  have a19 := z_rg_n a12 (by decide) eI15
  have a20 := z_rg_a a13 (by decide) eI15
  refine lv_aload_n hx hb dX12_statement_21 rfl (lv_at hl 0 rfl) ?_
  refine z_get (T := TX12) (N := 96) (ci := 12) (i := 0) (v := .ref (ad 19)) hx hb hts zj_X12_statement_X12 hown hK hW rfl rfl 24 (by decide) (hts (.fieldLink RX12 64 "PetrolBoardModel" "stFrom" "[I") (me_s (me_l (me_l (List.mem_of_getElem? (i := 3) rfl))))) (fun _ h => h) rfl dX12_statement_22 ?_
  refine lv_iload_n hx hb dX12_statement_25 rfl (lv_at hl 1 rfl) ?_
  refine lv_aload_n hx hb dX12_statement_26 rfl (lv_at hl 0 rfl) ?_
  have r21 : 0 ≤ (I 0 15).toInt ∧ (I 0 15).toInt ≤ 6100 := hmn
  refine z_get (T := TX12) (N := 96) (ci := 12) (i := 0) (v := .int (I 0 15)) hx hb hts zj_X12_statement_X12 hown hK hW rfl rfl 15 (by decide) (hts (.fieldLink RX12 337 "PetrolBoardModel" "nodes" "I") (me_s (me_l (me_l (List.mem_of_getElem? (i := 4) rfl))))) (fun _ h => h) (congrArg Value.int (by rw [eI15, z_up_n (by decide), eI8, z_up_n (by decide), eI1, z_up_n (by decide)])) dX12_statement_27 ?_
  refine z_iast (i := 19) hx hb hK hW hS rfl (z_ix rfl (by omega) (by omega)) dX12_statement_30 (fun H locs hz1 hW hS => ?_)
  obtain ⟨I22, eI22⟩ : ∃ K : z_I, K = z_up I15 19 a1.toNatClampNeg (I 0 15) := ⟨_, rfl⟩
  rw [← eI22] at hW
  have f23 := z_fr_a f16 (show z_wa L_X12_statement 19 = true by decide) eI22
  have a24 := z_Nd_n a17 (by decide) eI22
  have a25 := z_rg_a a18 (by omega) eI22
  have a26 := z_rg_n a19 (by decide) eI22
  have a27 := z_rg_n a20 (by decide) eI22
  refine lv_aload_n hx hb dX12_statement_31 rfl (lv_at hl 0 rfl) ?_
  have r28 : 0 ≤ (I 0 36).toInt ∧ (I 0 36).toInt ≤ 4 := hmt.1
  refine z_get (T := TX12) (N := 96) (ci := 12) (i := 0) (v := .int (I 0 36)) hx hb hts zj_X12_statement_X12 hown hK hW rfl rfl 36 (by decide) (hts (.fieldLink RX12 281 "PetrolBoardModel" "token" "I") (me_s (me_l (me_l (List.mem_of_getElem? (i := 5) rfl))))) (fun _ h => h) (congrArg Value.int (by rw [eI22, z_up_n (by decide), eI15, z_up_n (by decide), eI8, z_up_n (by decide), eI1, z_up_n (by decide)])) dX12_statement_32 ?_
  refine lv_iconst (v := 1) hx hb dX12_statement_35 (by decide) ?_
  refine lv_icmp_ne (tgt := 50) hx hb dX12_statement_36 (by decide) (fun c29 => ?_) (fun c29 => ?_)
  · have g30 := z_f_ne rfl z_l1 c29
    refine lv_iconst (v := (-1)) hx hb dX12_statement_50 (by decide) ?_
    refine lv_istore_n (lv' := [(2, .int (-1)), (0, .ref (ad 0)), (1, .int a1)]) hx hb dX12_statement_51 rfl hl (by decide) rfl (fun ls hl => ?_)
    refine lv_aload_n hx hb dX12_statement_52 rfl (lv_at hl 1 rfl) ?_
    refine z_get (T := TX12) (N := 96) (ci := 12) (i := 0) (v := .ref (ad 15)) hx hb hts zj_X12_statement_X12 hown hK hW rfl rfl 20 (by decide) (hts (.fieldLink RX12 52 "PetrolBoardModel" "stRule" "[I") (me_s (me_l (me_l (List.mem_of_getElem? (i := 7) rfl))))) (fun _ h => h) rfl dX12_statement_53 ?_
    refine lv_iload_n hx hb dX12_statement_56 rfl (lv_at hl 2 rfl) ?_
    refine lv_iload_n hx hb dX12_statement_57 rfl (lv_at hl 0 rfl) ?_
    refine z_iast (i := 15) hx hb hK hW hS rfl (z_ix rfl (by omega) (by omega)) dX12_statement_58 (fun H locs hz1 hW hS => ?_)
    obtain ⟨I31, eI31⟩ : ∃ K : z_I, K = z_up I22 15 a1.toNatClampNeg (-1) := ⟨_, rfl⟩
    rw [← eI31] at hW
    have f32 := z_fr_a f23 (show z_wa L_X12_statement 15 = true by decide) eI31
    have a33 := z_Nd_n a24 (by decide) eI31
    have a34 := z_rg_n a25 (by decide) eI31
    have a35 := z_rg_n a26 (by decide) eI31
    have a36 := z_rg_n a27 (by decide) eI31
    refine lv_iload_n hx hb dX12_statement_59 rfl (lv_at hl 0 rfl) ?_
    refine lv_if_ge (tgt := 68) hx hb dX12_statement_60 (by decide) (fun c37 => absurd c37 (by decide)) (fun c37 => ?_)
    refine lv_aload_n hx hb dX12_statement_63 rfl (lv_at hl 1 rfl) ?_
    refine z_cv hW hS hA (va_runV (As := []) (rest := []) ⟨hx, hb, hml, hown, hts⟩ (sx_X12_errs l G ad I31 J ⟨(by show 0 ≤ (I31 0 36).toInt ∧ (I31 0 36).toInt ≤ 4; rw [eI31, z_up_n (by decide), eI22, z_up_n (by decide), eI15, z_up_n (by decide), eI8, z_up_n (by decide), eI1, z_up_n (by decide)]; exact hmt.1), (by show 0 ≤ (I31 0 42).toInt ∧ (I31 0 42).toInt ≤ 1; rw [eI31, z_up_n (by decide), eI22, z_up_n (by decide), eI15, z_up_n (by decide), eI8, z_up_n (by decide), eI1, z_up_n (by decide)]; exact hmt.2)⟩  _) (cwV 0 hts gX12_statement_X12_errs rfl rfl rfl hy_X12_errs ⟨Nat.le_of_ble_eq_true rfl, Nat.le_of_ble_eq_true rfl⟩) (z_preV (i := 0) hK hW rfl rfl) rfl rfl hl.1 rfl (lv_room (Nat.le_of_ble_eq_true rfl)) dX12_statement_64 ⟨Nat.le_of_ble_eq_true rfl, Nat.le_of_ble_eq_true rfl⟩) (fun u1 H locs hp hW hS => ?_)
    obtain ⟨I38, J40, e9, hI38mt, fI38, hp⟩ := hp
    rw [e9] at hW
    have f39 := z_fr_sub (L := L_X12_statement) f32 fI38 (by decide)
    have k41 : 0 ≤ (I38 0 31).toInt ∧ (I38 0 31).toInt ≤ 500 := by rw [fI38 0 31 (by decide)]; exact (by show 0 ≤ (I31 0 31).toInt ∧ (I31 0 31).toInt ≤ 500; rw [eI31, z_up_n (by decide), eI22, z_up_n (by decide), eI15, z_up_n (by decide), eI8, z_up_n (by decide), eI1, z_up_n (by decide)]; exact hmp.1)
    have k42 : 0 ≤ (I38 0 33).toInt ∧ (I38 0 33).toInt ≤ 500 := by rw [fI38 0 33 (by decide)]; exact (by show 0 ≤ (I31 0 33).toInt ∧ (I31 0 33).toInt ≤ 500; rw [eI31, z_up_n (by decide), eI22, z_up_n (by decide), eI15, z_up_n (by decide), eI8, z_up_n (by decide), eI1, z_up_n (by decide)]; exact hmp.2.1)
    have k43 : 0 ≤ (I38 0 34).toInt ∧ (I38 0 34).toInt ≤ 500 := by rw [fI38 0 34 (by decide)]; exact (by show 0 ≤ (I31 0 34).toInt ∧ (I31 0 34).toInt ≤ 500; rw [eI31, z_up_n (by decide), eI22, z_up_n (by decide), eI15, z_up_n (by decide), eI8, z_up_n (by decide), eI1, z_up_n (by decide)]; exact hmp.2.2.1)
    have k44 : 0 ≤ (I38 0 35).toInt ∧ (I38 0 35).toInt ≤ 500 := by rw [fI38 0 35 (by decide)]; exact (by show 0 ≤ (I31 0 35).toInt ∧ (I31 0 35).toInt ≤ 500; rw [eI31, z_up_n (by decide), eI22, z_up_n (by decide), eI15, z_up_n (by decide), eI8, z_up_n (by decide), eI1, z_up_n (by decide)]; exact hmp.2.2.2)
    have k45 : (I38 0 36).toInt = (I 0 36).toInt := by rw [fI38 0 36 (by decide), eI31, z_up_n (by decide), eI22, z_up_n (by decide), eI15, z_up_n (by decide), eI8, z_up_n (by decide), eI1, z_up_n (by decide)]
    have k46 : 0 ≤ (I38 0 47).toInt ∧ (I38 0 47).toInt ≤ 119 := by rw [fI38 0 47 (by decide)]; exact (by show 0 ≤ (I31 0 47).toInt ∧ (I31 0 47).toInt ≤ 119; rw [eI31, z_up_n (by decide), eI22, z_up_n (by decide), eI15, z_up_n (by decide), eI8, z_up_n (by decide), eI1, z_up_n (by decide)]; exact hmd.1)
    have k47 : 0 ≤ (I38 0 39).toInt ∧ (I38 0 39).toInt ≤ 100 := by rw [fI38 0 39 (by decide)]; exact (by show 0 ≤ (I31 0 39).toInt ∧ (I31 0 39).toInt ≤ 100; rw [eI31, z_up_n (by decide), eI22, z_up_n (by decide), eI15, z_up_n (by decide), eI8, z_up_n (by decide), eI1, z_up_n (by decide)]; exact hmd.2)
    have k48 : 0 ≤ (I38 0 40).toInt ∧ (I38 0 40).toInt ≤ 6199 := by rw [fI38 0 40 (by decide)]; exact (by show 0 ≤ (I31 0 40).toInt ∧ (I31 0 40).toInt ≤ 6199; rw [eI31, z_up_n (by decide), eI22, z_up_n (by decide), eI15, z_up_n (by decide), eI8, z_up_n (by decide), eI1, z_up_n (by decide)]; exact hmg)
    have k49 : 0 ≤ (I38 0 15).toInt ∧ (I38 0 15).toInt ≤ 6100 := by rw [fI38 0 15 (by decide)]; exact (by show 0 ≤ (I31 0 15).toInt ∧ (I31 0 15).toInt ≤ 6100; rw [eI31, z_up_n (by decide), eI22, z_up_n (by decide), eI15, z_up_n (by decide), eI8, z_up_n (by decide), eI1, z_up_n (by decide)]; exact hmn)
    have k50 : 0 ≤ (I38 0 35).toInt ∧ (I38 0 35).toInt ≤ (I38 0 34).toInt ∧ (I38 0 34).toInt ≤ (I38 0 33).toInt ∧ (I38 0 33).toInt ≤ 500 ∧ ((I38 0 36).toInt = 0 ∨ (I38 0 35).toInt + 1 ≤ (I38 0 34).toInt) := (by have q0 : (I38 0 35) = (I 0 35) := (by rw [fI38 0 35 (by decide), eI31, z_up_n (by decide), eI22, z_up_n (by decide), eI15, z_up_n (by decide), eI8, z_up_n (by decide), eI1, z_up_n (by decide)]); have q1 : (I38 0 34) = (I 0 34) := (by rw [fI38 0 34 (by decide), eI31, z_up_n (by decide), eI22, z_up_n (by decide), eI15, z_up_n (by decide), eI8, z_up_n (by decide), eI1, z_up_n (by decide)]); have q2 : (I38 0 33) = (I 0 33) := (by rw [fI38 0 33 (by decide), eI31, z_up_n (by decide), eI22, z_up_n (by decide), eI15, z_up_n (by decide), eI8, z_up_n (by decide), eI1, z_up_n (by decide)]); have q3 : (I38 0 36) = (I 0 36) := (by rw [fI38 0 36 (by decide), eI31, z_up_n (by decide), eI22, z_up_n (by decide), eI15, z_up_n (by decide), eI8, z_up_n (by decide), eI1, z_up_n (by decide)]); show 0 ≤ (I38 0 35).toInt ∧ (I38 0 35).toInt ≤ (I38 0 34).toInt ∧ (I38 0 34).toInt ≤ (I38 0 33).toInt ∧ (I38 0 33).toInt ≤ 500 ∧ ((I38 0 36).toInt = 0 ∨ (I38 0 35).toInt + 1 ≤ (I38 0 34).toInt); rw [q0, q1, q2, q3]; first | omega | decide)
    have k51 : (I38 0 35).toInt = (I 0 35).toInt := by rw [fI38 0 35 (by decide), eI31, z_up_n (by decide), eI22, z_up_n (by decide), eI15, z_up_n (by decide), eI8, z_up_n (by decide), eI1, z_up_n (by decide)]
    have k52 : (I38 0 34).toInt = (I 0 34).toInt := by rw [fI38 0 34 (by decide), eI31, z_up_n (by decide), eI22, z_up_n (by decide), eI15, z_up_n (by decide), eI8, z_up_n (by decide), eI1, z_up_n (by decide)]
    have k53 : (I38 0 36).toInt = (I 0 36).toInt := by rw [fI38 0 36 (by decide), eI31, z_up_n (by decide), eI22, z_up_n (by decide), eI15, z_up_n (by decide), eI8, z_up_n (by decide), eI1, z_up_n (by decide)]
    have k54 : (I38 0 47).toInt = (I 0 47).toInt := by rw [fI38 0 47 (by decide), eI31, z_up_n (by decide), eI22, z_up_n (by decide), eI15, z_up_n (by decide), eI8, z_up_n (by decide), eI1, z_up_n (by decide)]
    have k55 : (I38 0 39).toInt = (I 0 39).toInt := by rw [fI38 0 39 (by decide), eI31, z_up_n (by decide), eI22, z_up_n (by decide), eI15, z_up_n (by decide), eI8, z_up_n (by decide), eI1, z_up_n (by decide)]
    have k56 : (I38 0 15).toInt = (I 0 15).toInt := by rw [fI38 0 15 (by decide), eI31, z_up_n (by decide), eI22, z_up_n (by decide), eI15, z_up_n (by decide), eI8, z_up_n (by decide), eI1, z_up_n (by decide)]
    have k57 : (I38 0 40).toInt = (I 0 40).toInt := by rw [fI38 0 40 (by decide), eI31, z_up_n (by decide), eI22, z_up_n (by decide), eI15, z_up_n (by decide), eI8, z_up_n (by decide), eI1, z_up_n (by decide)]
    have h58 := hp
    exact z_vret hx hb hr hK hS (Nat.le_of_ble_eq_true rfl) (Nat.le_of_ble_eq_true rfl) hlocks dX12_statement_67 (shM, ad, I38, J40, PM ad) hW ⟨I38, J40, rfl, ⟨(by show 0 ≤ (I38 0 31).toInt ∧ (I38 0 31).toInt ≤ 500; exact k41), (by show 0 ≤ (I38 0 33).toInt ∧ (I38 0 33).toInt ≤ 500; exact k42), (by show 0 ≤ (I38 0 34).toInt ∧ (I38 0 34).toInt ≤ 500; exact k43), (by show 0 ≤ (I38 0 35).toInt ∧ (I38 0 35).toInt ≤ 500; exact k44)⟩, ⟨(by show 0 ≤ (I38 0 36).toInt ∧ (I38 0 36).toInt ≤ 4; exact hI38mt.1), (by show 0 ≤ (I38 0 42).toInt ∧ (I38 0 42).toInt ≤ 1; exact hI38mt.2)⟩, ⟨(by show 0 ≤ (I38 0 47).toInt ∧ (I38 0 47).toInt ≤ 119; exact k46), (by show 0 ≤ (I38 0 39).toInt ∧ (I38 0 39).toInt ≤ 100; exact k47)⟩, (by show 0 ≤ (I38 0 40).toInt ∧ (I38 0 40).toInt ≤ 6199; exact k48), (by show 0 ≤ (I38 0 15).toInt ∧ (I38 0 15).toInt ≤ 6100; exact k49), (z_Nd_fr a33 fI38 (by decide)), (by show 0 ≤ (I38 0 35).toInt ∧ (I38 0 35).toInt ≤ (I38 0 34).toInt ∧ (I38 0 34).toInt ≤ (I38 0 33).toInt ∧ (I38 0 33).toInt ≤ 500 ∧ ((I38 0 36).toInt = 0 ∨ (I38 0 35).toInt + 1 ≤ (I38 0 34).toInt); first | omega | decide), (z_rg_fr a34 fI38 (by decide)), (z_rg_fr a35 fI38 (by decide)), (z_rg_fr a36 fI38 (by decide)), (fun n => by by_cases q9 : n = a1.toNatClampNeg; (· (subst q9; rw [show I38 15 a1.toNatClampNeg = (-1) from (by rw [fI38 15 a1.toNatClampNeg (z_wr_c (by decide)), eI31, z_up_s]), show I38 17 a1.toNatClampNeg = (-1) from (by rw [fI38 17 a1.toNatClampNeg (z_wr_c (by decide)), eI31, z_up_n (by decide), eI22, z_up_n (by decide), eI15, z_up_n (by decide), eI8, z_up_s])]; have := z_lm1; have := z_lm1; omega)); (· (have g1 : I38 15 n = I 15 n := (by rw [fI38 15 n (z_wr_c (by decide)), eI31, z_up_k q9, eI22, z_up_n (by decide), eI15, z_up_n (by decide), eI8, z_up_n (by decide), eI1, z_up_n (by decide)]); have g2 : I38 17 n = I 17 n := (by rw [fI38 17 n (z_wr_c (by decide)), eI31, z_up_n (by decide), eI22, z_up_n (by decide), eI15, z_up_n (by decide), eI8, z_up_k q9, eI1, z_up_n (by decide)]); rw [g1, g2]; exact hEx n))), f39, (by show ¬ (I38 0 42).toInt = 0 ∨ 1010 * (500 - (I38 0 35).toInt) + 1000 * (I38 0 15).toInt ≤ 1010 * (500 - (I 0 35).toInt) + 1000 * (I 0 15).toInt + 20; omega)⟩
  · have g59 := z_f_eq rfl z_l1 c29
    refine lv_aload_n hx hb dX12_statement_39 rfl (lv_at hl 0 rfl) ?_
    refine lv_aload_n hx hb dX12_statement_40 rfl (lv_at hl 0 rfl) ?_
    refine z_get (T := TX12) (N := 96) (ci := 12) (i := 0) (v := .long (J 0 41)) hx hb hts zj_X12_statement_X12 hown hK hW rfl rfl 41 (by decide) (hts (.fieldLink RX12 271 "PetrolBoardModel" "word" "J") (me_s (me_l (me_l (List.mem_of_getElem? (i := 6) rfl))))) (fun _ h => h) rfl dX12_statement_41 ?_
    refine z_ci hW hS hA (va_runV (As := [.long (J 0 41)]) (rest := []) ⟨hx, hb, hml, hown, hts⟩ (sx_X12_ruleOf l G ad I22 J  (J 0 41) _) (cwV 1 hts gX12_statement_X12_ruleOf rfl rfl rfl hy_X12_ruleOf ⟨Nat.le_of_ble_eq_true rfl, Nat.le_of_ble_eq_true rfl⟩) (z_preV (i := 0) hK hW rfl rfl) rfl rfl hl.1 rfl (lv_room (Nat.le_of_ble_eq_true rfl)) dX12_statement_44 ⟨Nat.le_of_ble_eq_true rfl, Nat.le_of_ble_eq_true rfl⟩) (fun r u1 H locs hp hW hS => ?_)
    obtain ⟨e9, hp⟩ := hp
    rw [e9] at hW
    have hq := hp
    generalize r = x60 at hq ⊢
    have h61 := hq
    refine lv_goto (tgt := 51) hx hb dX12_statement_47 (by decide) ?_
    refine lv_istore_n (lv' := [(2, .int x60), (0, .ref (ad 0)), (1, .int a1)]) hx hb dX12_statement_51 rfl hl (by decide) rfl (fun ls hl => ?_)
    refine lv_aload_n hx hb dX12_statement_52 rfl (lv_at hl 1 rfl) ?_
    refine z_get (T := TX12) (N := 96) (ci := 12) (i := 0) (v := .ref (ad 15)) hx hb hts zj_X12_statement_X12 hown hK hW rfl rfl 20 (by decide) (hts (.fieldLink RX12 52 "PetrolBoardModel" "stRule" "[I") (me_s (me_l (me_l (List.mem_of_getElem? (i := 7) rfl))))) (fun _ h => h) rfl dX12_statement_53 ?_
    refine lv_iload_n hx hb dX12_statement_56 rfl (lv_at hl 2 rfl) ?_
    refine lv_iload_n hx hb dX12_statement_57 rfl (lv_at hl 0 rfl) ?_
    refine z_iast (i := 15) hx hb hK hW hS rfl (z_ix rfl (by omega) (by omega)) dX12_statement_58 (fun H locs hz1 hW hS => ?_)
    obtain ⟨I62, eI62⟩ : ∃ K : z_I, K = z_up I22 15 a1.toNatClampNeg x60 := ⟨_, rfl⟩
    rw [← eI62] at hW
    have f63 := z_fr_a f23 (show z_wa L_X12_statement 15 = true by decide) eI62
    have a64 := z_Nd_n a24 (by decide) eI62
    have a65 := z_rg_n a25 (by decide) eI62
    have a66 := z_rg_n a26 (by decide) eI62
    have a67 := z_rg_n a27 (by decide) eI62
    refine lv_iload_n hx hb dX12_statement_59 rfl (lv_at hl 0 rfl) ?_
    refine lv_if_ge (tgt := 68) hx hb dX12_statement_60 (by decide) (fun c68 => ?_) (fun c68 => ?_)
    · have g69 := z_f_ge rfl z_l0 c68
      refine lv_aload_n hx hb dX12_statement_68 rfl (lv_at hl 1 rfl) ?_
      refine z_cv hW hS hA (va_runV (As := []) (rest := []) ⟨hx, hb, hml, hown, hts⟩ (sx_X12_next l G ad I62 J ⟨(by show 0 ≤ (I62 0 31).toInt ∧ (I62 0 31).toInt ≤ 500; rw [eI62, z_up_n (by decide), eI22, z_up_n (by decide), eI15, z_up_n (by decide), eI8, z_up_n (by decide), eI1, z_up_n (by decide)]; exact hmp.1), (by show 0 ≤ (I62 0 33).toInt ∧ (I62 0 33).toInt ≤ 500; rw [eI62, z_up_n (by decide), eI22, z_up_n (by decide), eI15, z_up_n (by decide), eI8, z_up_n (by decide), eI1, z_up_n (by decide)]; exact hmp.2.1), (by show 0 ≤ (I62 0 34).toInt ∧ (I62 0 34).toInt ≤ 500; rw [eI62, z_up_n (by decide), eI22, z_up_n (by decide), eI15, z_up_n (by decide), eI8, z_up_n (by decide), eI1, z_up_n (by decide)]; exact hmp.2.2.1), (by show 0 ≤ (I62 0 35).toInt ∧ (I62 0 35).toInt ≤ 500; rw [eI62, z_up_n (by decide), eI22, z_up_n (by decide), eI15, z_up_n (by decide), eI8, z_up_n (by decide), eI1, z_up_n (by decide)]; exact hmp.2.2.2)⟩ ⟨(by show 0 ≤ (I62 0 36).toInt ∧ (I62 0 36).toInt ≤ 4; rw [eI62, z_up_n (by decide), eI22, z_up_n (by decide), eI15, z_up_n (by decide), eI8, z_up_n (by decide), eI1, z_up_n (by decide)]; exact hmt.1), (by show 0 ≤ (I62 0 42).toInt ∧ (I62 0 42).toInt ≤ 1; rw [eI62, z_up_n (by decide), eI22, z_up_n (by decide), eI15, z_up_n (by decide), eI8, z_up_n (by decide), eI1, z_up_n (by decide)]; exact hmt.2)⟩ (by have q0 : (I62 0 34) = (I 0 34) := (by rw [eI62, z_up_n (by decide), eI22, z_up_n (by decide), eI15, z_up_n (by decide), eI8, z_up_n (by decide), eI1, z_up_n (by decide)]); have q1 : (I62 0 33) = (I 0 33) := (by rw [eI62, z_up_n (by decide), eI22, z_up_n (by decide), eI15, z_up_n (by decide), eI8, z_up_n (by decide), eI1, z_up_n (by decide)]); show 0 ≤ (I62 0 34).toInt ∧ (I62 0 34).toInt ≤ (I62 0 33).toInt ∧ (I62 0 33).toInt ≤ 500; rw [q0, q1]; first | omega | decide)  _) (cwV 0 hts gX12_statement_X12_next rfl rfl rfl hy_X12_next ⟨Nat.le_of_ble_eq_true rfl, Nat.le_of_ble_eq_true rfl⟩) (z_preV (i := 0) hK hW rfl rfl) rfl rfl hl.1 rfl (lv_room (Nat.le_of_ble_eq_true rfl)) dX12_statement_69 ⟨Nat.le_of_ble_eq_true rfl, Nat.le_of_ble_eq_true rfl⟩) (fun u1 H locs hp hW hS => ?_)
      obtain ⟨I70, J72, e9, hI70mp, hI70mt, hI70rp, fI70, hp⟩ := hp
      rw [e9] at hW
      have f71 := z_fr_sub (L := L_X12_statement) f63 fI70 (by decide)
      have k73 : 0 ≤ (I70 0 47).toInt ∧ (I70 0 47).toInt ≤ 119 := by rw [fI70 0 47 (by decide)]; exact (by show 0 ≤ (I62 0 47).toInt ∧ (I62 0 47).toInt ≤ 119; rw [eI62, z_up_n (by decide), eI22, z_up_n (by decide), eI15, z_up_n (by decide), eI8, z_up_n (by decide), eI1, z_up_n (by decide)]; exact hmd.1)
      have k74 : 0 ≤ (I70 0 39).toInt ∧ (I70 0 39).toInt ≤ 100 := by rw [fI70 0 39 (by decide)]; exact (by show 0 ≤ (I62 0 39).toInt ∧ (I62 0 39).toInt ≤ 100; rw [eI62, z_up_n (by decide), eI22, z_up_n (by decide), eI15, z_up_n (by decide), eI8, z_up_n (by decide), eI1, z_up_n (by decide)]; exact hmd.2)
      have k75 : 0 ≤ (I70 0 40).toInt ∧ (I70 0 40).toInt ≤ 6199 := by rw [fI70 0 40 (by decide)]; exact (by show 0 ≤ (I62 0 40).toInt ∧ (I62 0 40).toInt ≤ 6199; rw [eI62, z_up_n (by decide), eI22, z_up_n (by decide), eI15, z_up_n (by decide), eI8, z_up_n (by decide), eI1, z_up_n (by decide)]; exact hmg)
      have k76 : 0 ≤ (I70 0 15).toInt ∧ (I70 0 15).toInt ≤ 6100 := by rw [fI70 0 15 (by decide)]; exact (by show 0 ≤ (I62 0 15).toInt ∧ (I62 0 15).toInt ≤ 6100; rw [eI62, z_up_n (by decide), eI22, z_up_n (by decide), eI15, z_up_n (by decide), eI8, z_up_n (by decide), eI1, z_up_n (by decide)]; exact hmn)
      have k77 : 0 ≤ (I70 0 35).toInt ∧ (I70 0 35).toInt ≤ (I70 0 34).toInt ∧ (I70 0 34).toInt ≤ (I70 0 33).toInt ∧ (I70 0 33).toInt ≤ 500 ∧ ((I70 0 36).toInt = 0 ∨ (I70 0 35).toInt + 1 ≤ (I70 0 34).toInt) := hI70rp
      have k78 : (I70 0 42).toInt = (I 0 42).toInt := by rw [fI70 0 42 (by decide), eI62, z_up_n (by decide), eI22, z_up_n (by decide), eI15, z_up_n (by decide), eI8, z_up_n (by decide), eI1, z_up_n (by decide)]
      have k79 : (I70 0 47).toInt = (I 0 47).toInt := by rw [fI70 0 47 (by decide), eI62, z_up_n (by decide), eI22, z_up_n (by decide), eI15, z_up_n (by decide), eI8, z_up_n (by decide), eI1, z_up_n (by decide)]
      have k80 : (I70 0 39).toInt = (I 0 39).toInt := by rw [fI70 0 39 (by decide), eI62, z_up_n (by decide), eI22, z_up_n (by decide), eI15, z_up_n (by decide), eI8, z_up_n (by decide), eI1, z_up_n (by decide)]
      have k81 : (I70 0 15).toInt = (I 0 15).toInt := by rw [fI70 0 15 (by decide), eI62, z_up_n (by decide), eI22, z_up_n (by decide), eI15, z_up_n (by decide), eI8, z_up_n (by decide), eI1, z_up_n (by decide)]
      have k82 : (I70 0 40).toInt = (I 0 40).toInt := by rw [fI70 0 40 (by decide), eI62, z_up_n (by decide), eI22, z_up_n (by decide), eI15, z_up_n (by decide), eI8, z_up_n (by decide), eI1, z_up_n (by decide)]
      have h83 := hp
      rw [show (I62 0 34) = (I 0 34) from by rw [eI62, z_up_n (by decide), eI22, z_up_n (by decide), eI15, z_up_n (by decide), eI8, z_up_n (by decide), eI1, z_up_n (by decide)]] at h83
      refine lv_iload_n hx hb dX12_statement_72 rfl (lv_at hl 0 rfl) ?_
      refine lv_iconst (v := 2) hx hb dX12_statement_73 (by decide) ?_
      refine lv_icmp_ge (tgt := 123) hx hb dX12_statement_74 (by decide) (fun c84 => ?_) (fun c84 => ?_)
      · have g85 := z_f_ge rfl z_l2 c84
        refine lv_iload_n hx hb dX12_statement_123 rfl (lv_at hl 0 rfl) ?_
        refine lv_iconst (v := 2) hx hb dX12_statement_124 (by decide) ?_
        refine lv_icmp_ne (tgt := 142) hx hb dX12_statement_125 (by decide) (fun c86 => ?_) (fun c86 => ?_)
        · have g87 := z_f_ne rfl z_l2 c86
          refine lv_aload_n hx hb dX12_statement_142 rfl (lv_at hl 1 rfl) ?_
          have r88 : 0 ≤ (I70 0 36).toInt ∧ (I70 0 36).toInt ≤ 4 := hI70mt.1
          refine z_get (T := TX12) (N := 96) (ci := 12) (i := 0) (v := .int (I70 0 36)) hx hb hts zj_X12_statement_X12 hown hK hW rfl rfl 36 (by decide) (hts (.fieldLink RX12 281 "PetrolBoardModel" "token" "I") (me_s (me_l (me_l (List.mem_of_getElem? (i := 5) rfl))))) (fun _ h => h) rfl dX12_statement_143 ?_
          refine lv_iconst (v := 2) hx hb dX12_statement_146 (by decide) ?_
          refine lv_icmp_ne (tgt := 179) hx hb dX12_statement_147 (by decide) (fun c89 => ?_) (fun c89 => ?_)
          · have g90 := z_f_ne rfl z_l2 c89
            refine lv_aload_n hx hb dX12_statement_179 rfl (lv_at hl 1 rfl) ?_
            refine z_cv hW hS hA (va_runV (As := []) (rest := []) ⟨hx, hb, hml, hown, hts⟩ (sx_X12_errs l G ad I70 J72 ⟨(by show 0 ≤ (I70 0 36).toInt ∧ (I70 0 36).toInt ≤ 4; exact hI70mt.1), (by show 0 ≤ (I70 0 42).toInt ∧ (I70 0 42).toInt ≤ 1; exact hI70mt.2)⟩  _) (cwV 0 hts gX12_statement_X12_errs rfl rfl rfl hy_X12_errs ⟨Nat.le_of_ble_eq_true rfl, Nat.le_of_ble_eq_true rfl⟩) (z_preV (i := 0) hK hW rfl rfl) rfl rfl hl.1 rfl (lv_room (Nat.le_of_ble_eq_true rfl)) dX12_statement_180 ⟨Nat.le_of_ble_eq_true rfl, Nat.le_of_ble_eq_true rfl⟩) (fun u1 H locs hp hW hS => ?_)
            obtain ⟨I91, J93, e9, hI91mt, fI91, hp⟩ := hp
            rw [e9] at hW
            have f92 := z_fr_sub (L := L_X12_statement) f71 fI91 (by decide)
            have k94 : 0 ≤ (I91 0 31).toInt ∧ (I91 0 31).toInt ≤ 500 := by rw [fI91 0 31 (by decide)]; exact (by show 0 ≤ (I70 0 31).toInt ∧ (I70 0 31).toInt ≤ 500; exact hI70mp.1)
            have k95 : 0 ≤ (I91 0 33).toInt ∧ (I91 0 33).toInt ≤ 500 := by rw [fI91 0 33 (by decide)]; exact (by show 0 ≤ (I70 0 33).toInt ∧ (I70 0 33).toInt ≤ 500; exact hI70mp.2.1)
            have k96 : 0 ≤ (I91 0 34).toInt ∧ (I91 0 34).toInt ≤ 500 := by rw [fI91 0 34 (by decide)]; exact (by show 0 ≤ (I70 0 34).toInt ∧ (I70 0 34).toInt ≤ 500; exact hI70mp.2.2.1)
            have k97 : 0 ≤ (I91 0 35).toInt ∧ (I91 0 35).toInt ≤ 500 := by rw [fI91 0 35 (by decide)]; exact (by show 0 ≤ (I70 0 35).toInt ∧ (I70 0 35).toInt ≤ 500; exact hI70mp.2.2.2)
            have k98 : (I91 0 36).toInt = (I70 0 36).toInt := by rw [fI91 0 36 (by decide)]
            have k99 : 0 ≤ (I91 0 47).toInt ∧ (I91 0 47).toInt ≤ 119 := by rw [fI91 0 47 (by decide)]; exact (by show 0 ≤ (I70 0 47).toInt ∧ (I70 0 47).toInt ≤ 119; exact k73)
            have k100 : 0 ≤ (I91 0 39).toInt ∧ (I91 0 39).toInt ≤ 100 := by rw [fI91 0 39 (by decide)]; exact (by show 0 ≤ (I70 0 39).toInt ∧ (I70 0 39).toInt ≤ 100; exact k74)
            have k101 : 0 ≤ (I91 0 40).toInt ∧ (I91 0 40).toInt ≤ 6199 := by rw [fI91 0 40 (by decide)]; exact (by show 0 ≤ (I70 0 40).toInt ∧ (I70 0 40).toInt ≤ 6199; exact k75)
            have k102 : 0 ≤ (I91 0 15).toInt ∧ (I91 0 15).toInt ≤ 6100 := by rw [fI91 0 15 (by decide)]; exact (by show 0 ≤ (I70 0 15).toInt ∧ (I70 0 15).toInt ≤ 6100; exact k76)
            have k103 : 0 ≤ (I91 0 35).toInt ∧ (I91 0 35).toInt ≤ (I91 0 34).toInt ∧ (I91 0 34).toInt ≤ (I91 0 33).toInt ∧ (I91 0 33).toInt ≤ 500 ∧ ((I91 0 36).toInt = 0 ∨ (I91 0 35).toInt + 1 ≤ (I91 0 34).toInt) := (by have q0 : (I91 0 35) = (I70 0 35) := (by rw [fI91 0 35 (by decide)]); have q1 : (I91 0 34) = (I70 0 34) := (by rw [fI91 0 34 (by decide)]); have q2 : (I91 0 33) = (I70 0 33) := (by rw [fI91 0 33 (by decide)]); have q3 : (I91 0 36) = (I70 0 36) := (by rw [fI91 0 36 (by decide)]); show 0 ≤ (I91 0 35).toInt ∧ (I91 0 35).toInt ≤ (I91 0 34).toInt ∧ (I91 0 34).toInt ≤ (I91 0 33).toInt ∧ (I91 0 33).toInt ≤ 500 ∧ ((I91 0 36).toInt = 0 ∨ (I91 0 35).toInt + 1 ≤ (I91 0 34).toInt); rw [q0, q1, q2, q3]; first | omega | decide)
            have k104 : (I91 0 35).toInt = (I70 0 35).toInt := by rw [fI91 0 35 (by decide)]
            have k105 : (I91 0 34).toInt = (I70 0 34).toInt := by rw [fI91 0 34 (by decide)]
            have k106 : (I91 0 36).toInt = (I70 0 36).toInt := by rw [fI91 0 36 (by decide)]
            have k107 : (I91 0 47).toInt = (I70 0 47).toInt := by rw [fI91 0 47 (by decide)]
            have k108 : (I91 0 39).toInt = (I70 0 39).toInt := by rw [fI91 0 39 (by decide)]
            have k109 : (I91 0 15).toInt = (I70 0 15).toInt := by rw [fI91 0 15 (by decide)]
            have k110 : (I91 0 40).toInt = (I70 0 40).toInt := by rw [fI91 0 40 (by decide)]
            have h111 := hp
            refine lv_aload_n hx hb dX12_statement_183 rfl (lv_at hl 1 rfl) ?_
            refine z_get (T := TX12) (N := 96) (ci := 12) (i := 0) (v := .ref (ad 20)) hx hb hts zj_X12_statement_X12 hown hK hW rfl rfl 25 (by decide) (hts (.fieldLink RX12 67 "PetrolBoardModel" "stTo" "[I") (me_s (me_l (me_l (List.mem_of_getElem? (i := 11) rfl))))) (fun _ h => h) rfl dX12_statement_184 ?_
            refine lv_iload_n hx hb dX12_statement_187 rfl (lv_at hl 2 rfl) ?_
            refine lv_aload_n hx hb dX12_statement_188 rfl (lv_at hl 1 rfl) ?_
            have r112 : 0 ≤ (I91 0 15).toInt ∧ (I91 0 15).toInt ≤ 6100 := k102
            refine z_get (T := TX12) (N := 96) (ci := 12) (i := 0) (v := .int (I91 0 15)) hx hb hts zj_X12_statement_X12 hown hK hW rfl rfl 15 (by decide) (hts (.fieldLink RX12 337 "PetrolBoardModel" "nodes" "I") (me_s (me_l (me_l (List.mem_of_getElem? (i := 4) rfl))))) (fun _ h => h) rfl dX12_statement_189 ?_
            refine z_iast (i := 20) hx hb hK hW hS rfl (z_ix rfl (by omega) (by omega)) dX12_statement_192 (fun H locs hz1 hW hS => ?_)
            obtain ⟨I113, eI113⟩ : ∃ K : z_I, K = z_up I91 20 a1.toNatClampNeg (I91 0 15) := ⟨_, rfl⟩
            rw [← eI113] at hW
            have f114 := z_fr_a f92 (show z_wa L_X12_statement 20 = true by decide) eI113
            have a115 := z_Nd_n (z_Nd_fr (z_Nd_fr a64 fI70 (by decide)) fI91 (by decide)) (by decide) eI113
            have a116 := z_rg_n (z_rg_fr (z_rg_fr a65 fI70 (by decide)) fI91 (by decide)) (by decide) eI113
            have a117 := z_rg_a (z_rg_fr (z_rg_fr a66 fI70 (by decide)) fI91 (by decide)) (by omega) eI113
            have a118 := z_rg_n (z_rg_fr (z_rg_fr a67 fI70 (by decide)) fI91 (by decide)) (by decide) eI113
            refine lv_aload_n hx hb dX12_statement_193 rfl (lv_at hl 1 rfl) ?_
            have r119 : 0 ≤ (I91 0 42).toInt ∧ (I91 0 42).toInt ≤ 1 := hI91mt.2
            refine z_get (T := TX12) (N := 96) (ci := 12) (i := 0) (v := .int (I91 0 42)) hx hb hts zj_X12_statement_X12 hown hK hW rfl rfl 42 (by decide) (hts (.fieldLink RX12 294 "PetrolBoardModel" "isWrong" "Z") (me_s (me_l (me_l (List.mem_of_getElem? (i := 8) rfl))))) (fun _ h => h) (congrArg Value.int (by rw [eI113, z_up_n (by decide)])) dX12_statement_194 ?_
            refine lv_if_ne (tgt := 206) hx hb dX12_statement_197 (by decide) (fun c120 => ?_) (fun c120 => ?_)
            · have g121 := z_f_ne rfl z_l0 c120
              exact z_vret hx hb hr hK hS (Nat.le_of_ble_eq_true rfl) (Nat.le_of_ble_eq_true rfl) hlocks dX12_statement_206 (shM, ad, I113, J93, PM ad) hW ⟨I113, J93, rfl, ⟨(by show 0 ≤ (I113 0 31).toInt ∧ (I113 0 31).toInt ≤ 500; rw [eI113, z_up_n (by decide)]; exact k94), (by show 0 ≤ (I113 0 33).toInt ∧ (I113 0 33).toInt ≤ 500; rw [eI113, z_up_n (by decide)]; exact k95), (by show 0 ≤ (I113 0 34).toInt ∧ (I113 0 34).toInt ≤ 500; rw [eI113, z_up_n (by decide)]; exact k96), (by show 0 ≤ (I113 0 35).toInt ∧ (I113 0 35).toInt ≤ 500; rw [eI113, z_up_n (by decide)]; exact k97)⟩, ⟨(by show 0 ≤ (I113 0 36).toInt ∧ (I113 0 36).toInt ≤ 4; rw [eI113, z_up_n (by decide)]; exact hI91mt.1), (by show 0 ≤ (I113 0 42).toInt ∧ (I113 0 42).toInt ≤ 1; rw [eI113, z_up_n (by decide)]; exact hI91mt.2)⟩, ⟨(by show 0 ≤ (I113 0 47).toInt ∧ (I113 0 47).toInt ≤ 119; rw [eI113, z_up_n (by decide)]; exact k99), (by show 0 ≤ (I113 0 39).toInt ∧ (I113 0 39).toInt ≤ 100; rw [eI113, z_up_n (by decide)]; exact k100)⟩, (by show 0 ≤ (I113 0 40).toInt ∧ (I113 0 40).toInt ≤ 6199; rw [eI113, z_up_n (by decide)]; exact k101), (by show 0 ≤ (I113 0 15).toInt ∧ (I113 0 15).toInt ≤ 6100; rw [eI113, z_up_n (by decide)]; exact k102), a115, (by have q0 : (I113 0 35) = (I91 0 35) := (by rw [eI113, z_up_n (by decide)]); have q1 : (I113 0 34) = (I91 0 34) := (by rw [eI113, z_up_n (by decide)]); have q2 : (I113 0 33) = (I91 0 33) := (by rw [eI113, z_up_n (by decide)]); have q3 : (I113 0 36) = (I91 0 36) := (by rw [eI113, z_up_n (by decide)]); show 0 ≤ (I113 0 35).toInt ∧ (I113 0 35).toInt ≤ (I113 0 34).toInt ∧ (I113 0 34).toInt ≤ (I113 0 33).toInt ∧ (I113 0 33).toInt ≤ 500 ∧ ((I113 0 36).toInt = 0 ∨ (I113 0 35).toInt + 1 ≤ (I113 0 34).toInt); rw [q0, q1, q2, q3]; first | omega | decide), a116, a117, a118, (fun n => by by_cases q9 : n = a1.toNatClampNeg; (· (subst q9; rw [show I113 15 a1.toNatClampNeg = x60 from (by rw [eI113, z_up_n (by decide), fI91 15 a1.toNatClampNeg (z_wr_c (by decide)), fI70 15 a1.toNatClampNeg (z_wr_c (by decide)), eI62, z_up_s]), show I113 17 a1.toNatClampNeg = (-1) from (by rw [eI113, z_up_n (by decide), fI91 17 a1.toNatClampNeg (z_wr_c (by decide)), fI70 17 a1.toNatClampNeg (z_wr_c (by decide)), eI62, z_up_n (by decide), eI22, z_up_n (by decide), eI15, z_up_n (by decide), eI8, z_up_s])]; have := z_lm1; omega)); (· (have g1 : I113 15 n = I 15 n := (by rw [eI113, z_up_n (by decide), fI91 15 n (z_wr_c (by decide)), fI70 15 n (z_wr_c (by decide)), eI62, z_up_k q9, eI22, z_up_n (by decide), eI15, z_up_n (by decide), eI8, z_up_n (by decide), eI1, z_up_n (by decide)]); have g2 : I113 17 n = I 17 n := (by rw [eI113, z_up_n (by decide), fI91 17 n (z_wr_c (by decide)), fI70 17 n (z_wr_c (by decide)), eI62, z_up_n (by decide), eI22, z_up_n (by decide), eI15, z_up_n (by decide), eI8, z_up_k q9, eI1, z_up_n (by decide)]); rw [g1, g2]; exact hEx n))), f114, (by have q0 : (I113 0 42) = (I91 0 42) := (by rw [eI113, z_up_n (by decide)]); have q1 : (I113 0 35) = (I91 0 35) := (by rw [eI113, z_up_n (by decide)]); have q2 : (I113 0 15) = (I91 0 15) := (by rw [eI113, z_up_n (by decide)]); show ¬ (I113 0 42).toInt = 0 ∨ 1010 * (500 - (I113 0 35).toInt) + 1000 * (I113 0 15).toInt ≤ 1010 * (500 - (I 0 35).toInt) + 1000 * (I 0 15).toInt + 20; rw [q0, q1, q2]; omega)⟩
            · have g122 := z_f_eq rfl z_l0 c120
              refine lv_aload_n hx hb dX12_statement_200 rfl (lv_at hl 1 rfl) ?_
              refine lv_bipush (v := 59) hx hb dX12_statement_201 (by decide) ?_
              refine z_cv hW hS hA (va_runV (As := [.int 59]) (rest := []) ⟨hx, hb, hml, hown, hts⟩ (sx_X12_must l G ad I113 J93 ⟨(by show 0 ≤ (I113 0 31).toInt ∧ (I113 0 31).toInt ≤ 500; rw [eI113, z_up_n (by decide)]; exact k94), (by show 0 ≤ (I113 0 33).toInt ∧ (I113 0 33).toInt ≤ 500; rw [eI113, z_up_n (by decide)]; exact k95), (by show 0 ≤ (I113 0 34).toInt ∧ (I113 0 34).toInt ≤ 500; rw [eI113, z_up_n (by decide)]; exact k96), (by show 0 ≤ (I113 0 35).toInt ∧ (I113 0 35).toInt ≤ 500; rw [eI113, z_up_n (by decide)]; exact k97)⟩ ⟨(by show 0 ≤ (I113 0 36).toInt ∧ (I113 0 36).toInt ≤ 4; rw [eI113, z_up_n (by decide)]; exact hI91mt.1), (by show 0 ≤ (I113 0 42).toInt ∧ (I113 0 42).toInt ≤ 1; rw [eI113, z_up_n (by decide)]; exact hI91mt.2)⟩ (by have q0 : (I113 0 35) = (I91 0 35) := (by rw [eI113, z_up_n (by decide)]); have q1 : (I113 0 34) = (I91 0 34) := (by rw [eI113, z_up_n (by decide)]); have q2 : (I113 0 33) = (I91 0 33) := (by rw [eI113, z_up_n (by decide)]); have q3 : (I113 0 36) = (I91 0 36) := (by rw [eI113, z_up_n (by decide)]); show 0 ≤ (I113 0 35).toInt ∧ (I113 0 35).toInt ≤ (I113 0 34).toInt ∧ (I113 0 34).toInt ≤ (I113 0 33).toInt ∧ (I113 0 33).toInt ≤ 500 ∧ ((I113 0 36).toInt = 0 ∨ (I113 0 35).toInt + 1 ≤ (I113 0 34).toInt); rw [q0, q1, q2, q3]; first | omega | decide) 59 _) (cwV 1 hts gX12_statement_X12_must rfl rfl rfl hy_X12_must ⟨Nat.le_of_ble_eq_true rfl, Nat.le_of_ble_eq_true rfl⟩) (z_preV (i := 0) hK hW rfl rfl) rfl rfl hl.1 rfl (lv_room (Nat.le_of_ble_eq_true rfl)) dX12_statement_203 ⟨Nat.le_of_ble_eq_true rfl, Nat.le_of_ble_eq_true rfl⟩) (fun u1 H locs hp hW hS => ?_)
              obtain ⟨I123, J125, e9, hI123mp, hI123mt, hI123rp, fI123, hp⟩ := hp
              rw [e9] at hW
              have f124 := z_fr_sub (L := L_X12_statement) f114 fI123 (by decide)
              have k126 : 0 ≤ (I123 0 47).toInt ∧ (I123 0 47).toInt ≤ 119 := by rw [fI123 0 47 (by decide)]; exact (by show 0 ≤ (I113 0 47).toInt ∧ (I113 0 47).toInt ≤ 119; rw [eI113, z_up_n (by decide)]; exact k99)
              have k127 : 0 ≤ (I123 0 39).toInt ∧ (I123 0 39).toInt ≤ 100 := by rw [fI123 0 39 (by decide)]; exact (by show 0 ≤ (I113 0 39).toInt ∧ (I113 0 39).toInt ≤ 100; rw [eI113, z_up_n (by decide)]; exact k100)
              have k128 : 0 ≤ (I123 0 40).toInt ∧ (I123 0 40).toInt ≤ 6199 := by rw [fI123 0 40 (by decide)]; exact (by show 0 ≤ (I113 0 40).toInt ∧ (I113 0 40).toInt ≤ 6199; rw [eI113, z_up_n (by decide)]; exact k101)
              have k129 : 0 ≤ (I123 0 15).toInt ∧ (I123 0 15).toInt ≤ 6100 := by rw [fI123 0 15 (by decide)]; exact (by show 0 ≤ (I113 0 15).toInt ∧ (I113 0 15).toInt ≤ 6100; rw [eI113, z_up_n (by decide)]; exact k102)
              have k130 : 0 ≤ (I123 0 35).toInt ∧ (I123 0 35).toInt ≤ (I123 0 34).toInt ∧ (I123 0 34).toInt ≤ (I123 0 33).toInt ∧ (I123 0 33).toInt ≤ 500 ∧ ((I123 0 36).toInt = 0 ∨ (I123 0 35).toInt + 1 ≤ (I123 0 34).toInt) := hI123rp
              have k131 : (I123 0 47).toInt = (I91 0 47).toInt := by rw [fI123 0 47 (by decide), eI113, z_up_n (by decide)]
              have k132 : (I123 0 39).toInt = (I91 0 39).toInt := by rw [fI123 0 39 (by decide), eI113, z_up_n (by decide)]
              have k133 : (I123 0 15).toInt = (I91 0 15).toInt := by rw [fI123 0 15 (by decide), eI113, z_up_n (by decide)]
              have k134 : (I123 0 40).toInt = (I91 0 40).toInt := by rw [fI123 0 40 (by decide), eI113, z_up_n (by decide)]
              have h135 := hp
              rw [show (I113 0 35) = (I91 0 35) from by rw [eI113, z_up_n (by decide)]] at h135
              exact z_vret hx hb hr hK hS (Nat.le_of_ble_eq_true rfl) (Nat.le_of_ble_eq_true rfl) hlocks dX12_statement_206 (shM, ad, I123, J125, PM ad) hW ⟨I123, J125, rfl, ⟨(by show 0 ≤ (I123 0 31).toInt ∧ (I123 0 31).toInt ≤ 500; exact hI123mp.1), (by show 0 ≤ (I123 0 33).toInt ∧ (I123 0 33).toInt ≤ 500; exact hI123mp.2.1), (by show 0 ≤ (I123 0 34).toInt ∧ (I123 0 34).toInt ≤ 500; exact hI123mp.2.2.1), (by show 0 ≤ (I123 0 35).toInt ∧ (I123 0 35).toInt ≤ 500; exact hI123mp.2.2.2)⟩, ⟨(by show 0 ≤ (I123 0 36).toInt ∧ (I123 0 36).toInt ≤ 4; exact hI123mt.1), (by show 0 ≤ (I123 0 42).toInt ∧ (I123 0 42).toInt ≤ 1; exact hI123mt.2)⟩, ⟨(by show 0 ≤ (I123 0 47).toInt ∧ (I123 0 47).toInt ≤ 119; exact k126), (by show 0 ≤ (I123 0 39).toInt ∧ (I123 0 39).toInt ≤ 100; exact k127)⟩, (by show 0 ≤ (I123 0 40).toInt ∧ (I123 0 40).toInt ≤ 6199; exact k128), (by show 0 ≤ (I123 0 15).toInt ∧ (I123 0 15).toInt ≤ 6100; exact k129), (z_Nd_fr a115 fI123 (by decide)), (by show 0 ≤ (I123 0 35).toInt ∧ (I123 0 35).toInt ≤ (I123 0 34).toInt ∧ (I123 0 34).toInt ≤ (I123 0 33).toInt ∧ (I123 0 33).toInt ≤ 500 ∧ ((I123 0 36).toInt = 0 ∨ (I123 0 35).toInt + 1 ≤ (I123 0 34).toInt); first | omega | decide), (z_rg_fr a116 fI123 (by decide)), (z_rg_fr a117 fI123 (by decide)), (z_rg_fr a118 fI123 (by decide)), (fun n => by by_cases q9 : n = a1.toNatClampNeg; (· (subst q9; rw [show I123 15 a1.toNatClampNeg = x60 from (by rw [fI123 15 a1.toNatClampNeg (z_wr_c (by decide)), eI113, z_up_n (by decide), fI91 15 a1.toNatClampNeg (z_wr_c (by decide)), fI70 15 a1.toNatClampNeg (z_wr_c (by decide)), eI62, z_up_s]), show I123 17 a1.toNatClampNeg = (-1) from (by rw [fI123 17 a1.toNatClampNeg (z_wr_c (by decide)), eI113, z_up_n (by decide), fI91 17 a1.toNatClampNeg (z_wr_c (by decide)), fI70 17 a1.toNatClampNeg (z_wr_c (by decide)), eI62, z_up_n (by decide), eI22, z_up_n (by decide), eI15, z_up_n (by decide), eI8, z_up_s])]; have := z_lm1; omega)); (· (have g1 : I123 15 n = I 15 n := (by rw [fI123 15 n (z_wr_c (by decide)), eI113, z_up_n (by decide), fI91 15 n (z_wr_c (by decide)), fI70 15 n (z_wr_c (by decide)), eI62, z_up_k q9, eI22, z_up_n (by decide), eI15, z_up_n (by decide), eI8, z_up_n (by decide), eI1, z_up_n (by decide)]); have g2 : I123 17 n = I 17 n := (by rw [fI123 17 n (z_wr_c (by decide)), eI113, z_up_n (by decide), fI91 17 n (z_wr_c (by decide)), fI70 17 n (z_wr_c (by decide)), eI62, z_up_n (by decide), eI22, z_up_n (by decide), eI15, z_up_n (by decide), eI8, z_up_k q9, eI1, z_up_n (by decide)]); rw [g1, g2]; exact hEx n))), f124, (by show ¬ (I123 0 42).toInt = 0 ∨ 1010 * (500 - (I123 0 35).toInt) + 1000 * (I123 0 15).toInt ≤ 1010 * (500 - (I 0 35).toInt) + 1000 * (I 0 15).toInt + 20; omega)⟩
          · have g136 := z_f_eq rfl z_l2 c89
            refine lv_aload_n hx hb dX12_statement_150 rfl (lv_at hl 1 rfl) ?_
            refine z_get (T := TX12) (N := 96) (ci := 12) (i := 0) (v := .int (I70 0 38)) hx hb hts zj_X12_statement_X12 hown hK hW rfl rfl 38 (by decide) (hts (.fieldLink RX12 278 "PetrolBoardModel" "value" "I") (me_s (me_l (me_l (List.mem_of_getElem? (i := 10) rfl))))) (fun _ h => h) rfl dX12_statement_151 ?_
            refine lv_if_gt (tgt := 162) hx hb dX12_statement_154 (by decide) (fun c137 => ?_) (fun c137 => ?_)
            · have g138 := z_f_gt rfl z_l0 c137
              have b139 := Int32.toInt_lt (I70 0 38)
              refine lv_aload_n hx hb dX12_statement_162 rfl (lv_at hl 1 rfl) ?_
              refine z_get (T := TX12) (N := 96) (ci := 12) (i := 0) (v := .ref (ad 16)) hx hb hts zj_X12_statement_X12 hown hK hW rfl rfl 21 (by decide) (hts (.fieldLink RX12 55 "PetrolBoardModel" "stNumber" "[I") (me_s (me_l (me_l (List.mem_of_getElem? (i := 0) rfl))))) (fun _ h => h) rfl dX12_statement_163 ?_
              refine lv_iload_n hx hb dX12_statement_166 rfl (lv_at hl 2 rfl) ?_
              refine lv_aload_n hx hb dX12_statement_167 rfl (lv_at hl 1 rfl) ?_
              refine z_get (T := TX12) (N := 96) (ci := 12) (i := 0) (v := .int (I70 0 38)) hx hb hts zj_X12_statement_X12 hown hK hW rfl rfl 38 (by decide) (hts (.fieldLink RX12 278 "PetrolBoardModel" "value" "I") (me_s (me_l (me_l (List.mem_of_getElem? (i := 10) rfl))))) (fun _ h => h) rfl dX12_statement_168 ?_
              refine z_iast (i := 16) hx hb hK hW hS rfl (z_ix rfl (by omega) (by omega)) dX12_statement_171 (fun H locs hz1 hW hS => ?_)
              obtain ⟨I140, eI140⟩ : ∃ K : z_I, K = z_up I70 16 a1.toNatClampNeg (I70 0 38) := ⟨_, rfl⟩
              rw [← eI140] at hW
              have f141 := z_fr_a f71 (show z_wa L_X12_statement 16 = true by decide) eI140
              have a142 := z_Nd_n (z_Nd_fr a64 fI70 (by decide)) (by decide) eI140
              have a143 := z_rg_n (z_rg_fr a65 fI70 (by decide)) (by decide) eI140
              have a144 := z_rg_n (z_rg_fr a66 fI70 (by decide)) (by decide) eI140
              have a145 := z_rg_n (z_rg_fr a67 fI70 (by decide)) (by decide) eI140
              refine lv_aload_n hx hb dX12_statement_172 rfl (lv_at hl 1 rfl) ?_
              refine z_cv hW hS hA (va_runV (As := []) (rest := []) ⟨hx, hb, hml, hown, hts⟩ (sx_X12_next l G ad I140 J72 ⟨(by show 0 ≤ (I140 0 31).toInt ∧ (I140 0 31).toInt ≤ 500; rw [eI140, z_up_n (by decide)]; exact hI70mp.1), (by show 0 ≤ (I140 0 33).toInt ∧ (I140 0 33).toInt ≤ 500; rw [eI140, z_up_n (by decide)]; exact hI70mp.2.1), (by show 0 ≤ (I140 0 34).toInt ∧ (I140 0 34).toInt ≤ 500; rw [eI140, z_up_n (by decide)]; exact hI70mp.2.2.1), (by show 0 ≤ (I140 0 35).toInt ∧ (I140 0 35).toInt ≤ 500; rw [eI140, z_up_n (by decide)]; exact hI70mp.2.2.2)⟩ ⟨(by show 0 ≤ (I140 0 36).toInt ∧ (I140 0 36).toInt ≤ 4; rw [eI140, z_up_n (by decide)]; exact hI70mt.1), (by show 0 ≤ (I140 0 42).toInt ∧ (I140 0 42).toInt ≤ 1; rw [eI140, z_up_n (by decide)]; exact hI70mt.2)⟩ (by have q0 : (I140 0 34) = (I70 0 34) := (by rw [eI140, z_up_n (by decide)]); have q1 : (I140 0 33) = (I70 0 33) := (by rw [eI140, z_up_n (by decide)]); show 0 ≤ (I140 0 34).toInt ∧ (I140 0 34).toInt ≤ (I140 0 33).toInt ∧ (I140 0 33).toInt ≤ 500; rw [q0, q1]; first | omega | decide)  _) (cwV 0 hts gX12_statement_X12_next rfl rfl rfl hy_X12_next ⟨Nat.le_of_ble_eq_true rfl, Nat.le_of_ble_eq_true rfl⟩) (z_preV (i := 0) hK hW rfl rfl) rfl rfl hl.1 rfl (lv_room (Nat.le_of_ble_eq_true rfl)) dX12_statement_173 ⟨Nat.le_of_ble_eq_true rfl, Nat.le_of_ble_eq_true rfl⟩) (fun u1 H locs hp hW hS => ?_)
              obtain ⟨I146, J148, e9, hI146mp, hI146mt, hI146rp, fI146, hp⟩ := hp
              rw [e9] at hW
              have f147 := z_fr_sub (L := L_X12_statement) f141 fI146 (by decide)
              have k149 : 0 ≤ (I146 0 47).toInt ∧ (I146 0 47).toInt ≤ 119 := by rw [fI146 0 47 (by decide)]; exact (by show 0 ≤ (I140 0 47).toInt ∧ (I140 0 47).toInt ≤ 119; rw [eI140, z_up_n (by decide)]; exact k73)
              have k150 : 0 ≤ (I146 0 39).toInt ∧ (I146 0 39).toInt ≤ 100 := by rw [fI146 0 39 (by decide)]; exact (by show 0 ≤ (I140 0 39).toInt ∧ (I140 0 39).toInt ≤ 100; rw [eI140, z_up_n (by decide)]; exact k74)
              have k151 : 0 ≤ (I146 0 40).toInt ∧ (I146 0 40).toInt ≤ 6199 := by rw [fI146 0 40 (by decide)]; exact (by show 0 ≤ (I140 0 40).toInt ∧ (I140 0 40).toInt ≤ 6199; rw [eI140, z_up_n (by decide)]; exact k75)
              have k152 : 0 ≤ (I146 0 15).toInt ∧ (I146 0 15).toInt ≤ 6100 := by rw [fI146 0 15 (by decide)]; exact (by show 0 ≤ (I140 0 15).toInt ∧ (I140 0 15).toInt ≤ 6100; rw [eI140, z_up_n (by decide)]; exact k76)
              have k153 : 0 ≤ (I146 0 35).toInt ∧ (I146 0 35).toInt ≤ (I146 0 34).toInt ∧ (I146 0 34).toInt ≤ (I146 0 33).toInt ∧ (I146 0 33).toInt ≤ 500 ∧ ((I146 0 36).toInt = 0 ∨ (I146 0 35).toInt + 1 ≤ (I146 0 34).toInt) := hI146rp
              have k154 : (I146 0 42).toInt = (I70 0 42).toInt := by rw [fI146 0 42 (by decide), eI140, z_up_n (by decide)]
              have k155 : (I146 0 47).toInt = (I70 0 47).toInt := by rw [fI146 0 47 (by decide), eI140, z_up_n (by decide)]
              have k156 : (I146 0 39).toInt = (I70 0 39).toInt := by rw [fI146 0 39 (by decide), eI140, z_up_n (by decide)]
              have k157 : (I146 0 15).toInt = (I70 0 15).toInt := by rw [fI146 0 15 (by decide), eI140, z_up_n (by decide)]
              have k158 : (I146 0 40).toInt = (I70 0 40).toInt := by rw [fI146 0 40 (by decide), eI140, z_up_n (by decide)]
              have h159 := hp
              rw [show (I140 0 34) = (I70 0 34) from by rw [eI140, z_up_n (by decide)]] at h159
              refine lv_goto (tgt := 183) hx hb dX12_statement_176 (by decide) ?_
              refine lv_aload_n hx hb dX12_statement_183 rfl (lv_at hl 1 rfl) ?_
              refine z_get (T := TX12) (N := 96) (ci := 12) (i := 0) (v := .ref (ad 20)) hx hb hts zj_X12_statement_X12 hown hK hW rfl rfl 25 (by decide) (hts (.fieldLink RX12 67 "PetrolBoardModel" "stTo" "[I") (me_s (me_l (me_l (List.mem_of_getElem? (i := 11) rfl))))) (fun _ h => h) rfl dX12_statement_184 ?_
              refine lv_iload_n hx hb dX12_statement_187 rfl (lv_at hl 2 rfl) ?_
              refine lv_aload_n hx hb dX12_statement_188 rfl (lv_at hl 1 rfl) ?_
              have r160 : 0 ≤ (I146 0 15).toInt ∧ (I146 0 15).toInt ≤ 6100 := k152
              refine z_get (T := TX12) (N := 96) (ci := 12) (i := 0) (v := .int (I146 0 15)) hx hb hts zj_X12_statement_X12 hown hK hW rfl rfl 15 (by decide) (hts (.fieldLink RX12 337 "PetrolBoardModel" "nodes" "I") (me_s (me_l (me_l (List.mem_of_getElem? (i := 4) rfl))))) (fun _ h => h) rfl dX12_statement_189 ?_
              refine z_iast (i := 20) hx hb hK hW hS rfl (z_ix rfl (by omega) (by omega)) dX12_statement_192 (fun H locs hz1 hW hS => ?_)
              obtain ⟨I161, eI161⟩ : ∃ K : z_I, K = z_up I146 20 a1.toNatClampNeg (I146 0 15) := ⟨_, rfl⟩
              rw [← eI161] at hW
              have f162 := z_fr_a f147 (show z_wa L_X12_statement 20 = true by decide) eI161
              have a163 := z_Nd_n (z_Nd_fr a142 fI146 (by decide)) (by decide) eI161
              have a164 := z_rg_n (z_rg_fr a143 fI146 (by decide)) (by decide) eI161
              have a165 := z_rg_a (z_rg_fr a144 fI146 (by decide)) (by omega) eI161
              have a166 := z_rg_n (z_rg_fr a145 fI146 (by decide)) (by decide) eI161
              refine lv_aload_n hx hb dX12_statement_193 rfl (lv_at hl 1 rfl) ?_
              have r167 : 0 ≤ (I146 0 42).toInt ∧ (I146 0 42).toInt ≤ 1 := hI146mt.2
              refine z_get (T := TX12) (N := 96) (ci := 12) (i := 0) (v := .int (I146 0 42)) hx hb hts zj_X12_statement_X12 hown hK hW rfl rfl 42 (by decide) (hts (.fieldLink RX12 294 "PetrolBoardModel" "isWrong" "Z") (me_s (me_l (me_l (List.mem_of_getElem? (i := 8) rfl))))) (fun _ h => h) (congrArg Value.int (by rw [eI161, z_up_n (by decide)])) dX12_statement_194 ?_
              refine lv_if_ne (tgt := 206) hx hb dX12_statement_197 (by decide) (fun c168 => ?_) (fun c168 => ?_)
              · have g169 := z_f_ne rfl z_l0 c168
                exact z_vret hx hb hr hK hS (Nat.le_of_ble_eq_true rfl) (Nat.le_of_ble_eq_true rfl) hlocks dX12_statement_206 (shM, ad, I161, J148, PM ad) hW ⟨I161, J148, rfl, ⟨(by show 0 ≤ (I161 0 31).toInt ∧ (I161 0 31).toInt ≤ 500; rw [eI161, z_up_n (by decide)]; exact hI146mp.1), (by show 0 ≤ (I161 0 33).toInt ∧ (I161 0 33).toInt ≤ 500; rw [eI161, z_up_n (by decide)]; exact hI146mp.2.1), (by show 0 ≤ (I161 0 34).toInt ∧ (I161 0 34).toInt ≤ 500; rw [eI161, z_up_n (by decide)]; exact hI146mp.2.2.1), (by show 0 ≤ (I161 0 35).toInt ∧ (I161 0 35).toInt ≤ 500; rw [eI161, z_up_n (by decide)]; exact hI146mp.2.2.2)⟩, ⟨(by show 0 ≤ (I161 0 36).toInt ∧ (I161 0 36).toInt ≤ 4; rw [eI161, z_up_n (by decide)]; exact hI146mt.1), (by show 0 ≤ (I161 0 42).toInt ∧ (I161 0 42).toInt ≤ 1; rw [eI161, z_up_n (by decide)]; exact hI146mt.2)⟩, ⟨(by show 0 ≤ (I161 0 47).toInt ∧ (I161 0 47).toInt ≤ 119; rw [eI161, z_up_n (by decide)]; exact k149), (by show 0 ≤ (I161 0 39).toInt ∧ (I161 0 39).toInt ≤ 100; rw [eI161, z_up_n (by decide)]; exact k150)⟩, (by show 0 ≤ (I161 0 40).toInt ∧ (I161 0 40).toInt ≤ 6199; rw [eI161, z_up_n (by decide)]; exact k151), (by show 0 ≤ (I161 0 15).toInt ∧ (I161 0 15).toInt ≤ 6100; rw [eI161, z_up_n (by decide)]; exact k152), a163, (by have q0 : (I161 0 35) = (I146 0 35) := (by rw [eI161, z_up_n (by decide)]); have q1 : (I161 0 34) = (I146 0 34) := (by rw [eI161, z_up_n (by decide)]); have q2 : (I161 0 33) = (I146 0 33) := (by rw [eI161, z_up_n (by decide)]); have q3 : (I161 0 36) = (I146 0 36) := (by rw [eI161, z_up_n (by decide)]); show 0 ≤ (I161 0 35).toInt ∧ (I161 0 35).toInt ≤ (I161 0 34).toInt ∧ (I161 0 34).toInt ≤ (I161 0 33).toInt ∧ (I161 0 33).toInt ≤ 500 ∧ ((I161 0 36).toInt = 0 ∨ (I161 0 35).toInt + 1 ≤ (I161 0 34).toInt); rw [q0, q1, q2, q3]; first | omega | decide), a164, a165, a166, (fun n => by by_cases q9 : n = a1.toNatClampNeg; (· (subst q9; rw [show I161 15 a1.toNatClampNeg = x60 from (by rw [eI161, z_up_n (by decide), fI146 15 a1.toNatClampNeg (z_wr_c (by decide)), eI140, z_up_n (by decide), fI70 15 a1.toNatClampNeg (z_wr_c (by decide)), eI62, z_up_s]), show I161 17 a1.toNatClampNeg = (-1) from (by rw [eI161, z_up_n (by decide), fI146 17 a1.toNatClampNeg (z_wr_c (by decide)), eI140, z_up_n (by decide), fI70 17 a1.toNatClampNeg (z_wr_c (by decide)), eI62, z_up_n (by decide), eI22, z_up_n (by decide), eI15, z_up_n (by decide), eI8, z_up_s])]; have := z_lm1; omega)); (· (have g1 : I161 15 n = I 15 n := (by rw [eI161, z_up_n (by decide), fI146 15 n (z_wr_c (by decide)), eI140, z_up_n (by decide), fI70 15 n (z_wr_c (by decide)), eI62, z_up_k q9, eI22, z_up_n (by decide), eI15, z_up_n (by decide), eI8, z_up_n (by decide), eI1, z_up_n (by decide)]); have g2 : I161 17 n = I 17 n := (by rw [eI161, z_up_n (by decide), fI146 17 n (z_wr_c (by decide)), eI140, z_up_n (by decide), fI70 17 n (z_wr_c (by decide)), eI62, z_up_n (by decide), eI22, z_up_n (by decide), eI15, z_up_n (by decide), eI8, z_up_k q9, eI1, z_up_n (by decide)]); rw [g1, g2]; exact hEx n))), f162, (by have q0 : (I161 0 42) = (I146 0 42) := (by rw [eI161, z_up_n (by decide)]); have q1 : (I161 0 35) = (I146 0 35) := (by rw [eI161, z_up_n (by decide)]); have q2 : (I161 0 15) = (I146 0 15) := (by rw [eI161, z_up_n (by decide)]); show ¬ (I161 0 42).toInt = 0 ∨ 1010 * (500 - (I161 0 35).toInt) + 1000 * (I161 0 15).toInt ≤ 1010 * (500 - (I 0 35).toInt) + 1000 * (I 0 15).toInt + 20; rw [q0, q1, q2]; omega)⟩
              · have g170 := z_f_eq rfl z_l0 c168
                refine lv_aload_n hx hb dX12_statement_200 rfl (lv_at hl 1 rfl) ?_
                refine lv_bipush (v := 59) hx hb dX12_statement_201 (by decide) ?_
                refine z_cv hW hS hA (va_runV (As := [.int 59]) (rest := []) ⟨hx, hb, hml, hown, hts⟩ (sx_X12_must l G ad I161 J148 ⟨(by show 0 ≤ (I161 0 31).toInt ∧ (I161 0 31).toInt ≤ 500; rw [eI161, z_up_n (by decide)]; exact hI146mp.1), (by show 0 ≤ (I161 0 33).toInt ∧ (I161 0 33).toInt ≤ 500; rw [eI161, z_up_n (by decide)]; exact hI146mp.2.1), (by show 0 ≤ (I161 0 34).toInt ∧ (I161 0 34).toInt ≤ 500; rw [eI161, z_up_n (by decide)]; exact hI146mp.2.2.1), (by show 0 ≤ (I161 0 35).toInt ∧ (I161 0 35).toInt ≤ 500; rw [eI161, z_up_n (by decide)]; exact hI146mp.2.2.2)⟩ ⟨(by show 0 ≤ (I161 0 36).toInt ∧ (I161 0 36).toInt ≤ 4; rw [eI161, z_up_n (by decide)]; exact hI146mt.1), (by show 0 ≤ (I161 0 42).toInt ∧ (I161 0 42).toInt ≤ 1; rw [eI161, z_up_n (by decide)]; exact hI146mt.2)⟩ (by have q0 : (I161 0 35) = (I146 0 35) := (by rw [eI161, z_up_n (by decide)]); have q1 : (I161 0 34) = (I146 0 34) := (by rw [eI161, z_up_n (by decide)]); have q2 : (I161 0 33) = (I146 0 33) := (by rw [eI161, z_up_n (by decide)]); have q3 : (I161 0 36) = (I146 0 36) := (by rw [eI161, z_up_n (by decide)]); show 0 ≤ (I161 0 35).toInt ∧ (I161 0 35).toInt ≤ (I161 0 34).toInt ∧ (I161 0 34).toInt ≤ (I161 0 33).toInt ∧ (I161 0 33).toInt ≤ 500 ∧ ((I161 0 36).toInt = 0 ∨ (I161 0 35).toInt + 1 ≤ (I161 0 34).toInt); rw [q0, q1, q2, q3]; first | omega | decide) 59 _) (cwV 1 hts gX12_statement_X12_must rfl rfl rfl hy_X12_must ⟨Nat.le_of_ble_eq_true rfl, Nat.le_of_ble_eq_true rfl⟩) (z_preV (i := 0) hK hW rfl rfl) rfl rfl hl.1 rfl (lv_room (Nat.le_of_ble_eq_true rfl)) dX12_statement_203 ⟨Nat.le_of_ble_eq_true rfl, Nat.le_of_ble_eq_true rfl⟩) (fun u1 H locs hp hW hS => ?_)
                obtain ⟨I171, J173, e9, hI171mp, hI171mt, hI171rp, fI171, hp⟩ := hp
                rw [e9] at hW
                have f172 := z_fr_sub (L := L_X12_statement) f162 fI171 (by decide)
                have k174 : 0 ≤ (I171 0 47).toInt ∧ (I171 0 47).toInt ≤ 119 := by rw [fI171 0 47 (by decide)]; exact (by show 0 ≤ (I161 0 47).toInt ∧ (I161 0 47).toInt ≤ 119; rw [eI161, z_up_n (by decide)]; exact k149)
                have k175 : 0 ≤ (I171 0 39).toInt ∧ (I171 0 39).toInt ≤ 100 := by rw [fI171 0 39 (by decide)]; exact (by show 0 ≤ (I161 0 39).toInt ∧ (I161 0 39).toInt ≤ 100; rw [eI161, z_up_n (by decide)]; exact k150)
                have k176 : 0 ≤ (I171 0 40).toInt ∧ (I171 0 40).toInt ≤ 6199 := by rw [fI171 0 40 (by decide)]; exact (by show 0 ≤ (I161 0 40).toInt ∧ (I161 0 40).toInt ≤ 6199; rw [eI161, z_up_n (by decide)]; exact k151)
                have k177 : 0 ≤ (I171 0 15).toInt ∧ (I171 0 15).toInt ≤ 6100 := by rw [fI171 0 15 (by decide)]; exact (by show 0 ≤ (I161 0 15).toInt ∧ (I161 0 15).toInt ≤ 6100; rw [eI161, z_up_n (by decide)]; exact k152)
                have k178 : 0 ≤ (I171 0 35).toInt ∧ (I171 0 35).toInt ≤ (I171 0 34).toInt ∧ (I171 0 34).toInt ≤ (I171 0 33).toInt ∧ (I171 0 33).toInt ≤ 500 ∧ ((I171 0 36).toInt = 0 ∨ (I171 0 35).toInt + 1 ≤ (I171 0 34).toInt) := hI171rp
                have k179 : (I171 0 47).toInt = (I146 0 47).toInt := by rw [fI171 0 47 (by decide), eI161, z_up_n (by decide)]
                have k180 : (I171 0 39).toInt = (I146 0 39).toInt := by rw [fI171 0 39 (by decide), eI161, z_up_n (by decide)]
                have k181 : (I171 0 15).toInt = (I146 0 15).toInt := by rw [fI171 0 15 (by decide), eI161, z_up_n (by decide)]
                have k182 : (I171 0 40).toInt = (I146 0 40).toInt := by rw [fI171 0 40 (by decide), eI161, z_up_n (by decide)]
                have h183 := hp
                rw [show (I161 0 35) = (I146 0 35) from by rw [eI161, z_up_n (by decide)]] at h183
                exact z_vret hx hb hr hK hS (Nat.le_of_ble_eq_true rfl) (Nat.le_of_ble_eq_true rfl) hlocks dX12_statement_206 (shM, ad, I171, J173, PM ad) hW ⟨I171, J173, rfl, ⟨(by show 0 ≤ (I171 0 31).toInt ∧ (I171 0 31).toInt ≤ 500; exact hI171mp.1), (by show 0 ≤ (I171 0 33).toInt ∧ (I171 0 33).toInt ≤ 500; exact hI171mp.2.1), (by show 0 ≤ (I171 0 34).toInt ∧ (I171 0 34).toInt ≤ 500; exact hI171mp.2.2.1), (by show 0 ≤ (I171 0 35).toInt ∧ (I171 0 35).toInt ≤ 500; exact hI171mp.2.2.2)⟩, ⟨(by show 0 ≤ (I171 0 36).toInt ∧ (I171 0 36).toInt ≤ 4; exact hI171mt.1), (by show 0 ≤ (I171 0 42).toInt ∧ (I171 0 42).toInt ≤ 1; exact hI171mt.2)⟩, ⟨(by show 0 ≤ (I171 0 47).toInt ∧ (I171 0 47).toInt ≤ 119; exact k174), (by show 0 ≤ (I171 0 39).toInt ∧ (I171 0 39).toInt ≤ 100; exact k175)⟩, (by show 0 ≤ (I171 0 40).toInt ∧ (I171 0 40).toInt ≤ 6199; exact k176), (by show 0 ≤ (I171 0 15).toInt ∧ (I171 0 15).toInt ≤ 6100; exact k177), (z_Nd_fr a163 fI171 (by decide)), (by show 0 ≤ (I171 0 35).toInt ∧ (I171 0 35).toInt ≤ (I171 0 34).toInt ∧ (I171 0 34).toInt ≤ (I171 0 33).toInt ∧ (I171 0 33).toInt ≤ 500 ∧ ((I171 0 36).toInt = 0 ∨ (I171 0 35).toInt + 1 ≤ (I171 0 34).toInt); first | omega | decide), (z_rg_fr a164 fI171 (by decide)), (z_rg_fr a165 fI171 (by decide)), (z_rg_fr a166 fI171 (by decide)), (fun n => by by_cases q9 : n = a1.toNatClampNeg; (· (subst q9; rw [show I171 15 a1.toNatClampNeg = x60 from (by rw [fI171 15 a1.toNatClampNeg (z_wr_c (by decide)), eI161, z_up_n (by decide), fI146 15 a1.toNatClampNeg (z_wr_c (by decide)), eI140, z_up_n (by decide), fI70 15 a1.toNatClampNeg (z_wr_c (by decide)), eI62, z_up_s]), show I171 17 a1.toNatClampNeg = (-1) from (by rw [fI171 17 a1.toNatClampNeg (z_wr_c (by decide)), eI161, z_up_n (by decide), fI146 17 a1.toNatClampNeg (z_wr_c (by decide)), eI140, z_up_n (by decide), fI70 17 a1.toNatClampNeg (z_wr_c (by decide)), eI62, z_up_n (by decide), eI22, z_up_n (by decide), eI15, z_up_n (by decide), eI8, z_up_s])]; have := z_lm1; omega)); (· (have g1 : I171 15 n = I 15 n := (by rw [fI171 15 n (z_wr_c (by decide)), eI161, z_up_n (by decide), fI146 15 n (z_wr_c (by decide)), eI140, z_up_n (by decide), fI70 15 n (z_wr_c (by decide)), eI62, z_up_k q9, eI22, z_up_n (by decide), eI15, z_up_n (by decide), eI8, z_up_n (by decide), eI1, z_up_n (by decide)]); have g2 : I171 17 n = I 17 n := (by rw [fI171 17 n (z_wr_c (by decide)), eI161, z_up_n (by decide), fI146 17 n (z_wr_c (by decide)), eI140, z_up_n (by decide), fI70 17 n (z_wr_c (by decide)), eI62, z_up_n (by decide), eI22, z_up_n (by decide), eI15, z_up_n (by decide), eI8, z_up_k q9, eI1, z_up_n (by decide)]); rw [g1, g2]; exact hEx n))), f172, (by show ¬ (I171 0 42).toInt = 0 ∨ 1010 * (500 - (I171 0 35).toInt) + 1000 * (I171 0 15).toInt ≤ 1010 * (500 - (I 0 35).toInt) + 1000 * (I 0 15).toInt + 20; omega)⟩
            · have g184 := z_f_ngt rfl z_l0 c137
              have b185 := Int32.toInt_lt (I70 0 38)
              refine lv_iload_n hx hb dX12_statement_157 rfl (lv_at hl 0 rfl) ?_
              refine lv_iconst (v := 3) hx hb dX12_statement_158 (by decide) ?_
              refine lv_icmp_le (tgt := 179) hx hb dX12_statement_159 (by decide) (fun c186 => ?_) (fun c186 => ?_)
              · have g187 := z_f_le rfl z_l3 c186
                refine lv_aload_n hx hb dX12_statement_179 rfl (lv_at hl 1 rfl) ?_
                refine z_cv hW hS hA (va_runV (As := []) (rest := []) ⟨hx, hb, hml, hown, hts⟩ (sx_X12_errs l G ad I70 J72 ⟨(by show 0 ≤ (I70 0 36).toInt ∧ (I70 0 36).toInt ≤ 4; exact hI70mt.1), (by show 0 ≤ (I70 0 42).toInt ∧ (I70 0 42).toInt ≤ 1; exact hI70mt.2)⟩  _) (cwV 0 hts gX12_statement_X12_errs rfl rfl rfl hy_X12_errs ⟨Nat.le_of_ble_eq_true rfl, Nat.le_of_ble_eq_true rfl⟩) (z_preV (i := 0) hK hW rfl rfl) rfl rfl hl.1 rfl (lv_room (Nat.le_of_ble_eq_true rfl)) dX12_statement_180 ⟨Nat.le_of_ble_eq_true rfl, Nat.le_of_ble_eq_true rfl⟩) (fun u1 H locs hp hW hS => ?_)
                obtain ⟨I188, J190, e9, hI188mt, fI188, hp⟩ := hp
                rw [e9] at hW
                have f189 := z_fr_sub (L := L_X12_statement) f71 fI188 (by decide)
                have k191 : 0 ≤ (I188 0 31).toInt ∧ (I188 0 31).toInt ≤ 500 := by rw [fI188 0 31 (by decide)]; exact (by show 0 ≤ (I70 0 31).toInt ∧ (I70 0 31).toInt ≤ 500; exact hI70mp.1)
                have k192 : 0 ≤ (I188 0 33).toInt ∧ (I188 0 33).toInt ≤ 500 := by rw [fI188 0 33 (by decide)]; exact (by show 0 ≤ (I70 0 33).toInt ∧ (I70 0 33).toInt ≤ 500; exact hI70mp.2.1)
                have k193 : 0 ≤ (I188 0 34).toInt ∧ (I188 0 34).toInt ≤ 500 := by rw [fI188 0 34 (by decide)]; exact (by show 0 ≤ (I70 0 34).toInt ∧ (I70 0 34).toInt ≤ 500; exact hI70mp.2.2.1)
                have k194 : 0 ≤ (I188 0 35).toInt ∧ (I188 0 35).toInt ≤ 500 := by rw [fI188 0 35 (by decide)]; exact (by show 0 ≤ (I70 0 35).toInt ∧ (I70 0 35).toInt ≤ 500; exact hI70mp.2.2.2)
                have k195 : (I188 0 36).toInt = (I70 0 36).toInt := by rw [fI188 0 36 (by decide)]
                have k196 : 0 ≤ (I188 0 47).toInt ∧ (I188 0 47).toInt ≤ 119 := by rw [fI188 0 47 (by decide)]; exact (by show 0 ≤ (I70 0 47).toInt ∧ (I70 0 47).toInt ≤ 119; exact k73)
                have k197 : 0 ≤ (I188 0 39).toInt ∧ (I188 0 39).toInt ≤ 100 := by rw [fI188 0 39 (by decide)]; exact (by show 0 ≤ (I70 0 39).toInt ∧ (I70 0 39).toInt ≤ 100; exact k74)
                have k198 : 0 ≤ (I188 0 40).toInt ∧ (I188 0 40).toInt ≤ 6199 := by rw [fI188 0 40 (by decide)]; exact (by show 0 ≤ (I70 0 40).toInt ∧ (I70 0 40).toInt ≤ 6199; exact k75)
                have k199 : 0 ≤ (I188 0 15).toInt ∧ (I188 0 15).toInt ≤ 6100 := by rw [fI188 0 15 (by decide)]; exact (by show 0 ≤ (I70 0 15).toInt ∧ (I70 0 15).toInt ≤ 6100; exact k76)
                have k200 : 0 ≤ (I188 0 35).toInt ∧ (I188 0 35).toInt ≤ (I188 0 34).toInt ∧ (I188 0 34).toInt ≤ (I188 0 33).toInt ∧ (I188 0 33).toInt ≤ 500 ∧ ((I188 0 36).toInt = 0 ∨ (I188 0 35).toInt + 1 ≤ (I188 0 34).toInt) := (by have q0 : (I188 0 35) = (I70 0 35) := (by rw [fI188 0 35 (by decide)]); have q1 : (I188 0 34) = (I70 0 34) := (by rw [fI188 0 34 (by decide)]); have q2 : (I188 0 33) = (I70 0 33) := (by rw [fI188 0 33 (by decide)]); have q3 : (I188 0 36) = (I70 0 36) := (by rw [fI188 0 36 (by decide)]); show 0 ≤ (I188 0 35).toInt ∧ (I188 0 35).toInt ≤ (I188 0 34).toInt ∧ (I188 0 34).toInt ≤ (I188 0 33).toInt ∧ (I188 0 33).toInt ≤ 500 ∧ ((I188 0 36).toInt = 0 ∨ (I188 0 35).toInt + 1 ≤ (I188 0 34).toInt); rw [q0, q1, q2, q3]; first | omega | decide)
                have k201 : (I188 0 35).toInt = (I70 0 35).toInt := by rw [fI188 0 35 (by decide)]
                have k202 : (I188 0 34).toInt = (I70 0 34).toInt := by rw [fI188 0 34 (by decide)]
                have k203 : (I188 0 36).toInt = (I70 0 36).toInt := by rw [fI188 0 36 (by decide)]
                have k204 : (I188 0 47).toInt = (I70 0 47).toInt := by rw [fI188 0 47 (by decide)]
                have k205 : (I188 0 39).toInt = (I70 0 39).toInt := by rw [fI188 0 39 (by decide)]
                have k206 : (I188 0 15).toInt = (I70 0 15).toInt := by rw [fI188 0 15 (by decide)]
                have k207 : (I188 0 40).toInt = (I70 0 40).toInt := by rw [fI188 0 40 (by decide)]
                have h208 := hp
                refine lv_aload_n hx hb dX12_statement_183 rfl (lv_at hl 1 rfl) ?_
                refine z_get (T := TX12) (N := 96) (ci := 12) (i := 0) (v := .ref (ad 20)) hx hb hts zj_X12_statement_X12 hown hK hW rfl rfl 25 (by decide) (hts (.fieldLink RX12 67 "PetrolBoardModel" "stTo" "[I") (me_s (me_l (me_l (List.mem_of_getElem? (i := 11) rfl))))) (fun _ h => h) rfl dX12_statement_184 ?_
                refine lv_iload_n hx hb dX12_statement_187 rfl (lv_at hl 2 rfl) ?_
                refine lv_aload_n hx hb dX12_statement_188 rfl (lv_at hl 1 rfl) ?_
                have r209 : 0 ≤ (I188 0 15).toInt ∧ (I188 0 15).toInt ≤ 6100 := k199
                refine z_get (T := TX12) (N := 96) (ci := 12) (i := 0) (v := .int (I188 0 15)) hx hb hts zj_X12_statement_X12 hown hK hW rfl rfl 15 (by decide) (hts (.fieldLink RX12 337 "PetrolBoardModel" "nodes" "I") (me_s (me_l (me_l (List.mem_of_getElem? (i := 4) rfl))))) (fun _ h => h) rfl dX12_statement_189 ?_
                refine z_iast (i := 20) hx hb hK hW hS rfl (z_ix rfl (by omega) (by omega)) dX12_statement_192 (fun H locs hz1 hW hS => ?_)
                obtain ⟨I210, eI210⟩ : ∃ K : z_I, K = z_up I188 20 a1.toNatClampNeg (I188 0 15) := ⟨_, rfl⟩
                rw [← eI210] at hW
                have f211 := z_fr_a f189 (show z_wa L_X12_statement 20 = true by decide) eI210
                have a212 := z_Nd_n (z_Nd_fr (z_Nd_fr a64 fI70 (by decide)) fI188 (by decide)) (by decide) eI210
                have a213 := z_rg_n (z_rg_fr (z_rg_fr a65 fI70 (by decide)) fI188 (by decide)) (by decide) eI210
                have a214 := z_rg_a (z_rg_fr (z_rg_fr a66 fI70 (by decide)) fI188 (by decide)) (by omega) eI210
                have a215 := z_rg_n (z_rg_fr (z_rg_fr a67 fI70 (by decide)) fI188 (by decide)) (by decide) eI210
                refine lv_aload_n hx hb dX12_statement_193 rfl (lv_at hl 1 rfl) ?_
                have r216 : 0 ≤ (I188 0 42).toInt ∧ (I188 0 42).toInt ≤ 1 := hI188mt.2
                refine z_get (T := TX12) (N := 96) (ci := 12) (i := 0) (v := .int (I188 0 42)) hx hb hts zj_X12_statement_X12 hown hK hW rfl rfl 42 (by decide) (hts (.fieldLink RX12 294 "PetrolBoardModel" "isWrong" "Z") (me_s (me_l (me_l (List.mem_of_getElem? (i := 8) rfl))))) (fun _ h => h) (congrArg Value.int (by rw [eI210, z_up_n (by decide)])) dX12_statement_194 ?_
                refine lv_if_ne (tgt := 206) hx hb dX12_statement_197 (by decide) (fun c217 => ?_) (fun c217 => ?_)
                · have g218 := z_f_ne rfl z_l0 c217
                  exact z_vret hx hb hr hK hS (Nat.le_of_ble_eq_true rfl) (Nat.le_of_ble_eq_true rfl) hlocks dX12_statement_206 (shM, ad, I210, J190, PM ad) hW ⟨I210, J190, rfl, ⟨(by show 0 ≤ (I210 0 31).toInt ∧ (I210 0 31).toInt ≤ 500; rw [eI210, z_up_n (by decide)]; exact k191), (by show 0 ≤ (I210 0 33).toInt ∧ (I210 0 33).toInt ≤ 500; rw [eI210, z_up_n (by decide)]; exact k192), (by show 0 ≤ (I210 0 34).toInt ∧ (I210 0 34).toInt ≤ 500; rw [eI210, z_up_n (by decide)]; exact k193), (by show 0 ≤ (I210 0 35).toInt ∧ (I210 0 35).toInt ≤ 500; rw [eI210, z_up_n (by decide)]; exact k194)⟩, ⟨(by show 0 ≤ (I210 0 36).toInt ∧ (I210 0 36).toInt ≤ 4; rw [eI210, z_up_n (by decide)]; exact hI188mt.1), (by show 0 ≤ (I210 0 42).toInt ∧ (I210 0 42).toInt ≤ 1; rw [eI210, z_up_n (by decide)]; exact hI188mt.2)⟩, ⟨(by show 0 ≤ (I210 0 47).toInt ∧ (I210 0 47).toInt ≤ 119; rw [eI210, z_up_n (by decide)]; exact k196), (by show 0 ≤ (I210 0 39).toInt ∧ (I210 0 39).toInt ≤ 100; rw [eI210, z_up_n (by decide)]; exact k197)⟩, (by show 0 ≤ (I210 0 40).toInt ∧ (I210 0 40).toInt ≤ 6199; rw [eI210, z_up_n (by decide)]; exact k198), (by show 0 ≤ (I210 0 15).toInt ∧ (I210 0 15).toInt ≤ 6100; rw [eI210, z_up_n (by decide)]; exact k199), a212, (by have q0 : (I210 0 35) = (I188 0 35) := (by rw [eI210, z_up_n (by decide)]); have q1 : (I210 0 34) = (I188 0 34) := (by rw [eI210, z_up_n (by decide)]); have q2 : (I210 0 33) = (I188 0 33) := (by rw [eI210, z_up_n (by decide)]); have q3 : (I210 0 36) = (I188 0 36) := (by rw [eI210, z_up_n (by decide)]); show 0 ≤ (I210 0 35).toInt ∧ (I210 0 35).toInt ≤ (I210 0 34).toInt ∧ (I210 0 34).toInt ≤ (I210 0 33).toInt ∧ (I210 0 33).toInt ≤ 500 ∧ ((I210 0 36).toInt = 0 ∨ (I210 0 35).toInt + 1 ≤ (I210 0 34).toInt); rw [q0, q1, q2, q3]; first | omega | decide), a213, a214, a215, (fun n => by by_cases q9 : n = a1.toNatClampNeg; (· (subst q9; rw [show I210 15 a1.toNatClampNeg = x60 from (by rw [eI210, z_up_n (by decide), fI188 15 a1.toNatClampNeg (z_wr_c (by decide)), fI70 15 a1.toNatClampNeg (z_wr_c (by decide)), eI62, z_up_s]), show I210 17 a1.toNatClampNeg = (-1) from (by rw [eI210, z_up_n (by decide), fI188 17 a1.toNatClampNeg (z_wr_c (by decide)), fI70 17 a1.toNatClampNeg (z_wr_c (by decide)), eI62, z_up_n (by decide), eI22, z_up_n (by decide), eI15, z_up_n (by decide), eI8, z_up_s])]; have := z_lm1; omega)); (· (have g1 : I210 15 n = I 15 n := (by rw [eI210, z_up_n (by decide), fI188 15 n (z_wr_c (by decide)), fI70 15 n (z_wr_c (by decide)), eI62, z_up_k q9, eI22, z_up_n (by decide), eI15, z_up_n (by decide), eI8, z_up_n (by decide), eI1, z_up_n (by decide)]); have g2 : I210 17 n = I 17 n := (by rw [eI210, z_up_n (by decide), fI188 17 n (z_wr_c (by decide)), fI70 17 n (z_wr_c (by decide)), eI62, z_up_n (by decide), eI22, z_up_n (by decide), eI15, z_up_n (by decide), eI8, z_up_k q9, eI1, z_up_n (by decide)]); rw [g1, g2]; exact hEx n))), f211, (by have q0 : (I210 0 42) = (I188 0 42) := (by rw [eI210, z_up_n (by decide)]); have q1 : (I210 0 35) = (I188 0 35) := (by rw [eI210, z_up_n (by decide)]); have q2 : (I210 0 15) = (I188 0 15) := (by rw [eI210, z_up_n (by decide)]); show ¬ (I210 0 42).toInt = 0 ∨ 1010 * (500 - (I210 0 35).toInt) + 1000 * (I210 0 15).toInt ≤ 1010 * (500 - (I 0 35).toInt) + 1000 * (I 0 15).toInt + 20; rw [q0, q1, q2]; omega)⟩
                · have g219 := z_f_eq rfl z_l0 c217
                  refine lv_aload_n hx hb dX12_statement_200 rfl (lv_at hl 1 rfl) ?_
                  refine lv_bipush (v := 59) hx hb dX12_statement_201 (by decide) ?_
                  refine z_cv hW hS hA (va_runV (As := [.int 59]) (rest := []) ⟨hx, hb, hml, hown, hts⟩ (sx_X12_must l G ad I210 J190 ⟨(by show 0 ≤ (I210 0 31).toInt ∧ (I210 0 31).toInt ≤ 500; rw [eI210, z_up_n (by decide)]; exact k191), (by show 0 ≤ (I210 0 33).toInt ∧ (I210 0 33).toInt ≤ 500; rw [eI210, z_up_n (by decide)]; exact k192), (by show 0 ≤ (I210 0 34).toInt ∧ (I210 0 34).toInt ≤ 500; rw [eI210, z_up_n (by decide)]; exact k193), (by show 0 ≤ (I210 0 35).toInt ∧ (I210 0 35).toInt ≤ 500; rw [eI210, z_up_n (by decide)]; exact k194)⟩ ⟨(by show 0 ≤ (I210 0 36).toInt ∧ (I210 0 36).toInt ≤ 4; rw [eI210, z_up_n (by decide)]; exact hI188mt.1), (by show 0 ≤ (I210 0 42).toInt ∧ (I210 0 42).toInt ≤ 1; rw [eI210, z_up_n (by decide)]; exact hI188mt.2)⟩ (by have q0 : (I210 0 35) = (I188 0 35) := (by rw [eI210, z_up_n (by decide)]); have q1 : (I210 0 34) = (I188 0 34) := (by rw [eI210, z_up_n (by decide)]); have q2 : (I210 0 33) = (I188 0 33) := (by rw [eI210, z_up_n (by decide)]); have q3 : (I210 0 36) = (I188 0 36) := (by rw [eI210, z_up_n (by decide)]); show 0 ≤ (I210 0 35).toInt ∧ (I210 0 35).toInt ≤ (I210 0 34).toInt ∧ (I210 0 34).toInt ≤ (I210 0 33).toInt ∧ (I210 0 33).toInt ≤ 500 ∧ ((I210 0 36).toInt = 0 ∨ (I210 0 35).toInt + 1 ≤ (I210 0 34).toInt); rw [q0, q1, q2, q3]; first | omega | decide) 59 _) (cwV 1 hts gX12_statement_X12_must rfl rfl rfl hy_X12_must ⟨Nat.le_of_ble_eq_true rfl, Nat.le_of_ble_eq_true rfl⟩) (z_preV (i := 0) hK hW rfl rfl) rfl rfl hl.1 rfl (lv_room (Nat.le_of_ble_eq_true rfl)) dX12_statement_203 ⟨Nat.le_of_ble_eq_true rfl, Nat.le_of_ble_eq_true rfl⟩) (fun u1 H locs hp hW hS => ?_)
                  obtain ⟨I220, J222, e9, hI220mp, hI220mt, hI220rp, fI220, hp⟩ := hp
                  rw [e9] at hW
                  have f221 := z_fr_sub (L := L_X12_statement) f211 fI220 (by decide)
                  have k223 : 0 ≤ (I220 0 47).toInt ∧ (I220 0 47).toInt ≤ 119 := by rw [fI220 0 47 (by decide)]; exact (by show 0 ≤ (I210 0 47).toInt ∧ (I210 0 47).toInt ≤ 119; rw [eI210, z_up_n (by decide)]; exact k196)
                  have k224 : 0 ≤ (I220 0 39).toInt ∧ (I220 0 39).toInt ≤ 100 := by rw [fI220 0 39 (by decide)]; exact (by show 0 ≤ (I210 0 39).toInt ∧ (I210 0 39).toInt ≤ 100; rw [eI210, z_up_n (by decide)]; exact k197)
                  have k225 : 0 ≤ (I220 0 40).toInt ∧ (I220 0 40).toInt ≤ 6199 := by rw [fI220 0 40 (by decide)]; exact (by show 0 ≤ (I210 0 40).toInt ∧ (I210 0 40).toInt ≤ 6199; rw [eI210, z_up_n (by decide)]; exact k198)
                  have k226 : 0 ≤ (I220 0 15).toInt ∧ (I220 0 15).toInt ≤ 6100 := by rw [fI220 0 15 (by decide)]; exact (by show 0 ≤ (I210 0 15).toInt ∧ (I210 0 15).toInt ≤ 6100; rw [eI210, z_up_n (by decide)]; exact k199)
                  have k227 : 0 ≤ (I220 0 35).toInt ∧ (I220 0 35).toInt ≤ (I220 0 34).toInt ∧ (I220 0 34).toInt ≤ (I220 0 33).toInt ∧ (I220 0 33).toInt ≤ 500 ∧ ((I220 0 36).toInt = 0 ∨ (I220 0 35).toInt + 1 ≤ (I220 0 34).toInt) := hI220rp
                  have k228 : (I220 0 47).toInt = (I188 0 47).toInt := by rw [fI220 0 47 (by decide), eI210, z_up_n (by decide)]
                  have k229 : (I220 0 39).toInt = (I188 0 39).toInt := by rw [fI220 0 39 (by decide), eI210, z_up_n (by decide)]
                  have k230 : (I220 0 15).toInt = (I188 0 15).toInt := by rw [fI220 0 15 (by decide), eI210, z_up_n (by decide)]
                  have k231 : (I220 0 40).toInt = (I188 0 40).toInt := by rw [fI220 0 40 (by decide), eI210, z_up_n (by decide)]
                  have h232 := hp
                  rw [show (I210 0 35) = (I188 0 35) from by rw [eI210, z_up_n (by decide)]] at h232
                  exact z_vret hx hb hr hK hS (Nat.le_of_ble_eq_true rfl) (Nat.le_of_ble_eq_true rfl) hlocks dX12_statement_206 (shM, ad, I220, J222, PM ad) hW ⟨I220, J222, rfl, ⟨(by show 0 ≤ (I220 0 31).toInt ∧ (I220 0 31).toInt ≤ 500; exact hI220mp.1), (by show 0 ≤ (I220 0 33).toInt ∧ (I220 0 33).toInt ≤ 500; exact hI220mp.2.1), (by show 0 ≤ (I220 0 34).toInt ∧ (I220 0 34).toInt ≤ 500; exact hI220mp.2.2.1), (by show 0 ≤ (I220 0 35).toInt ∧ (I220 0 35).toInt ≤ 500; exact hI220mp.2.2.2)⟩, ⟨(by show 0 ≤ (I220 0 36).toInt ∧ (I220 0 36).toInt ≤ 4; exact hI220mt.1), (by show 0 ≤ (I220 0 42).toInt ∧ (I220 0 42).toInt ≤ 1; exact hI220mt.2)⟩, ⟨(by show 0 ≤ (I220 0 47).toInt ∧ (I220 0 47).toInt ≤ 119; exact k223), (by show 0 ≤ (I220 0 39).toInt ∧ (I220 0 39).toInt ≤ 100; exact k224)⟩, (by show 0 ≤ (I220 0 40).toInt ∧ (I220 0 40).toInt ≤ 6199; exact k225), (by show 0 ≤ (I220 0 15).toInt ∧ (I220 0 15).toInt ≤ 6100; exact k226), (z_Nd_fr a212 fI220 (by decide)), (by show 0 ≤ (I220 0 35).toInt ∧ (I220 0 35).toInt ≤ (I220 0 34).toInt ∧ (I220 0 34).toInt ≤ (I220 0 33).toInt ∧ (I220 0 33).toInt ≤ 500 ∧ ((I220 0 36).toInt = 0 ∨ (I220 0 35).toInt + 1 ≤ (I220 0 34).toInt); first | omega | decide), (z_rg_fr a213 fI220 (by decide)), (z_rg_fr a214 fI220 (by decide)), (z_rg_fr a215 fI220 (by decide)), (fun n => by by_cases q9 : n = a1.toNatClampNeg; (· (subst q9; rw [show I220 15 a1.toNatClampNeg = x60 from (by rw [fI220 15 a1.toNatClampNeg (z_wr_c (by decide)), eI210, z_up_n (by decide), fI188 15 a1.toNatClampNeg (z_wr_c (by decide)), fI70 15 a1.toNatClampNeg (z_wr_c (by decide)), eI62, z_up_s]), show I220 17 a1.toNatClampNeg = (-1) from (by rw [fI220 17 a1.toNatClampNeg (z_wr_c (by decide)), eI210, z_up_n (by decide), fI188 17 a1.toNatClampNeg (z_wr_c (by decide)), fI70 17 a1.toNatClampNeg (z_wr_c (by decide)), eI62, z_up_n (by decide), eI22, z_up_n (by decide), eI15, z_up_n (by decide), eI8, z_up_s])]; have := z_lm1; omega)); (· (have g1 : I220 15 n = I 15 n := (by rw [fI220 15 n (z_wr_c (by decide)), eI210, z_up_n (by decide), fI188 15 n (z_wr_c (by decide)), fI70 15 n (z_wr_c (by decide)), eI62, z_up_k q9, eI22, z_up_n (by decide), eI15, z_up_n (by decide), eI8, z_up_n (by decide), eI1, z_up_n (by decide)]); have g2 : I220 17 n = I 17 n := (by rw [fI220 17 n (z_wr_c (by decide)), eI210, z_up_n (by decide), fI188 17 n (z_wr_c (by decide)), fI70 17 n (z_wr_c (by decide)), eI62, z_up_n (by decide), eI22, z_up_n (by decide), eI15, z_up_n (by decide), eI8, z_up_k q9, eI1, z_up_n (by decide)]); rw [g1, g2]; exact hEx n))), f221, (by show ¬ (I220 0 42).toInt = 0 ∨ 1010 * (500 - (I220 0 35).toInt) + 1000 * (I220 0 15).toInt ≤ 1010 * (500 - (I 0 35).toInt) + 1000 * (I 0 15).toInt + 20; omega)⟩
              · have g233 := z_f_nle rfl z_l3 c186
                refine lv_aload_n hx hb dX12_statement_162 rfl (lv_at hl 1 rfl) ?_
                refine z_get (T := TX12) (N := 96) (ci := 12) (i := 0) (v := .ref (ad 16)) hx hb hts zj_X12_statement_X12 hown hK hW rfl rfl 21 (by decide) (hts (.fieldLink RX12 55 "PetrolBoardModel" "stNumber" "[I") (me_s (me_l (me_l (List.mem_of_getElem? (i := 0) rfl))))) (fun _ h => h) rfl dX12_statement_163 ?_
                refine lv_iload_n hx hb dX12_statement_166 rfl (lv_at hl 2 rfl) ?_
                refine lv_aload_n hx hb dX12_statement_167 rfl (lv_at hl 1 rfl) ?_
                refine z_get (T := TX12) (N := 96) (ci := 12) (i := 0) (v := .int (I70 0 38)) hx hb hts zj_X12_statement_X12 hown hK hW rfl rfl 38 (by decide) (hts (.fieldLink RX12 278 "PetrolBoardModel" "value" "I") (me_s (me_l (me_l (List.mem_of_getElem? (i := 10) rfl))))) (fun _ h => h) rfl dX12_statement_168 ?_
                refine z_iast (i := 16) hx hb hK hW hS rfl (z_ix rfl (by omega) (by omega)) dX12_statement_171 (fun H locs hz1 hW hS => ?_)
                obtain ⟨I234, eI234⟩ : ∃ K : z_I, K = z_up I70 16 a1.toNatClampNeg (I70 0 38) := ⟨_, rfl⟩
                rw [← eI234] at hW
                have f235 := z_fr_a f71 (show z_wa L_X12_statement 16 = true by decide) eI234
                have a236 := z_Nd_n (z_Nd_fr a64 fI70 (by decide)) (by decide) eI234
                have a237 := z_rg_n (z_rg_fr a65 fI70 (by decide)) (by decide) eI234
                have a238 := z_rg_n (z_rg_fr a66 fI70 (by decide)) (by decide) eI234
                have a239 := z_rg_n (z_rg_fr a67 fI70 (by decide)) (by decide) eI234
                refine lv_aload_n hx hb dX12_statement_172 rfl (lv_at hl 1 rfl) ?_
                refine z_cv hW hS hA (va_runV (As := []) (rest := []) ⟨hx, hb, hml, hown, hts⟩ (sx_X12_next l G ad I234 J72 ⟨(by show 0 ≤ (I234 0 31).toInt ∧ (I234 0 31).toInt ≤ 500; rw [eI234, z_up_n (by decide)]; exact hI70mp.1), (by show 0 ≤ (I234 0 33).toInt ∧ (I234 0 33).toInt ≤ 500; rw [eI234, z_up_n (by decide)]; exact hI70mp.2.1), (by show 0 ≤ (I234 0 34).toInt ∧ (I234 0 34).toInt ≤ 500; rw [eI234, z_up_n (by decide)]; exact hI70mp.2.2.1), (by show 0 ≤ (I234 0 35).toInt ∧ (I234 0 35).toInt ≤ 500; rw [eI234, z_up_n (by decide)]; exact hI70mp.2.2.2)⟩ ⟨(by show 0 ≤ (I234 0 36).toInt ∧ (I234 0 36).toInt ≤ 4; rw [eI234, z_up_n (by decide)]; exact hI70mt.1), (by show 0 ≤ (I234 0 42).toInt ∧ (I234 0 42).toInt ≤ 1; rw [eI234, z_up_n (by decide)]; exact hI70mt.2)⟩ (by have q0 : (I234 0 34) = (I70 0 34) := (by rw [eI234, z_up_n (by decide)]); have q1 : (I234 0 33) = (I70 0 33) := (by rw [eI234, z_up_n (by decide)]); show 0 ≤ (I234 0 34).toInt ∧ (I234 0 34).toInt ≤ (I234 0 33).toInt ∧ (I234 0 33).toInt ≤ 500; rw [q0, q1]; first | omega | decide)  _) (cwV 0 hts gX12_statement_X12_next rfl rfl rfl hy_X12_next ⟨Nat.le_of_ble_eq_true rfl, Nat.le_of_ble_eq_true rfl⟩) (z_preV (i := 0) hK hW rfl rfl) rfl rfl hl.1 rfl (lv_room (Nat.le_of_ble_eq_true rfl)) dX12_statement_173 ⟨Nat.le_of_ble_eq_true rfl, Nat.le_of_ble_eq_true rfl⟩) (fun u1 H locs hp hW hS => ?_)
                obtain ⟨I240, J242, e9, hI240mp, hI240mt, hI240rp, fI240, hp⟩ := hp
                rw [e9] at hW
                have f241 := z_fr_sub (L := L_X12_statement) f235 fI240 (by decide)
                have k243 : 0 ≤ (I240 0 47).toInt ∧ (I240 0 47).toInt ≤ 119 := by rw [fI240 0 47 (by decide)]; exact (by show 0 ≤ (I234 0 47).toInt ∧ (I234 0 47).toInt ≤ 119; rw [eI234, z_up_n (by decide)]; exact k73)
                have k244 : 0 ≤ (I240 0 39).toInt ∧ (I240 0 39).toInt ≤ 100 := by rw [fI240 0 39 (by decide)]; exact (by show 0 ≤ (I234 0 39).toInt ∧ (I234 0 39).toInt ≤ 100; rw [eI234, z_up_n (by decide)]; exact k74)
                have k245 : 0 ≤ (I240 0 40).toInt ∧ (I240 0 40).toInt ≤ 6199 := by rw [fI240 0 40 (by decide)]; exact (by show 0 ≤ (I234 0 40).toInt ∧ (I234 0 40).toInt ≤ 6199; rw [eI234, z_up_n (by decide)]; exact k75)
                have k246 : 0 ≤ (I240 0 15).toInt ∧ (I240 0 15).toInt ≤ 6100 := by rw [fI240 0 15 (by decide)]; exact (by show 0 ≤ (I234 0 15).toInt ∧ (I234 0 15).toInt ≤ 6100; rw [eI234, z_up_n (by decide)]; exact k76)
                have k247 : 0 ≤ (I240 0 35).toInt ∧ (I240 0 35).toInt ≤ (I240 0 34).toInt ∧ (I240 0 34).toInt ≤ (I240 0 33).toInt ∧ (I240 0 33).toInt ≤ 500 ∧ ((I240 0 36).toInt = 0 ∨ (I240 0 35).toInt + 1 ≤ (I240 0 34).toInt) := hI240rp
                have k248 : (I240 0 42).toInt = (I70 0 42).toInt := by rw [fI240 0 42 (by decide), eI234, z_up_n (by decide)]
                have k249 : (I240 0 47).toInt = (I70 0 47).toInt := by rw [fI240 0 47 (by decide), eI234, z_up_n (by decide)]
                have k250 : (I240 0 39).toInt = (I70 0 39).toInt := by rw [fI240 0 39 (by decide), eI234, z_up_n (by decide)]
                have k251 : (I240 0 15).toInt = (I70 0 15).toInt := by rw [fI240 0 15 (by decide), eI234, z_up_n (by decide)]
                have k252 : (I240 0 40).toInt = (I70 0 40).toInt := by rw [fI240 0 40 (by decide), eI234, z_up_n (by decide)]
                have h253 := hp
                rw [show (I234 0 34) = (I70 0 34) from by rw [eI234, z_up_n (by decide)]] at h253
                refine lv_goto (tgt := 183) hx hb dX12_statement_176 (by decide) ?_
                refine lv_aload_n hx hb dX12_statement_183 rfl (lv_at hl 1 rfl) ?_
                refine z_get (T := TX12) (N := 96) (ci := 12) (i := 0) (v := .ref (ad 20)) hx hb hts zj_X12_statement_X12 hown hK hW rfl rfl 25 (by decide) (hts (.fieldLink RX12 67 "PetrolBoardModel" "stTo" "[I") (me_s (me_l (me_l (List.mem_of_getElem? (i := 11) rfl))))) (fun _ h => h) rfl dX12_statement_184 ?_
                refine lv_iload_n hx hb dX12_statement_187 rfl (lv_at hl 2 rfl) ?_
                refine lv_aload_n hx hb dX12_statement_188 rfl (lv_at hl 1 rfl) ?_
                have r254 : 0 ≤ (I240 0 15).toInt ∧ (I240 0 15).toInt ≤ 6100 := k246
                refine z_get (T := TX12) (N := 96) (ci := 12) (i := 0) (v := .int (I240 0 15)) hx hb hts zj_X12_statement_X12 hown hK hW rfl rfl 15 (by decide) (hts (.fieldLink RX12 337 "PetrolBoardModel" "nodes" "I") (me_s (me_l (me_l (List.mem_of_getElem? (i := 4) rfl))))) (fun _ h => h) rfl dX12_statement_189 ?_
                refine z_iast (i := 20) hx hb hK hW hS rfl (z_ix rfl (by omega) (by omega)) dX12_statement_192 (fun H locs hz1 hW hS => ?_)
                obtain ⟨I255, eI255⟩ : ∃ K : z_I, K = z_up I240 20 a1.toNatClampNeg (I240 0 15) := ⟨_, rfl⟩
                rw [← eI255] at hW
                have f256 := z_fr_a f241 (show z_wa L_X12_statement 20 = true by decide) eI255
                have a257 := z_Nd_n (z_Nd_fr a236 fI240 (by decide)) (by decide) eI255
                have a258 := z_rg_n (z_rg_fr a237 fI240 (by decide)) (by decide) eI255
                have a259 := z_rg_a (z_rg_fr a238 fI240 (by decide)) (by omega) eI255
                have a260 := z_rg_n (z_rg_fr a239 fI240 (by decide)) (by decide) eI255
                refine lv_aload_n hx hb dX12_statement_193 rfl (lv_at hl 1 rfl) ?_
                have r261 : 0 ≤ (I240 0 42).toInt ∧ (I240 0 42).toInt ≤ 1 := hI240mt.2
                refine z_get (T := TX12) (N := 96) (ci := 12) (i := 0) (v := .int (I240 0 42)) hx hb hts zj_X12_statement_X12 hown hK hW rfl rfl 42 (by decide) (hts (.fieldLink RX12 294 "PetrolBoardModel" "isWrong" "Z") (me_s (me_l (me_l (List.mem_of_getElem? (i := 8) rfl))))) (fun _ h => h) (congrArg Value.int (by rw [eI255, z_up_n (by decide)])) dX12_statement_194 ?_
                refine lv_if_ne (tgt := 206) hx hb dX12_statement_197 (by decide) (fun c262 => ?_) (fun c262 => ?_)
                · have g263 := z_f_ne rfl z_l0 c262
                  exact z_vret hx hb hr hK hS (Nat.le_of_ble_eq_true rfl) (Nat.le_of_ble_eq_true rfl) hlocks dX12_statement_206 (shM, ad, I255, J242, PM ad) hW ⟨I255, J242, rfl, ⟨(by show 0 ≤ (I255 0 31).toInt ∧ (I255 0 31).toInt ≤ 500; rw [eI255, z_up_n (by decide)]; exact hI240mp.1), (by show 0 ≤ (I255 0 33).toInt ∧ (I255 0 33).toInt ≤ 500; rw [eI255, z_up_n (by decide)]; exact hI240mp.2.1), (by show 0 ≤ (I255 0 34).toInt ∧ (I255 0 34).toInt ≤ 500; rw [eI255, z_up_n (by decide)]; exact hI240mp.2.2.1), (by show 0 ≤ (I255 0 35).toInt ∧ (I255 0 35).toInt ≤ 500; rw [eI255, z_up_n (by decide)]; exact hI240mp.2.2.2)⟩, ⟨(by show 0 ≤ (I255 0 36).toInt ∧ (I255 0 36).toInt ≤ 4; rw [eI255, z_up_n (by decide)]; exact hI240mt.1), (by show 0 ≤ (I255 0 42).toInt ∧ (I255 0 42).toInt ≤ 1; rw [eI255, z_up_n (by decide)]; exact hI240mt.2)⟩, ⟨(by show 0 ≤ (I255 0 47).toInt ∧ (I255 0 47).toInt ≤ 119; rw [eI255, z_up_n (by decide)]; exact k243), (by show 0 ≤ (I255 0 39).toInt ∧ (I255 0 39).toInt ≤ 100; rw [eI255, z_up_n (by decide)]; exact k244)⟩, (by show 0 ≤ (I255 0 40).toInt ∧ (I255 0 40).toInt ≤ 6199; rw [eI255, z_up_n (by decide)]; exact k245), (by show 0 ≤ (I255 0 15).toInt ∧ (I255 0 15).toInt ≤ 6100; rw [eI255, z_up_n (by decide)]; exact k246), a257, (by have q0 : (I255 0 35) = (I240 0 35) := (by rw [eI255, z_up_n (by decide)]); have q1 : (I255 0 34) = (I240 0 34) := (by rw [eI255, z_up_n (by decide)]); have q2 : (I255 0 33) = (I240 0 33) := (by rw [eI255, z_up_n (by decide)]); have q3 : (I255 0 36) = (I240 0 36) := (by rw [eI255, z_up_n (by decide)]); show 0 ≤ (I255 0 35).toInt ∧ (I255 0 35).toInt ≤ (I255 0 34).toInt ∧ (I255 0 34).toInt ≤ (I255 0 33).toInt ∧ (I255 0 33).toInt ≤ 500 ∧ ((I255 0 36).toInt = 0 ∨ (I255 0 35).toInt + 1 ≤ (I255 0 34).toInt); rw [q0, q1, q2, q3]; first | omega | decide), a258, a259, a260, (fun n => by by_cases q9 : n = a1.toNatClampNeg; (· (subst q9; rw [show I255 15 a1.toNatClampNeg = x60 from (by rw [eI255, z_up_n (by decide), fI240 15 a1.toNatClampNeg (z_wr_c (by decide)), eI234, z_up_n (by decide), fI70 15 a1.toNatClampNeg (z_wr_c (by decide)), eI62, z_up_s]), show I255 17 a1.toNatClampNeg = (-1) from (by rw [eI255, z_up_n (by decide), fI240 17 a1.toNatClampNeg (z_wr_c (by decide)), eI234, z_up_n (by decide), fI70 17 a1.toNatClampNeg (z_wr_c (by decide)), eI62, z_up_n (by decide), eI22, z_up_n (by decide), eI15, z_up_n (by decide), eI8, z_up_s])]; have := z_lm1; omega)); (· (have g1 : I255 15 n = I 15 n := (by rw [eI255, z_up_n (by decide), fI240 15 n (z_wr_c (by decide)), eI234, z_up_n (by decide), fI70 15 n (z_wr_c (by decide)), eI62, z_up_k q9, eI22, z_up_n (by decide), eI15, z_up_n (by decide), eI8, z_up_n (by decide), eI1, z_up_n (by decide)]); have g2 : I255 17 n = I 17 n := (by rw [eI255, z_up_n (by decide), fI240 17 n (z_wr_c (by decide)), eI234, z_up_n (by decide), fI70 17 n (z_wr_c (by decide)), eI62, z_up_n (by decide), eI22, z_up_n (by decide), eI15, z_up_n (by decide), eI8, z_up_k q9, eI1, z_up_n (by decide)]); rw [g1, g2]; exact hEx n))), f256, (by have q0 : (I255 0 42) = (I240 0 42) := (by rw [eI255, z_up_n (by decide)]); have q1 : (I255 0 35) = (I240 0 35) := (by rw [eI255, z_up_n (by decide)]); have q2 : (I255 0 15) = (I240 0 15) := (by rw [eI255, z_up_n (by decide)]); show ¬ (I255 0 42).toInt = 0 ∨ 1010 * (500 - (I255 0 35).toInt) + 1000 * (I255 0 15).toInt ≤ 1010 * (500 - (I 0 35).toInt) + 1000 * (I 0 15).toInt + 20; rw [q0, q1, q2]; omega)⟩
                · have g264 := z_f_eq rfl z_l0 c262
                  refine lv_aload_n hx hb dX12_statement_200 rfl (lv_at hl 1 rfl) ?_
                  refine lv_bipush (v := 59) hx hb dX12_statement_201 (by decide) ?_
                  refine z_cv hW hS hA (va_runV (As := [.int 59]) (rest := []) ⟨hx, hb, hml, hown, hts⟩ (sx_X12_must l G ad I255 J242 ⟨(by show 0 ≤ (I255 0 31).toInt ∧ (I255 0 31).toInt ≤ 500; rw [eI255, z_up_n (by decide)]; exact hI240mp.1), (by show 0 ≤ (I255 0 33).toInt ∧ (I255 0 33).toInt ≤ 500; rw [eI255, z_up_n (by decide)]; exact hI240mp.2.1), (by show 0 ≤ (I255 0 34).toInt ∧ (I255 0 34).toInt ≤ 500; rw [eI255, z_up_n (by decide)]; exact hI240mp.2.2.1), (by show 0 ≤ (I255 0 35).toInt ∧ (I255 0 35).toInt ≤ 500; rw [eI255, z_up_n (by decide)]; exact hI240mp.2.2.2)⟩ ⟨(by show 0 ≤ (I255 0 36).toInt ∧ (I255 0 36).toInt ≤ 4; rw [eI255, z_up_n (by decide)]; exact hI240mt.1), (by show 0 ≤ (I255 0 42).toInt ∧ (I255 0 42).toInt ≤ 1; rw [eI255, z_up_n (by decide)]; exact hI240mt.2)⟩ (by have q0 : (I255 0 35) = (I240 0 35) := (by rw [eI255, z_up_n (by decide)]); have q1 : (I255 0 34) = (I240 0 34) := (by rw [eI255, z_up_n (by decide)]); have q2 : (I255 0 33) = (I240 0 33) := (by rw [eI255, z_up_n (by decide)]); have q3 : (I255 0 36) = (I240 0 36) := (by rw [eI255, z_up_n (by decide)]); show 0 ≤ (I255 0 35).toInt ∧ (I255 0 35).toInt ≤ (I255 0 34).toInt ∧ (I255 0 34).toInt ≤ (I255 0 33).toInt ∧ (I255 0 33).toInt ≤ 500 ∧ ((I255 0 36).toInt = 0 ∨ (I255 0 35).toInt + 1 ≤ (I255 0 34).toInt); rw [q0, q1, q2, q3]; first | omega | decide) 59 _) (cwV 1 hts gX12_statement_X12_must rfl rfl rfl hy_X12_must ⟨Nat.le_of_ble_eq_true rfl, Nat.le_of_ble_eq_true rfl⟩) (z_preV (i := 0) hK hW rfl rfl) rfl rfl hl.1 rfl (lv_room (Nat.le_of_ble_eq_true rfl)) dX12_statement_203 ⟨Nat.le_of_ble_eq_true rfl, Nat.le_of_ble_eq_true rfl⟩) (fun u1 H locs hp hW hS => ?_)
                  obtain ⟨I265, J267, e9, hI265mp, hI265mt, hI265rp, fI265, hp⟩ := hp
                  rw [e9] at hW
                  have f266 := z_fr_sub (L := L_X12_statement) f256 fI265 (by decide)
                  have k268 : 0 ≤ (I265 0 47).toInt ∧ (I265 0 47).toInt ≤ 119 := by rw [fI265 0 47 (by decide)]; exact (by show 0 ≤ (I255 0 47).toInt ∧ (I255 0 47).toInt ≤ 119; rw [eI255, z_up_n (by decide)]; exact k243)
                  have k269 : 0 ≤ (I265 0 39).toInt ∧ (I265 0 39).toInt ≤ 100 := by rw [fI265 0 39 (by decide)]; exact (by show 0 ≤ (I255 0 39).toInt ∧ (I255 0 39).toInt ≤ 100; rw [eI255, z_up_n (by decide)]; exact k244)
                  have k270 : 0 ≤ (I265 0 40).toInt ∧ (I265 0 40).toInt ≤ 6199 := by rw [fI265 0 40 (by decide)]; exact (by show 0 ≤ (I255 0 40).toInt ∧ (I255 0 40).toInt ≤ 6199; rw [eI255, z_up_n (by decide)]; exact k245)
                  have k271 : 0 ≤ (I265 0 15).toInt ∧ (I265 0 15).toInt ≤ 6100 := by rw [fI265 0 15 (by decide)]; exact (by show 0 ≤ (I255 0 15).toInt ∧ (I255 0 15).toInt ≤ 6100; rw [eI255, z_up_n (by decide)]; exact k246)
                  have k272 : 0 ≤ (I265 0 35).toInt ∧ (I265 0 35).toInt ≤ (I265 0 34).toInt ∧ (I265 0 34).toInt ≤ (I265 0 33).toInt ∧ (I265 0 33).toInt ≤ 500 ∧ ((I265 0 36).toInt = 0 ∨ (I265 0 35).toInt + 1 ≤ (I265 0 34).toInt) := hI265rp
                  have k273 : (I265 0 47).toInt = (I240 0 47).toInt := by rw [fI265 0 47 (by decide), eI255, z_up_n (by decide)]
                  have k274 : (I265 0 39).toInt = (I240 0 39).toInt := by rw [fI265 0 39 (by decide), eI255, z_up_n (by decide)]
                  have k275 : (I265 0 15).toInt = (I240 0 15).toInt := by rw [fI265 0 15 (by decide), eI255, z_up_n (by decide)]
                  have k276 : (I265 0 40).toInt = (I240 0 40).toInt := by rw [fI265 0 40 (by decide), eI255, z_up_n (by decide)]
                  have h277 := hp
                  rw [show (I255 0 35) = (I240 0 35) from by rw [eI255, z_up_n (by decide)]] at h277
                  exact z_vret hx hb hr hK hS (Nat.le_of_ble_eq_true rfl) (Nat.le_of_ble_eq_true rfl) hlocks dX12_statement_206 (shM, ad, I265, J267, PM ad) hW ⟨I265, J267, rfl, ⟨(by show 0 ≤ (I265 0 31).toInt ∧ (I265 0 31).toInt ≤ 500; exact hI265mp.1), (by show 0 ≤ (I265 0 33).toInt ∧ (I265 0 33).toInt ≤ 500; exact hI265mp.2.1), (by show 0 ≤ (I265 0 34).toInt ∧ (I265 0 34).toInt ≤ 500; exact hI265mp.2.2.1), (by show 0 ≤ (I265 0 35).toInt ∧ (I265 0 35).toInt ≤ 500; exact hI265mp.2.2.2)⟩, ⟨(by show 0 ≤ (I265 0 36).toInt ∧ (I265 0 36).toInt ≤ 4; exact hI265mt.1), (by show 0 ≤ (I265 0 42).toInt ∧ (I265 0 42).toInt ≤ 1; exact hI265mt.2)⟩, ⟨(by show 0 ≤ (I265 0 47).toInt ∧ (I265 0 47).toInt ≤ 119; exact k268), (by show 0 ≤ (I265 0 39).toInt ∧ (I265 0 39).toInt ≤ 100; exact k269)⟩, (by show 0 ≤ (I265 0 40).toInt ∧ (I265 0 40).toInt ≤ 6199; exact k270), (by show 0 ≤ (I265 0 15).toInt ∧ (I265 0 15).toInt ≤ 6100; exact k271), (z_Nd_fr a257 fI265 (by decide)), (by show 0 ≤ (I265 0 35).toInt ∧ (I265 0 35).toInt ≤ (I265 0 34).toInt ∧ (I265 0 34).toInt ≤ (I265 0 33).toInt ∧ (I265 0 33).toInt ≤ 500 ∧ ((I265 0 36).toInt = 0 ∨ (I265 0 35).toInt + 1 ≤ (I265 0 34).toInt); first | omega | decide), (z_rg_fr a258 fI265 (by decide)), (z_rg_fr a259 fI265 (by decide)), (z_rg_fr a260 fI265 (by decide)), (fun n => by by_cases q9 : n = a1.toNatClampNeg; (· (subst q9; rw [show I265 15 a1.toNatClampNeg = x60 from (by rw [fI265 15 a1.toNatClampNeg (z_wr_c (by decide)), eI255, z_up_n (by decide), fI240 15 a1.toNatClampNeg (z_wr_c (by decide)), eI234, z_up_n (by decide), fI70 15 a1.toNatClampNeg (z_wr_c (by decide)), eI62, z_up_s]), show I265 17 a1.toNatClampNeg = (-1) from (by rw [fI265 17 a1.toNatClampNeg (z_wr_c (by decide)), eI255, z_up_n (by decide), fI240 17 a1.toNatClampNeg (z_wr_c (by decide)), eI234, z_up_n (by decide), fI70 17 a1.toNatClampNeg (z_wr_c (by decide)), eI62, z_up_n (by decide), eI22, z_up_n (by decide), eI15, z_up_n (by decide), eI8, z_up_s])]; have := z_lm1; omega)); (· (have g1 : I265 15 n = I 15 n := (by rw [fI265 15 n (z_wr_c (by decide)), eI255, z_up_n (by decide), fI240 15 n (z_wr_c (by decide)), eI234, z_up_n (by decide), fI70 15 n (z_wr_c (by decide)), eI62, z_up_k q9, eI22, z_up_n (by decide), eI15, z_up_n (by decide), eI8, z_up_n (by decide), eI1, z_up_n (by decide)]); have g2 : I265 17 n = I 17 n := (by rw [fI265 17 n (z_wr_c (by decide)), eI255, z_up_n (by decide), fI240 17 n (z_wr_c (by decide)), eI234, z_up_n (by decide), fI70 17 n (z_wr_c (by decide)), eI62, z_up_n (by decide), eI22, z_up_n (by decide), eI15, z_up_n (by decide), eI8, z_up_k q9, eI1, z_up_n (by decide)]); rw [g1, g2]; exact hEx n))), f266, (by show ¬ (I265 0 42).toInt = 0 ∨ 1010 * (500 - (I265 0 35).toInt) + 1000 * (I265 0 15).toInt ≤ 1010 * (500 - (I 0 35).toInt) + 1000 * (I 0 15).toInt + 20; omega)⟩
        · have g278 := z_f_eq rfl z_l2 c86
          refine lv_aload_n hx hb dX12_statement_128 rfl (lv_at hl 1 rfl) ?_
          refine z_get (T := TX12) (N := 96) (ci := 12) (i := 0) (v := .ref (ad 18)) hx hb hts zj_X12_statement_X12 hown hK hW rfl rfl 23 (by decide) (hts (.fieldLink RX12 61 "PetrolBoardModel" "stCond" "[I") (me_s (me_l (me_l (List.mem_of_getElem? (i := 2) rfl))))) (fun _ h => h) rfl dX12_statement_129 ?_
          refine lv_iload_n hx hb dX12_statement_132 rfl (lv_at hl 2 rfl) ?_
          refine lv_aload_n hx hb dX12_statement_133 rfl (lv_at hl 1 rfl) ?_
          refine lv_iconst (v := 3) hx hb dX12_statement_134 (by decide) ?_
          refine z_ci hW hS hA (va_runV (As := [.int 3]) (rest := [.int a1, .ref (ad 18)]) ⟨hx, hb, hml, hown, hts⟩ (sx_X12_parse l G ad I70 J72 ⟨(by show 0 ≤ (I70 0 31).toInt ∧ (I70 0 31).toInt ≤ 500; exact hI70mp.1), (by show 0 ≤ (I70 0 33).toInt ∧ (I70 0 33).toInt ≤ 500; exact hI70mp.2.1), (by show 0 ≤ (I70 0 34).toInt ∧ (I70 0 34).toInt ≤ 500; exact hI70mp.2.2.1), (by show 0 ≤ (I70 0 35).toInt ∧ (I70 0 35).toInt ≤ 500; exact hI70mp.2.2.2)⟩ ⟨(by show 0 ≤ (I70 0 36).toInt ∧ (I70 0 36).toInt ≤ 4; exact hI70mt.1), (by show 0 ≤ (I70 0 42).toInt ∧ (I70 0 42).toInt ≤ 1; exact hI70mt.2)⟩ ⟨(by show 0 ≤ (I70 0 47).toInt ∧ (I70 0 47).toInt ≤ 119; exact k73), (by show 0 ≤ (I70 0 39).toInt ∧ (I70 0 39).toInt ≤ 100; exact k74)⟩ (by show 0 ≤ (I70 0 40).toInt ∧ (I70 0 40).toInt ≤ 6199; exact k75) (by show 0 ≤ (I70 0 15).toInt ∧ (I70 0 15).toInt ≤ 6100; exact k76) (z_Nd_fr a64 fI70 (by decide)) (by show 0 ≤ (I70 0 35).toInt ∧ (I70 0 35).toInt ≤ (I70 0 34).toInt ∧ (I70 0 34).toInt ≤ (I70 0 33).toInt ∧ (I70 0 33).toInt ≤ 500 ∧ ((I70 0 36).toInt = 0 ∨ (I70 0 35).toInt + 1 ≤ (I70 0 34).toInt); first | omega | decide) 3 (by have := z_l3; first | omega | decide) (by show 1010 * (500 - (I70 0 35).toInt) + 1000 * (I70 0 15).toInt + 10 ≤ 6100000; omega) _) (cwV 1 hts gX12_statement_X12_parse rfl rfl rfl hy_X12_parse ⟨Nat.le_of_ble_eq_true rfl, Nat.le_of_ble_eq_true rfl⟩) (z_preV (i := 0) hK hW rfl rfl) rfl rfl hl.1 rfl (lv_room (Nat.le_of_ble_eq_true rfl)) dX12_statement_135 ⟨Nat.le_of_ble_eq_true rfl, Nat.le_of_ble_eq_true rfl⟩) (fun r u1 H locs hp hW hS => ?_)
          obtain ⟨I279, J281, e9, hI279mp, hI279mt, hI279md, hI279mg, hI279mn, hI279Nd, hI279rp, fI279, hp⟩ := hp
          rw [e9] at hW
          have f280 := z_fr_sub (L := L_X12_statement) f71 fI279 (by decide)
          have k282 : 0 ≤ (I279 0 35).toInt ∧ (I279 0 35).toInt ≤ (I279 0 34).toInt ∧ (I279 0 34).toInt ≤ (I279 0 33).toInt ∧ (I279 0 33).toInt ≤ 500 ∧ ((I279 0 36).toInt = 0 ∨ (I279 0 35).toInt + 1 ≤ (I279 0 34).toInt) := hI279rp
          refine lv_topi (fun x283 ex283 => ?_)
          rw [← ex283] at hp
          have h284 := hp
          refine z_iast (i := 18) hx hb hK hW hS rfl (z_ix rfl (by omega) (by omega)) dX12_statement_138 (fun H locs hz1 hW hS => ?_)
          obtain ⟨I285, eI285⟩ : ∃ K : z_I, K = z_up I279 18 a1.toNatClampNeg x283 := ⟨_, rfl⟩
          rw [← eI285] at hW
          have f286 := z_fr_a f280 (show z_wa L_X12_statement 18 = true by decide) eI285
          have a287 := z_Nd_n hI279Nd (by decide) eI285
          have a288 := z_rg_n (z_rg_fr (z_rg_fr a65 fI70 (by decide)) fI279 (by decide)) (by decide) eI285
          have a289 := z_rg_n (z_rg_fr (z_rg_fr a66 fI70 (by decide)) fI279 (by decide)) (by decide) eI285
          have a290 := z_rg_a (z_rg_fr (z_rg_fr a67 fI70 (by decide)) fI279 (by decide)) (by omega) eI285
          refine lv_goto (tgt := 183) hx hb dX12_statement_139 (by decide) ?_
          refine lv_aload_n hx hb dX12_statement_183 rfl (lv_at hl 1 rfl) ?_
          refine z_get (T := TX12) (N := 96) (ci := 12) (i := 0) (v := .ref (ad 20)) hx hb hts zj_X12_statement_X12 hown hK hW rfl rfl 25 (by decide) (hts (.fieldLink RX12 67 "PetrolBoardModel" "stTo" "[I") (me_s (me_l (me_l (List.mem_of_getElem? (i := 11) rfl))))) (fun _ h => h) rfl dX12_statement_184 ?_
          refine lv_iload_n hx hb dX12_statement_187 rfl (lv_at hl 2 rfl) ?_
          refine lv_aload_n hx hb dX12_statement_188 rfl (lv_at hl 1 rfl) ?_
          have r291 : 0 ≤ (I279 0 15).toInt ∧ (I279 0 15).toInt ≤ 6100 := hI279mn
          refine z_get (T := TX12) (N := 96) (ci := 12) (i := 0) (v := .int (I279 0 15)) hx hb hts zj_X12_statement_X12 hown hK hW rfl rfl 15 (by decide) (hts (.fieldLink RX12 337 "PetrolBoardModel" "nodes" "I") (me_s (me_l (me_l (List.mem_of_getElem? (i := 4) rfl))))) (fun _ h => h) (congrArg Value.int (by rw [eI285, z_up_n (by decide)])) dX12_statement_189 ?_
          refine z_iast (i := 20) hx hb hK hW hS rfl (z_ix rfl (by omega) (by omega)) dX12_statement_192 (fun H locs hz1 hW hS => ?_)
          obtain ⟨I292, eI292⟩ : ∃ K : z_I, K = z_up I285 20 a1.toNatClampNeg (I279 0 15) := ⟨_, rfl⟩
          rw [← eI292] at hW
          have f293 := z_fr_a f286 (show z_wa L_X12_statement 20 = true by decide) eI292
          have a294 := z_Nd_n a287 (by decide) eI292
          have a295 := z_rg_n a288 (by decide) eI292
          have a296 := z_rg_a a289 (by omega) eI292
          have a297 := z_rg_n a290 (by decide) eI292
          refine lv_aload_n hx hb dX12_statement_193 rfl (lv_at hl 1 rfl) ?_
          have r298 : 0 ≤ (I279 0 42).toInt ∧ (I279 0 42).toInt ≤ 1 := hI279mt.2
          refine z_get (T := TX12) (N := 96) (ci := 12) (i := 0) (v := .int (I279 0 42)) hx hb hts zj_X12_statement_X12 hown hK hW rfl rfl 42 (by decide) (hts (.fieldLink RX12 294 "PetrolBoardModel" "isWrong" "Z") (me_s (me_l (me_l (List.mem_of_getElem? (i := 8) rfl))))) (fun _ h => h) (congrArg Value.int (by rw [eI292, z_up_n (by decide), eI285, z_up_n (by decide)])) dX12_statement_194 ?_
          refine lv_if_ne (tgt := 206) hx hb dX12_statement_197 (by decide) (fun c299 => ?_) (fun c299 => ?_)
          · have g300 := z_f_ne rfl z_l0 c299
            exact z_vret hx hb hr hK hS (Nat.le_of_ble_eq_true rfl) (Nat.le_of_ble_eq_true rfl) hlocks dX12_statement_206 (shM, ad, I292, J281, PM ad) hW ⟨I292, J281, rfl, ⟨(by show 0 ≤ (I292 0 31).toInt ∧ (I292 0 31).toInt ≤ 500; rw [eI292, z_up_n (by decide), eI285, z_up_n (by decide)]; exact hI279mp.1), (by show 0 ≤ (I292 0 33).toInt ∧ (I292 0 33).toInt ≤ 500; rw [eI292, z_up_n (by decide), eI285, z_up_n (by decide)]; exact hI279mp.2.1), (by show 0 ≤ (I292 0 34).toInt ∧ (I292 0 34).toInt ≤ 500; rw [eI292, z_up_n (by decide), eI285, z_up_n (by decide)]; exact hI279mp.2.2.1), (by show 0 ≤ (I292 0 35).toInt ∧ (I292 0 35).toInt ≤ 500; rw [eI292, z_up_n (by decide), eI285, z_up_n (by decide)]; exact hI279mp.2.2.2)⟩, ⟨(by show 0 ≤ (I292 0 36).toInt ∧ (I292 0 36).toInt ≤ 4; rw [eI292, z_up_n (by decide), eI285, z_up_n (by decide)]; exact hI279mt.1), (by show 0 ≤ (I292 0 42).toInt ∧ (I292 0 42).toInt ≤ 1; rw [eI292, z_up_n (by decide), eI285, z_up_n (by decide)]; exact hI279mt.2)⟩, ⟨(by show 0 ≤ (I292 0 47).toInt ∧ (I292 0 47).toInt ≤ 119; rw [eI292, z_up_n (by decide), eI285, z_up_n (by decide)]; exact hI279md.1), (by show 0 ≤ (I292 0 39).toInt ∧ (I292 0 39).toInt ≤ 100; rw [eI292, z_up_n (by decide), eI285, z_up_n (by decide)]; exact hI279md.2)⟩, (by show 0 ≤ (I292 0 40).toInt ∧ (I292 0 40).toInt ≤ 6199; rw [eI292, z_up_n (by decide), eI285, z_up_n (by decide)]; exact hI279mg), (by show 0 ≤ (I292 0 15).toInt ∧ (I292 0 15).toInt ≤ 6100; rw [eI292, z_up_n (by decide), eI285, z_up_n (by decide)]; exact hI279mn), a294, (by have q0 : (I292 0 35) = (I279 0 35) := (by rw [eI292, z_up_n (by decide), eI285, z_up_n (by decide)]); have q1 : (I292 0 34) = (I279 0 34) := (by rw [eI292, z_up_n (by decide), eI285, z_up_n (by decide)]); have q2 : (I292 0 33) = (I279 0 33) := (by rw [eI292, z_up_n (by decide), eI285, z_up_n (by decide)]); have q3 : (I292 0 36) = (I279 0 36) := (by rw [eI292, z_up_n (by decide), eI285, z_up_n (by decide)]); show 0 ≤ (I292 0 35).toInt ∧ (I292 0 35).toInt ≤ (I292 0 34).toInt ∧ (I292 0 34).toInt ≤ (I292 0 33).toInt ∧ (I292 0 33).toInt ≤ 500 ∧ ((I292 0 36).toInt = 0 ∨ (I292 0 35).toInt + 1 ≤ (I292 0 34).toInt); rw [q0, q1, q2, q3]; first | omega | decide), a295, a296, a297, (fun n => by by_cases q9 : n = a1.toNatClampNeg; (· (subst q9; rw [show I292 15 a1.toNatClampNeg = x60 from (by rw [eI292, z_up_n (by decide), eI285, z_up_n (by decide), fI279 15 a1.toNatClampNeg (z_wr_c (by decide)), fI70 15 a1.toNatClampNeg (z_wr_c (by decide)), eI62, z_up_s]), show I292 17 a1.toNatClampNeg = (-1) from (by rw [eI292, z_up_n (by decide), eI285, z_up_n (by decide), fI279 17 a1.toNatClampNeg (z_wr_c (by decide)), fI70 17 a1.toNatClampNeg (z_wr_c (by decide)), eI62, z_up_n (by decide), eI22, z_up_n (by decide), eI15, z_up_n (by decide), eI8, z_up_s])]; have := z_lm1; omega)); (· (have g1 : I292 15 n = I 15 n := (by rw [eI292, z_up_n (by decide), eI285, z_up_n (by decide), fI279 15 n (z_wr_c (by decide)), fI70 15 n (z_wr_c (by decide)), eI62, z_up_k q9, eI22, z_up_n (by decide), eI15, z_up_n (by decide), eI8, z_up_n (by decide), eI1, z_up_n (by decide)]); have g2 : I292 17 n = I 17 n := (by rw [eI292, z_up_n (by decide), eI285, z_up_n (by decide), fI279 17 n (z_wr_c (by decide)), fI70 17 n (z_wr_c (by decide)), eI62, z_up_n (by decide), eI22, z_up_n (by decide), eI15, z_up_n (by decide), eI8, z_up_k q9, eI1, z_up_n (by decide)]); rw [g1, g2]; exact hEx n))), f293, (by have q0 : (I292 0 42) = (I279 0 42) := (by rw [eI292, z_up_n (by decide), eI285, z_up_n (by decide)]); have q1 : (I292 0 35) = (I279 0 35) := (by rw [eI292, z_up_n (by decide), eI285, z_up_n (by decide)]); have q2 : (I292 0 15) = (I279 0 15) := (by rw [eI292, z_up_n (by decide), eI285, z_up_n (by decide)]); show ¬ (I292 0 42).toInt = 0 ∨ 1010 * (500 - (I292 0 35).toInt) + 1000 * (I292 0 15).toInt ≤ 1010 * (500 - (I 0 35).toInt) + 1000 * (I 0 15).toInt + 20; rw [q0, q1, q2]; omega)⟩
          · have g301 := z_f_eq rfl z_l0 c299
            refine lv_aload_n hx hb dX12_statement_200 rfl (lv_at hl 1 rfl) ?_
            refine lv_bipush (v := 59) hx hb dX12_statement_201 (by decide) ?_
            refine z_cv hW hS hA (va_runV (As := [.int 59]) (rest := []) ⟨hx, hb, hml, hown, hts⟩ (sx_X12_must l G ad I292 J281 ⟨(by show 0 ≤ (I292 0 31).toInt ∧ (I292 0 31).toInt ≤ 500; rw [eI292, z_up_n (by decide), eI285, z_up_n (by decide)]; exact hI279mp.1), (by show 0 ≤ (I292 0 33).toInt ∧ (I292 0 33).toInt ≤ 500; rw [eI292, z_up_n (by decide), eI285, z_up_n (by decide)]; exact hI279mp.2.1), (by show 0 ≤ (I292 0 34).toInt ∧ (I292 0 34).toInt ≤ 500; rw [eI292, z_up_n (by decide), eI285, z_up_n (by decide)]; exact hI279mp.2.2.1), (by show 0 ≤ (I292 0 35).toInt ∧ (I292 0 35).toInt ≤ 500; rw [eI292, z_up_n (by decide), eI285, z_up_n (by decide)]; exact hI279mp.2.2.2)⟩ ⟨(by show 0 ≤ (I292 0 36).toInt ∧ (I292 0 36).toInt ≤ 4; rw [eI292, z_up_n (by decide), eI285, z_up_n (by decide)]; exact hI279mt.1), (by show 0 ≤ (I292 0 42).toInt ∧ (I292 0 42).toInt ≤ 1; rw [eI292, z_up_n (by decide), eI285, z_up_n (by decide)]; exact hI279mt.2)⟩ (by have q0 : (I292 0 35) = (I279 0 35) := (by rw [eI292, z_up_n (by decide), eI285, z_up_n (by decide)]); have q1 : (I292 0 34) = (I279 0 34) := (by rw [eI292, z_up_n (by decide), eI285, z_up_n (by decide)]); have q2 : (I292 0 33) = (I279 0 33) := (by rw [eI292, z_up_n (by decide), eI285, z_up_n (by decide)]); have q3 : (I292 0 36) = (I279 0 36) := (by rw [eI292, z_up_n (by decide), eI285, z_up_n (by decide)]); show 0 ≤ (I292 0 35).toInt ∧ (I292 0 35).toInt ≤ (I292 0 34).toInt ∧ (I292 0 34).toInt ≤ (I292 0 33).toInt ∧ (I292 0 33).toInt ≤ 500 ∧ ((I292 0 36).toInt = 0 ∨ (I292 0 35).toInt + 1 ≤ (I292 0 34).toInt); rw [q0, q1, q2, q3]; first | omega | decide) 59 _) (cwV 1 hts gX12_statement_X12_must rfl rfl rfl hy_X12_must ⟨Nat.le_of_ble_eq_true rfl, Nat.le_of_ble_eq_true rfl⟩) (z_preV (i := 0) hK hW rfl rfl) rfl rfl hl.1 rfl (lv_room (Nat.le_of_ble_eq_true rfl)) dX12_statement_203 ⟨Nat.le_of_ble_eq_true rfl, Nat.le_of_ble_eq_true rfl⟩) (fun u1 H locs hp hW hS => ?_)
            obtain ⟨I302, J304, e9, hI302mp, hI302mt, hI302rp, fI302, hp⟩ := hp
            rw [e9] at hW
            have f303 := z_fr_sub (L := L_X12_statement) f293 fI302 (by decide)
            have k305 : 0 ≤ (I302 0 47).toInt ∧ (I302 0 47).toInt ≤ 119 := by rw [fI302 0 47 (by decide)]; exact (by show 0 ≤ (I292 0 47).toInt ∧ (I292 0 47).toInt ≤ 119; rw [eI292, z_up_n (by decide), eI285, z_up_n (by decide)]; exact hI279md.1)
            have k306 : 0 ≤ (I302 0 39).toInt ∧ (I302 0 39).toInt ≤ 100 := by rw [fI302 0 39 (by decide)]; exact (by show 0 ≤ (I292 0 39).toInt ∧ (I292 0 39).toInt ≤ 100; rw [eI292, z_up_n (by decide), eI285, z_up_n (by decide)]; exact hI279md.2)
            have k307 : 0 ≤ (I302 0 40).toInt ∧ (I302 0 40).toInt ≤ 6199 := by rw [fI302 0 40 (by decide)]; exact (by show 0 ≤ (I292 0 40).toInt ∧ (I292 0 40).toInt ≤ 6199; rw [eI292, z_up_n (by decide), eI285, z_up_n (by decide)]; exact hI279mg)
            have k308 : 0 ≤ (I302 0 15).toInt ∧ (I302 0 15).toInt ≤ 6100 := by rw [fI302 0 15 (by decide)]; exact (by show 0 ≤ (I292 0 15).toInt ∧ (I292 0 15).toInt ≤ 6100; rw [eI292, z_up_n (by decide), eI285, z_up_n (by decide)]; exact hI279mn)
            have k309 : 0 ≤ (I302 0 35).toInt ∧ (I302 0 35).toInt ≤ (I302 0 34).toInt ∧ (I302 0 34).toInt ≤ (I302 0 33).toInt ∧ (I302 0 33).toInt ≤ 500 ∧ ((I302 0 36).toInt = 0 ∨ (I302 0 35).toInt + 1 ≤ (I302 0 34).toInt) := hI302rp
            have k310 : (I302 0 47).toInt = (I279 0 47).toInt := by rw [fI302 0 47 (by decide), eI292, z_up_n (by decide), eI285, z_up_n (by decide)]
            have k311 : (I302 0 39).toInt = (I279 0 39).toInt := by rw [fI302 0 39 (by decide), eI292, z_up_n (by decide), eI285, z_up_n (by decide)]
            have k312 : (I302 0 15).toInt = (I279 0 15).toInt := by rw [fI302 0 15 (by decide), eI292, z_up_n (by decide), eI285, z_up_n (by decide)]
            have k313 : (I302 0 40).toInt = (I279 0 40).toInt := by rw [fI302 0 40 (by decide), eI292, z_up_n (by decide), eI285, z_up_n (by decide)]
            have h314 := hp
            rw [show (I292 0 35) = (I279 0 35) from by rw [eI292, z_up_n (by decide), eI285, z_up_n (by decide)]] at h314
            exact z_vret hx hb hr hK hS (Nat.le_of_ble_eq_true rfl) (Nat.le_of_ble_eq_true rfl) hlocks dX12_statement_206 (shM, ad, I302, J304, PM ad) hW ⟨I302, J304, rfl, ⟨(by show 0 ≤ (I302 0 31).toInt ∧ (I302 0 31).toInt ≤ 500; exact hI302mp.1), (by show 0 ≤ (I302 0 33).toInt ∧ (I302 0 33).toInt ≤ 500; exact hI302mp.2.1), (by show 0 ≤ (I302 0 34).toInt ∧ (I302 0 34).toInt ≤ 500; exact hI302mp.2.2.1), (by show 0 ≤ (I302 0 35).toInt ∧ (I302 0 35).toInt ≤ 500; exact hI302mp.2.2.2)⟩, ⟨(by show 0 ≤ (I302 0 36).toInt ∧ (I302 0 36).toInt ≤ 4; exact hI302mt.1), (by show 0 ≤ (I302 0 42).toInt ∧ (I302 0 42).toInt ≤ 1; exact hI302mt.2)⟩, ⟨(by show 0 ≤ (I302 0 47).toInt ∧ (I302 0 47).toInt ≤ 119; exact k305), (by show 0 ≤ (I302 0 39).toInt ∧ (I302 0 39).toInt ≤ 100; exact k306)⟩, (by show 0 ≤ (I302 0 40).toInt ∧ (I302 0 40).toInt ≤ 6199; exact k307), (by show 0 ≤ (I302 0 15).toInt ∧ (I302 0 15).toInt ≤ 6100; exact k308), (z_Nd_fr a294 fI302 (by decide)), (by show 0 ≤ (I302 0 35).toInt ∧ (I302 0 35).toInt ≤ (I302 0 34).toInt ∧ (I302 0 34).toInt ≤ (I302 0 33).toInt ∧ (I302 0 33).toInt ≤ 500 ∧ ((I302 0 36).toInt = 0 ∨ (I302 0 35).toInt + 1 ≤ (I302 0 34).toInt); first | omega | decide), (z_rg_fr a295 fI302 (by decide)), (z_rg_fr a296 fI302 (by decide)), (z_rg_fr a297 fI302 (by decide)), (fun n => by by_cases q9 : n = a1.toNatClampNeg; (· (subst q9; rw [show I302 15 a1.toNatClampNeg = x60 from (by rw [fI302 15 a1.toNatClampNeg (z_wr_c (by decide)), eI292, z_up_n (by decide), eI285, z_up_n (by decide), fI279 15 a1.toNatClampNeg (z_wr_c (by decide)), fI70 15 a1.toNatClampNeg (z_wr_c (by decide)), eI62, z_up_s]), show I302 17 a1.toNatClampNeg = (-1) from (by rw [fI302 17 a1.toNatClampNeg (z_wr_c (by decide)), eI292, z_up_n (by decide), eI285, z_up_n (by decide), fI279 17 a1.toNatClampNeg (z_wr_c (by decide)), fI70 17 a1.toNatClampNeg (z_wr_c (by decide)), eI62, z_up_n (by decide), eI22, z_up_n (by decide), eI15, z_up_n (by decide), eI8, z_up_s])]; have := z_lm1; omega)); (· (have g1 : I302 15 n = I 15 n := (by rw [fI302 15 n (z_wr_c (by decide)), eI292, z_up_n (by decide), eI285, z_up_n (by decide), fI279 15 n (z_wr_c (by decide)), fI70 15 n (z_wr_c (by decide)), eI62, z_up_k q9, eI22, z_up_n (by decide), eI15, z_up_n (by decide), eI8, z_up_n (by decide), eI1, z_up_n (by decide)]); have g2 : I302 17 n = I 17 n := (by rw [fI302 17 n (z_wr_c (by decide)), eI292, z_up_n (by decide), eI285, z_up_n (by decide), fI279 17 n (z_wr_c (by decide)), fI70 17 n (z_wr_c (by decide)), eI62, z_up_n (by decide), eI22, z_up_n (by decide), eI15, z_up_n (by decide), eI8, z_up_k q9, eI1, z_up_n (by decide)]); rw [g1, g2]; exact hEx n))), f303, (by show ¬ (I302 0 42).toInt = 0 ∨ 1010 * (500 - (I302 0 35).toInt) + 1000 * (I302 0 15).toInt ≤ 1010 * (500 - (I 0 35).toInt) + 1000 * (I 0 15).toInt + 20; omega)⟩
      · have g315 := z_f_nge rfl z_l2 c84
        refine lv_aload_n hx hb dX12_statement_77 rfl (lv_at hl 1 rfl) ?_
        refine z_get (T := TX12) (N := 96) (ci := 12) (i := 0) (v := .ref (ad 17)) hx hb hts zj_X12_statement_X12 hown hK hW rfl rfl 22 (by decide) (hts (.fieldLink RX12 58 "PetrolBoardModel" "stEx" "[I") (me_s (me_l (me_l (List.mem_of_getElem? (i := 1) rfl))))) (fun _ h => h) rfl dX12_statement_78 ?_
        refine lv_iload_n hx hb dX12_statement_81 rfl (lv_at hl 2 rfl) ?_
        refine lv_aload_n hx hb dX12_statement_82 rfl (lv_at hl 1 rfl) ?_
        refine lv_iconst (v := 0) hx hb dX12_statement_83 (by decide) ?_
        refine z_ci hW hS hA (va_runV (As := [.int 0]) (rest := [.int a1, .ref (ad 17)]) ⟨hx, hb, hml, hown, hts⟩ (sx_X12_parse l G ad I70 J72 ⟨(by show 0 ≤ (I70 0 31).toInt ∧ (I70 0 31).toInt ≤ 500; exact hI70mp.1), (by show 0 ≤ (I70 0 33).toInt ∧ (I70 0 33).toInt ≤ 500; exact hI70mp.2.1), (by show 0 ≤ (I70 0 34).toInt ∧ (I70 0 34).toInt ≤ 500; exact hI70mp.2.2.1), (by show 0 ≤ (I70 0 35).toInt ∧ (I70 0 35).toInt ≤ 500; exact hI70mp.2.2.2)⟩ ⟨(by show 0 ≤ (I70 0 36).toInt ∧ (I70 0 36).toInt ≤ 4; exact hI70mt.1), (by show 0 ≤ (I70 0 42).toInt ∧ (I70 0 42).toInt ≤ 1; exact hI70mt.2)⟩ ⟨(by show 0 ≤ (I70 0 47).toInt ∧ (I70 0 47).toInt ≤ 119; exact k73), (by show 0 ≤ (I70 0 39).toInt ∧ (I70 0 39).toInt ≤ 100; exact k74)⟩ (by show 0 ≤ (I70 0 40).toInt ∧ (I70 0 40).toInt ≤ 6199; exact k75) (by show 0 ≤ (I70 0 15).toInt ∧ (I70 0 15).toInt ≤ 6100; exact k76) (z_Nd_fr a64 fI70 (by decide)) (by show 0 ≤ (I70 0 35).toInt ∧ (I70 0 35).toInt ≤ (I70 0 34).toInt ∧ (I70 0 34).toInt ≤ (I70 0 33).toInt ∧ (I70 0 33).toInt ≤ 500 ∧ ((I70 0 36).toInt = 0 ∨ (I70 0 35).toInt + 1 ≤ (I70 0 34).toInt); first | omega | decide) 0 (by have := z_l0; first | omega | decide) (by show 1010 * (500 - (I70 0 35).toInt) + 1000 * (I70 0 15).toInt + 10 ≤ 6100000; omega) _) (cwV 1 hts gX12_statement_X12_parse rfl rfl rfl hy_X12_parse ⟨Nat.le_of_ble_eq_true rfl, Nat.le_of_ble_eq_true rfl⟩) (z_preV (i := 0) hK hW rfl rfl) rfl rfl hl.1 rfl (lv_room (Nat.le_of_ble_eq_true rfl)) dX12_statement_84 ⟨Nat.le_of_ble_eq_true rfl, Nat.le_of_ble_eq_true rfl⟩) (fun r u1 H locs hp hW hS => ?_)
        obtain ⟨I316, J318, e9, hI316mp, hI316mt, hI316md, hI316mg, hI316mn, hI316Nd, hI316rp, fI316, hp⟩ := hp
        rw [e9] at hW
        have f317 := z_fr_sub (L := L_X12_statement) f71 fI316 (by decide)
        have k319 : 0 ≤ (I316 0 35).toInt ∧ (I316 0 35).toInt ≤ (I316 0 34).toInt ∧ (I316 0 34).toInt ≤ (I316 0 33).toInt ∧ (I316 0 33).toInt ≤ 500 ∧ ((I316 0 36).toInt = 0 ∨ (I316 0 35).toInt + 1 ≤ (I316 0 34).toInt) := hI316rp
        refine lv_topi (fun x320 ex320 => ?_)
        rw [← ex320] at hp
        have h321 := hp
        refine z_iast (i := 17) hx hb hK hW hS rfl (z_ix rfl (by omega) (by omega)) dX12_statement_87 (fun H locs hz1 hW hS => ?_)
        obtain ⟨I322, eI322⟩ : ∃ K : z_I, K = z_up I316 17 a1.toNatClampNeg x320 := ⟨_, rfl⟩
        rw [← eI322] at hW
        have f323 := z_fr_a f317 (show z_wa L_X12_statement 17 = true by decide) eI322
        have a324 := z_Nd_n hI316Nd (by decide) eI322
        have a325 := z_rg_n (z_rg_fr (z_rg_fr a65 fI70 (by decide)) fI316 (by decide)) (by decide) eI322
        have a326 := z_rg_n (z_rg_fr (z_rg_fr a66 fI70 (by decide)) fI316 (by decide)) (by decide) eI322
        have a327 := z_rg_n (z_rg_fr (z_rg_fr a67 fI70 (by decide)) fI316 (by decide)) (by decide) eI322
        refine lv_aload_n hx hb dX12_statement_88 rfl (lv_at hl 1 rfl) ?_
        have r328 : 0 ≤ (I316 0 42).toInt ∧ (I316 0 42).toInt ≤ 1 := hI316mt.2
        refine z_get (T := TX12) (N := 96) (ci := 12) (i := 0) (v := .int (I316 0 42)) hx hb hts zj_X12_statement_X12 hown hK hW rfl rfl 42 (by decide) (hts (.fieldLink RX12 294 "PetrolBoardModel" "isWrong" "Z") (me_s (me_l (me_l (List.mem_of_getElem? (i := 8) rfl))))) (fun _ h => h) (congrArg Value.int (by rw [eI322, z_up_n (by decide)])) dX12_statement_89 ?_
        refine lv_if_ne (tgt := 183) hx hb dX12_statement_92 (by decide) (fun c329 => ?_) (fun c329 => ?_)
        · have g330 := z_f_ne rfl z_l0 c329
          refine lv_aload_n hx hb dX12_statement_183 rfl (lv_at hl 1 rfl) ?_
          refine z_get (T := TX12) (N := 96) (ci := 12) (i := 0) (v := .ref (ad 20)) hx hb hts zj_X12_statement_X12 hown hK hW rfl rfl 25 (by decide) (hts (.fieldLink RX12 67 "PetrolBoardModel" "stTo" "[I") (me_s (me_l (me_l (List.mem_of_getElem? (i := 11) rfl))))) (fun _ h => h) rfl dX12_statement_184 ?_
          refine lv_iload_n hx hb dX12_statement_187 rfl (lv_at hl 2 rfl) ?_
          refine lv_aload_n hx hb dX12_statement_188 rfl (lv_at hl 1 rfl) ?_
          have r331 : 0 ≤ (I316 0 15).toInt ∧ (I316 0 15).toInt ≤ 6100 := hI316mn
          refine z_get (T := TX12) (N := 96) (ci := 12) (i := 0) (v := .int (I316 0 15)) hx hb hts zj_X12_statement_X12 hown hK hW rfl rfl 15 (by decide) (hts (.fieldLink RX12 337 "PetrolBoardModel" "nodes" "I") (me_s (me_l (me_l (List.mem_of_getElem? (i := 4) rfl))))) (fun _ h => h) (congrArg Value.int (by rw [eI322, z_up_n (by decide)])) dX12_statement_189 ?_
          refine z_iast (i := 20) hx hb hK hW hS rfl (z_ix rfl (by omega) (by omega)) dX12_statement_192 (fun H locs hz1 hW hS => ?_)
          obtain ⟨I332, eI332⟩ : ∃ K : z_I, K = z_up I322 20 a1.toNatClampNeg (I316 0 15) := ⟨_, rfl⟩
          rw [← eI332] at hW
          have f333 := z_fr_a f323 (show z_wa L_X12_statement 20 = true by decide) eI332
          have a334 := z_Nd_n a324 (by decide) eI332
          have a335 := z_rg_n a325 (by decide) eI332
          have a336 := z_rg_a a326 (by omega) eI332
          have a337 := z_rg_n a327 (by decide) eI332
          refine lv_aload_n hx hb dX12_statement_193 rfl (lv_at hl 1 rfl) ?_
          refine z_get (T := TX12) (N := 96) (ci := 12) (i := 0) (v := .int (I316 0 42)) hx hb hts zj_X12_statement_X12 hown hK hW rfl rfl 42 (by decide) (hts (.fieldLink RX12 294 "PetrolBoardModel" "isWrong" "Z") (me_s (me_l (me_l (List.mem_of_getElem? (i := 8) rfl))))) (fun _ h => h) (congrArg Value.int (by rw [eI332, z_up_n (by decide), eI322, z_up_n (by decide)])) dX12_statement_194 ?_
          refine lv_if_ne (tgt := 206) hx hb dX12_statement_197 (by decide) (fun c338 => ?_) (fun c338 => (by have g := z_f_eq rfl z_l0 c338; omega))
          have g339 := z_f_ne rfl z_l0 c338
          exact z_vret hx hb hr hK hS (Nat.le_of_ble_eq_true rfl) (Nat.le_of_ble_eq_true rfl) hlocks dX12_statement_206 (shM, ad, I332, J318, PM ad) hW ⟨I332, J318, rfl, ⟨(by show 0 ≤ (I332 0 31).toInt ∧ (I332 0 31).toInt ≤ 500; rw [eI332, z_up_n (by decide), eI322, z_up_n (by decide)]; exact hI316mp.1), (by show 0 ≤ (I332 0 33).toInt ∧ (I332 0 33).toInt ≤ 500; rw [eI332, z_up_n (by decide), eI322, z_up_n (by decide)]; exact hI316mp.2.1), (by show 0 ≤ (I332 0 34).toInt ∧ (I332 0 34).toInt ≤ 500; rw [eI332, z_up_n (by decide), eI322, z_up_n (by decide)]; exact hI316mp.2.2.1), (by show 0 ≤ (I332 0 35).toInt ∧ (I332 0 35).toInt ≤ 500; rw [eI332, z_up_n (by decide), eI322, z_up_n (by decide)]; exact hI316mp.2.2.2)⟩, ⟨(by show 0 ≤ (I332 0 36).toInt ∧ (I332 0 36).toInt ≤ 4; rw [eI332, z_up_n (by decide), eI322, z_up_n (by decide)]; exact hI316mt.1), (by show 0 ≤ (I332 0 42).toInt ∧ (I332 0 42).toInt ≤ 1; rw [eI332, z_up_n (by decide), eI322, z_up_n (by decide)]; exact hI316mt.2)⟩, ⟨(by show 0 ≤ (I332 0 47).toInt ∧ (I332 0 47).toInt ≤ 119; rw [eI332, z_up_n (by decide), eI322, z_up_n (by decide)]; exact hI316md.1), (by show 0 ≤ (I332 0 39).toInt ∧ (I332 0 39).toInt ≤ 100; rw [eI332, z_up_n (by decide), eI322, z_up_n (by decide)]; exact hI316md.2)⟩, (by show 0 ≤ (I332 0 40).toInt ∧ (I332 0 40).toInt ≤ 6199; rw [eI332, z_up_n (by decide), eI322, z_up_n (by decide)]; exact hI316mg), (by show 0 ≤ (I332 0 15).toInt ∧ (I332 0 15).toInt ≤ 6100; rw [eI332, z_up_n (by decide), eI322, z_up_n (by decide)]; exact hI316mn), a334, (by have q0 : (I332 0 35) = (I316 0 35) := (by rw [eI332, z_up_n (by decide), eI322, z_up_n (by decide)]); have q1 : (I332 0 34) = (I316 0 34) := (by rw [eI332, z_up_n (by decide), eI322, z_up_n (by decide)]); have q2 : (I332 0 33) = (I316 0 33) := (by rw [eI332, z_up_n (by decide), eI322, z_up_n (by decide)]); have q3 : (I332 0 36) = (I316 0 36) := (by rw [eI332, z_up_n (by decide), eI322, z_up_n (by decide)]); show 0 ≤ (I332 0 35).toInt ∧ (I332 0 35).toInt ≤ (I332 0 34).toInt ∧ (I332 0 34).toInt ≤ (I332 0 33).toInt ∧ (I332 0 33).toInt ≤ 500 ∧ ((I332 0 36).toInt = 0 ∨ (I332 0 35).toInt + 1 ≤ (I332 0 34).toInt); rw [q0, q1, q2, q3]; first | omega | decide), a335, a336, a337, (fun n => by by_cases q9 : n = a1.toNatClampNeg; (· (subst q9; rw [show I332 15 a1.toNatClampNeg = x60 from (by rw [eI332, z_up_n (by decide), eI322, z_up_n (by decide), fI316 15 a1.toNatClampNeg (z_wr_c (by decide)), fI70 15 a1.toNatClampNeg (z_wr_c (by decide)), eI62, z_up_s]), show I332 17 a1.toNatClampNeg = x320 from (by rw [eI332, z_up_n (by decide), eI322, z_up_s])]; omega)); (· (have g1 : I332 15 n = I 15 n := (by rw [eI332, z_up_n (by decide), eI322, z_up_n (by decide), fI316 15 n (z_wr_c (by decide)), fI70 15 n (z_wr_c (by decide)), eI62, z_up_k q9, eI22, z_up_n (by decide), eI15, z_up_n (by decide), eI8, z_up_n (by decide), eI1, z_up_n (by decide)]); have g2 : I332 17 n = I 17 n := (by rw [eI332, z_up_n (by decide), eI322, z_up_k q9, fI316 17 n (z_wr_c (by decide)), fI70 17 n (z_wr_c (by decide)), eI62, z_up_n (by decide), eI22, z_up_n (by decide), eI15, z_up_n (by decide), eI8, z_up_k q9, eI1, z_up_n (by decide)]); rw [g1, g2]; exact hEx n))), f333, (by have q0 : (I332 0 42) = (I316 0 42) := (by rw [eI332, z_up_n (by decide), eI322, z_up_n (by decide)]); have q1 : (I332 0 35) = (I316 0 35) := (by rw [eI332, z_up_n (by decide), eI322, z_up_n (by decide)]); have q2 : (I332 0 15) = (I316 0 15) := (by rw [eI332, z_up_n (by decide), eI322, z_up_n (by decide)]); show ¬ (I332 0 42).toInt = 0 ∨ 1010 * (500 - (I332 0 35).toInt) + 1000 * (I332 0 15).toInt ≤ 1010 * (500 - (I 0 35).toInt) + 1000 * (I 0 15).toInt + 20; rw [q0, q1, q2]; omega)⟩
        · have g340 := z_f_eq rfl z_l0 c329
          refine lv_aload_n hx hb dX12_statement_95 rfl (lv_at hl 1 rfl) ?_
          refine lv_ldc2 (v := 249) hx hb hown (hts (.constantLong RX12 403 (249)) (me_s (me_l (me_l (List.mem_of_getElem? (i := 9) rfl))))) dX12_statement_96 ?_
          refine z_ci hW hS hA (va_runV (As := [.long 249]) (rest := []) ⟨hx, hb, hml, hown, hts⟩ (sx_X12_isWord l G ad I322 J318 ⟨(by show 0 ≤ (I322 0 36).toInt ∧ (I322 0 36).toInt ≤ 4; rw [eI322, z_up_n (by decide)]; exact hI316mt.1), (by show 0 ≤ (I322 0 42).toInt ∧ (I322 0 42).toInt ≤ 1; rw [eI322, z_up_n (by decide)]; exact hI316mt.2)⟩ 249 _) (cwV 1 hts gX12_statement_X12_isWord rfl rfl rfl hy_X12_isWord ⟨Nat.le_of_ble_eq_true rfl, Nat.le_of_ble_eq_true rfl⟩) (z_preV (i := 0) hK hW rfl rfl) rfl rfl hl.1 rfl (lv_room (Nat.le_of_ble_eq_true rfl)) dX12_statement_99 ⟨Nat.le_of_ble_eq_true rfl, Nat.le_of_ble_eq_true rfl⟩) (fun r u1 H locs hp hW hS => ?_)
          obtain ⟨e9, hp⟩ := hp
          rw [e9] at hW
          rcases hp with ⟨rfl, h341⟩ | rfl
          · rw [show (I322 0 36) = (I316 0 36) from by rw [eI322, z_up_n (by decide)]] at h341
            have h342 : (I316 0 35).toInt + 1 ≤ (I316 0 34).toInt := by omega
            refine lv_if_eq (tgt := 183) hx hb dX12_statement_102 (by decide) (fun c343 => absurd c343 (by decide)) (fun c343 => ?_)
            refine lv_aload_n hx hb dX12_statement_105 rfl (lv_at hl 1 rfl) ?_
            refine z_cv hW hS hA (va_runV (As := []) (rest := []) ⟨hx, hb, hml, hown, hts⟩ (sx_X12_next l G ad I322 J318 ⟨(by show 0 ≤ (I322 0 31).toInt ∧ (I322 0 31).toInt ≤ 500; rw [eI322, z_up_n (by decide)]; exact hI316mp.1), (by show 0 ≤ (I322 0 33).toInt ∧ (I322 0 33).toInt ≤ 500; rw [eI322, z_up_n (by decide)]; exact hI316mp.2.1), (by show 0 ≤ (I322 0 34).toInt ∧ (I322 0 34).toInt ≤ 500; rw [eI322, z_up_n (by decide)]; exact hI316mp.2.2.1), (by show 0 ≤ (I322 0 35).toInt ∧ (I322 0 35).toInt ≤ 500; rw [eI322, z_up_n (by decide)]; exact hI316mp.2.2.2)⟩ ⟨(by show 0 ≤ (I322 0 36).toInt ∧ (I322 0 36).toInt ≤ 4; rw [eI322, z_up_n (by decide)]; exact hI316mt.1), (by show 0 ≤ (I322 0 42).toInt ∧ (I322 0 42).toInt ≤ 1; rw [eI322, z_up_n (by decide)]; exact hI316mt.2)⟩ (by have q0 : (I322 0 34) = (I316 0 34) := (by rw [eI322, z_up_n (by decide)]); have q1 : (I322 0 33) = (I316 0 33) := (by rw [eI322, z_up_n (by decide)]); show 0 ≤ (I322 0 34).toInt ∧ (I322 0 34).toInt ≤ (I322 0 33).toInt ∧ (I322 0 33).toInt ≤ 500; rw [q0, q1]; first | omega | decide)  _) (cwV 0 hts gX12_statement_X12_next rfl rfl rfl hy_X12_next ⟨Nat.le_of_ble_eq_true rfl, Nat.le_of_ble_eq_true rfl⟩) (z_preV (i := 0) hK hW rfl rfl) rfl rfl hl.1 rfl (lv_room (Nat.le_of_ble_eq_true rfl)) dX12_statement_106 ⟨Nat.le_of_ble_eq_true rfl, Nat.le_of_ble_eq_true rfl⟩) (fun u1 H locs hp hW hS => ?_)
            obtain ⟨I344, J346, e9, hI344mp, hI344mt, hI344rp, fI344, hp⟩ := hp
            rw [e9] at hW
            have f345 := z_fr_sub (L := L_X12_statement) f323 fI344 (by decide)
            have k347 : (I344 0 42).toInt = (I316 0 42).toInt := by rw [fI344 0 42 (by decide), eI322, z_up_n (by decide)]
            have k348 : 0 ≤ (I344 0 47).toInt ∧ (I344 0 47).toInt ≤ 119 := by rw [fI344 0 47 (by decide)]; exact (by show 0 ≤ (I322 0 47).toInt ∧ (I322 0 47).toInt ≤ 119; rw [eI322, z_up_n (by decide)]; exact hI316md.1)
            have k349 : 0 ≤ (I344 0 39).toInt ∧ (I344 0 39).toInt ≤ 100 := by rw [fI344 0 39 (by decide)]; exact (by show 0 ≤ (I322 0 39).toInt ∧ (I322 0 39).toInt ≤ 100; rw [eI322, z_up_n (by decide)]; exact hI316md.2)
            have k350 : 0 ≤ (I344 0 40).toInt ∧ (I344 0 40).toInt ≤ 6199 := by rw [fI344 0 40 (by decide)]; exact (by show 0 ≤ (I322 0 40).toInt ∧ (I322 0 40).toInt ≤ 6199; rw [eI322, z_up_n (by decide)]; exact hI316mg)
            have k351 : 0 ≤ (I344 0 15).toInt ∧ (I344 0 15).toInt ≤ 6100 := by rw [fI344 0 15 (by decide)]; exact (by show 0 ≤ (I322 0 15).toInt ∧ (I322 0 15).toInt ≤ 6100; rw [eI322, z_up_n (by decide)]; exact hI316mn)
            have k352 : 0 ≤ (I344 0 35).toInt ∧ (I344 0 35).toInt ≤ (I344 0 34).toInt ∧ (I344 0 34).toInt ≤ (I344 0 33).toInt ∧ (I344 0 33).toInt ≤ 500 ∧ ((I344 0 36).toInt = 0 ∨ (I344 0 35).toInt + 1 ≤ (I344 0 34).toInt) := hI344rp
            have k353 : (I344 0 42).toInt = (I316 0 42).toInt := by rw [fI344 0 42 (by decide), eI322, z_up_n (by decide)]
            have k354 : (I344 0 47).toInt = (I316 0 47).toInt := by rw [fI344 0 47 (by decide), eI322, z_up_n (by decide)]
            have k355 : (I344 0 39).toInt = (I316 0 39).toInt := by rw [fI344 0 39 (by decide), eI322, z_up_n (by decide)]
            have k356 : (I344 0 15).toInt = (I316 0 15).toInt := by rw [fI344 0 15 (by decide), eI322, z_up_n (by decide)]
            have k357 : (I344 0 40).toInt = (I316 0 40).toInt := by rw [fI344 0 40 (by decide), eI322, z_up_n (by decide)]
            have h358 := hp
            rw [show (I322 0 34) = (I316 0 34) from by rw [eI322, z_up_n (by decide)]] at h358
            refine lv_aload_n hx hb dX12_statement_109 rfl (lv_at hl 1 rfl) ?_
            refine z_get (T := TX12) (N := 96) (ci := 12) (i := 0) (v := .ref (ad 18)) hx hb hts zj_X12_statement_X12 hown hK hW rfl rfl 23 (by decide) (hts (.fieldLink RX12 61 "PetrolBoardModel" "stCond" "[I") (me_s (me_l (me_l (List.mem_of_getElem? (i := 2) rfl))))) (fun _ h => h) rfl dX12_statement_110 ?_
            refine lv_iload_n hx hb dX12_statement_113 rfl (lv_at hl 2 rfl) ?_
            refine lv_aload_n hx hb dX12_statement_114 rfl (lv_at hl 1 rfl) ?_
            refine lv_iconst (v := 3) hx hb dX12_statement_115 (by decide) ?_
            refine z_ci hW hS hA (va_runV (As := [.int 3]) (rest := [.int a1, .ref (ad 18)]) ⟨hx, hb, hml, hown, hts⟩ (sx_X12_parse l G ad I344 J346 ⟨(by show 0 ≤ (I344 0 31).toInt ∧ (I344 0 31).toInt ≤ 500; exact hI344mp.1), (by show 0 ≤ (I344 0 33).toInt ∧ (I344 0 33).toInt ≤ 500; exact hI344mp.2.1), (by show 0 ≤ (I344 0 34).toInt ∧ (I344 0 34).toInt ≤ 500; exact hI344mp.2.2.1), (by show 0 ≤ (I344 0 35).toInt ∧ (I344 0 35).toInt ≤ 500; exact hI344mp.2.2.2)⟩ ⟨(by show 0 ≤ (I344 0 36).toInt ∧ (I344 0 36).toInt ≤ 4; exact hI344mt.1), (by show 0 ≤ (I344 0 42).toInt ∧ (I344 0 42).toInt ≤ 1; exact hI344mt.2)⟩ ⟨(by show 0 ≤ (I344 0 47).toInt ∧ (I344 0 47).toInt ≤ 119; exact k348), (by show 0 ≤ (I344 0 39).toInt ∧ (I344 0 39).toInt ≤ 100; exact k349)⟩ (by show 0 ≤ (I344 0 40).toInt ∧ (I344 0 40).toInt ≤ 6199; exact k350) (by show 0 ≤ (I344 0 15).toInt ∧ (I344 0 15).toInt ≤ 6100; exact k351) (z_Nd_fr a324 fI344 (by decide)) (by show 0 ≤ (I344 0 35).toInt ∧ (I344 0 35).toInt ≤ (I344 0 34).toInt ∧ (I344 0 34).toInt ≤ (I344 0 33).toInt ∧ (I344 0 33).toInt ≤ 500 ∧ ((I344 0 36).toInt = 0 ∨ (I344 0 35).toInt + 1 ≤ (I344 0 34).toInt); first | omega | decide) 3 (by have := z_l3; first | omega | decide) (by show 1010 * (500 - (I344 0 35).toInt) + 1000 * (I344 0 15).toInt + 10 ≤ 6100000; omega) _) (cwV 1 hts gX12_statement_X12_parse rfl rfl rfl hy_X12_parse ⟨Nat.le_of_ble_eq_true rfl, Nat.le_of_ble_eq_true rfl⟩) (z_preV (i := 0) hK hW rfl rfl) rfl rfl hl.1 rfl (lv_room (Nat.le_of_ble_eq_true rfl)) dX12_statement_116 ⟨Nat.le_of_ble_eq_true rfl, Nat.le_of_ble_eq_true rfl⟩) (fun r u1 H locs hp hW hS => ?_)
            obtain ⟨I359, J361, e9, hI359mp, hI359mt, hI359md, hI359mg, hI359mn, hI359Nd, hI359rp, fI359, hp⟩ := hp
            rw [e9] at hW
            have f360 := z_fr_sub (L := L_X12_statement) f345 fI359 (by decide)
            have k362 : 0 ≤ (I359 0 35).toInt ∧ (I359 0 35).toInt ≤ (I359 0 34).toInt ∧ (I359 0 34).toInt ≤ (I359 0 33).toInt ∧ (I359 0 33).toInt ≤ 500 ∧ ((I359 0 36).toInt = 0 ∨ (I359 0 35).toInt + 1 ≤ (I359 0 34).toInt) := hI359rp
            refine lv_topi (fun x363 ex363 => ?_)
            rw [← ex363] at hp
            have h364 := hp
            refine z_iast (i := 18) hx hb hK hW hS rfl (z_ix rfl (by omega) (by omega)) dX12_statement_119 (fun H locs hz1 hW hS => ?_)
            obtain ⟨I365, eI365⟩ : ∃ K : z_I, K = z_up I359 18 a1.toNatClampNeg x363 := ⟨_, rfl⟩
            rw [← eI365] at hW
            have f366 := z_fr_a f360 (show z_wa L_X12_statement 18 = true by decide) eI365
            have a367 := z_Nd_n hI359Nd (by decide) eI365
            have a368 := z_rg_n (z_rg_fr (z_rg_fr a325 fI344 (by decide)) fI359 (by decide)) (by decide) eI365
            have a369 := z_rg_n (z_rg_fr (z_rg_fr a326 fI344 (by decide)) fI359 (by decide)) (by decide) eI365
            have a370 := z_rg_a (z_rg_fr (z_rg_fr a327 fI344 (by decide)) fI359 (by decide)) (by omega) eI365
            refine lv_goto (tgt := 183) hx hb dX12_statement_120 (by decide) ?_
            refine lv_aload_n hx hb dX12_statement_183 rfl (lv_at hl 1 rfl) ?_
            refine z_get (T := TX12) (N := 96) (ci := 12) (i := 0) (v := .ref (ad 20)) hx hb hts zj_X12_statement_X12 hown hK hW rfl rfl 25 (by decide) (hts (.fieldLink RX12 67 "PetrolBoardModel" "stTo" "[I") (me_s (me_l (me_l (List.mem_of_getElem? (i := 11) rfl))))) (fun _ h => h) rfl dX12_statement_184 ?_
            refine lv_iload_n hx hb dX12_statement_187 rfl (lv_at hl 2 rfl) ?_
            refine lv_aload_n hx hb dX12_statement_188 rfl (lv_at hl 1 rfl) ?_
            have r371 : 0 ≤ (I359 0 15).toInt ∧ (I359 0 15).toInt ≤ 6100 := hI359mn
            refine z_get (T := TX12) (N := 96) (ci := 12) (i := 0) (v := .int (I359 0 15)) hx hb hts zj_X12_statement_X12 hown hK hW rfl rfl 15 (by decide) (hts (.fieldLink RX12 337 "PetrolBoardModel" "nodes" "I") (me_s (me_l (me_l (List.mem_of_getElem? (i := 4) rfl))))) (fun _ h => h) (congrArg Value.int (by rw [eI365, z_up_n (by decide)])) dX12_statement_189 ?_
            refine z_iast (i := 20) hx hb hK hW hS rfl (z_ix rfl (by omega) (by omega)) dX12_statement_192 (fun H locs hz1 hW hS => ?_)
            obtain ⟨I372, eI372⟩ : ∃ K : z_I, K = z_up I365 20 a1.toNatClampNeg (I359 0 15) := ⟨_, rfl⟩
            rw [← eI372] at hW
            have f373 := z_fr_a f366 (show z_wa L_X12_statement 20 = true by decide) eI372
            have a374 := z_Nd_n a367 (by decide) eI372
            have a375 := z_rg_n a368 (by decide) eI372
            have a376 := z_rg_a a369 (by omega) eI372
            have a377 := z_rg_n a370 (by decide) eI372
            refine lv_aload_n hx hb dX12_statement_193 rfl (lv_at hl 1 rfl) ?_
            have r378 : 0 ≤ (I359 0 42).toInt ∧ (I359 0 42).toInt ≤ 1 := hI359mt.2
            refine z_get (T := TX12) (N := 96) (ci := 12) (i := 0) (v := .int (I359 0 42)) hx hb hts zj_X12_statement_X12 hown hK hW rfl rfl 42 (by decide) (hts (.fieldLink RX12 294 "PetrolBoardModel" "isWrong" "Z") (me_s (me_l (me_l (List.mem_of_getElem? (i := 8) rfl))))) (fun _ h => h) (congrArg Value.int (by rw [eI372, z_up_n (by decide), eI365, z_up_n (by decide)])) dX12_statement_194 ?_
            refine lv_if_ne (tgt := 206) hx hb dX12_statement_197 (by decide) (fun c379 => ?_) (fun c379 => ?_)
            · have g380 := z_f_ne rfl z_l0 c379
              exact z_vret hx hb hr hK hS (Nat.le_of_ble_eq_true rfl) (Nat.le_of_ble_eq_true rfl) hlocks dX12_statement_206 (shM, ad, I372, J361, PM ad) hW ⟨I372, J361, rfl, ⟨(by show 0 ≤ (I372 0 31).toInt ∧ (I372 0 31).toInt ≤ 500; rw [eI372, z_up_n (by decide), eI365, z_up_n (by decide)]; exact hI359mp.1), (by show 0 ≤ (I372 0 33).toInt ∧ (I372 0 33).toInt ≤ 500; rw [eI372, z_up_n (by decide), eI365, z_up_n (by decide)]; exact hI359mp.2.1), (by show 0 ≤ (I372 0 34).toInt ∧ (I372 0 34).toInt ≤ 500; rw [eI372, z_up_n (by decide), eI365, z_up_n (by decide)]; exact hI359mp.2.2.1), (by show 0 ≤ (I372 0 35).toInt ∧ (I372 0 35).toInt ≤ 500; rw [eI372, z_up_n (by decide), eI365, z_up_n (by decide)]; exact hI359mp.2.2.2)⟩, ⟨(by show 0 ≤ (I372 0 36).toInt ∧ (I372 0 36).toInt ≤ 4; rw [eI372, z_up_n (by decide), eI365, z_up_n (by decide)]; exact hI359mt.1), (by show 0 ≤ (I372 0 42).toInt ∧ (I372 0 42).toInt ≤ 1; rw [eI372, z_up_n (by decide), eI365, z_up_n (by decide)]; exact hI359mt.2)⟩, ⟨(by show 0 ≤ (I372 0 47).toInt ∧ (I372 0 47).toInt ≤ 119; rw [eI372, z_up_n (by decide), eI365, z_up_n (by decide)]; exact hI359md.1), (by show 0 ≤ (I372 0 39).toInt ∧ (I372 0 39).toInt ≤ 100; rw [eI372, z_up_n (by decide), eI365, z_up_n (by decide)]; exact hI359md.2)⟩, (by show 0 ≤ (I372 0 40).toInt ∧ (I372 0 40).toInt ≤ 6199; rw [eI372, z_up_n (by decide), eI365, z_up_n (by decide)]; exact hI359mg), (by show 0 ≤ (I372 0 15).toInt ∧ (I372 0 15).toInt ≤ 6100; rw [eI372, z_up_n (by decide), eI365, z_up_n (by decide)]; exact hI359mn), a374, (by have q0 : (I372 0 35) = (I359 0 35) := (by rw [eI372, z_up_n (by decide), eI365, z_up_n (by decide)]); have q1 : (I372 0 34) = (I359 0 34) := (by rw [eI372, z_up_n (by decide), eI365, z_up_n (by decide)]); have q2 : (I372 0 33) = (I359 0 33) := (by rw [eI372, z_up_n (by decide), eI365, z_up_n (by decide)]); have q3 : (I372 0 36) = (I359 0 36) := (by rw [eI372, z_up_n (by decide), eI365, z_up_n (by decide)]); show 0 ≤ (I372 0 35).toInt ∧ (I372 0 35).toInt ≤ (I372 0 34).toInt ∧ (I372 0 34).toInt ≤ (I372 0 33).toInt ∧ (I372 0 33).toInt ≤ 500 ∧ ((I372 0 36).toInt = 0 ∨ (I372 0 35).toInt + 1 ≤ (I372 0 34).toInt); rw [q0, q1, q2, q3]; first | omega | decide), a375, a376, a377, (fun n => by by_cases q9 : n = a1.toNatClampNeg; (· (subst q9; rw [show I372 15 a1.toNatClampNeg = x60 from (by rw [eI372, z_up_n (by decide), eI365, z_up_n (by decide), fI359 15 a1.toNatClampNeg (z_wr_c (by decide)), fI344 15 a1.toNatClampNeg (z_wr_c (by decide)), eI322, z_up_n (by decide), fI316 15 a1.toNatClampNeg (z_wr_c (by decide)), fI70 15 a1.toNatClampNeg (z_wr_c (by decide)), eI62, z_up_s]), show I372 17 a1.toNatClampNeg = x320 from (by rw [eI372, z_up_n (by decide), eI365, z_up_n (by decide), fI359 17 a1.toNatClampNeg (z_wr_c (by decide)), fI344 17 a1.toNatClampNeg (z_wr_c (by decide)), eI322, z_up_s])]; omega)); (· (have g1 : I372 15 n = I 15 n := (by rw [eI372, z_up_n (by decide), eI365, z_up_n (by decide), fI359 15 n (z_wr_c (by decide)), fI344 15 n (z_wr_c (by decide)), eI322, z_up_n (by decide), fI316 15 n (z_wr_c (by decide)), fI70 15 n (z_wr_c (by decide)), eI62, z_up_k q9, eI22, z_up_n (by decide), eI15, z_up_n (by decide), eI8, z_up_n (by decide), eI1, z_up_n (by decide)]); have g2 : I372 17 n = I 17 n := (by rw [eI372, z_up_n (by decide), eI365, z_up_n (by decide), fI359 17 n (z_wr_c (by decide)), fI344 17 n (z_wr_c (by decide)), eI322, z_up_k q9, fI316 17 n (z_wr_c (by decide)), fI70 17 n (z_wr_c (by decide)), eI62, z_up_n (by decide), eI22, z_up_n (by decide), eI15, z_up_n (by decide), eI8, z_up_k q9, eI1, z_up_n (by decide)]); rw [g1, g2]; exact hEx n))), f373, (by have q0 : (I372 0 42) = (I359 0 42) := (by rw [eI372, z_up_n (by decide), eI365, z_up_n (by decide)]); have q1 : (I372 0 35) = (I359 0 35) := (by rw [eI372, z_up_n (by decide), eI365, z_up_n (by decide)]); have q2 : (I372 0 15) = (I359 0 15) := (by rw [eI372, z_up_n (by decide), eI365, z_up_n (by decide)]); show ¬ (I372 0 42).toInt = 0 ∨ 1010 * (500 - (I372 0 35).toInt) + 1000 * (I372 0 15).toInt ≤ 1010 * (500 - (I 0 35).toInt) + 1000 * (I 0 15).toInt + 20; rw [q0, q1, q2]; omega)⟩
            · have g381 := z_f_eq rfl z_l0 c379
              refine lv_aload_n hx hb dX12_statement_200 rfl (lv_at hl 1 rfl) ?_
              refine lv_bipush (v := 59) hx hb dX12_statement_201 (by decide) ?_
              refine z_cv hW hS hA (va_runV (As := [.int 59]) (rest := []) ⟨hx, hb, hml, hown, hts⟩ (sx_X12_must l G ad I372 J361 ⟨(by show 0 ≤ (I372 0 31).toInt ∧ (I372 0 31).toInt ≤ 500; rw [eI372, z_up_n (by decide), eI365, z_up_n (by decide)]; exact hI359mp.1), (by show 0 ≤ (I372 0 33).toInt ∧ (I372 0 33).toInt ≤ 500; rw [eI372, z_up_n (by decide), eI365, z_up_n (by decide)]; exact hI359mp.2.1), (by show 0 ≤ (I372 0 34).toInt ∧ (I372 0 34).toInt ≤ 500; rw [eI372, z_up_n (by decide), eI365, z_up_n (by decide)]; exact hI359mp.2.2.1), (by show 0 ≤ (I372 0 35).toInt ∧ (I372 0 35).toInt ≤ 500; rw [eI372, z_up_n (by decide), eI365, z_up_n (by decide)]; exact hI359mp.2.2.2)⟩ ⟨(by show 0 ≤ (I372 0 36).toInt ∧ (I372 0 36).toInt ≤ 4; rw [eI372, z_up_n (by decide), eI365, z_up_n (by decide)]; exact hI359mt.1), (by show 0 ≤ (I372 0 42).toInt ∧ (I372 0 42).toInt ≤ 1; rw [eI372, z_up_n (by decide), eI365, z_up_n (by decide)]; exact hI359mt.2)⟩ (by have q0 : (I372 0 35) = (I359 0 35) := (by rw [eI372, z_up_n (by decide), eI365, z_up_n (by decide)]); have q1 : (I372 0 34) = (I359 0 34) := (by rw [eI372, z_up_n (by decide), eI365, z_up_n (by decide)]); have q2 : (I372 0 33) = (I359 0 33) := (by rw [eI372, z_up_n (by decide), eI365, z_up_n (by decide)]); have q3 : (I372 0 36) = (I359 0 36) := (by rw [eI372, z_up_n (by decide), eI365, z_up_n (by decide)]); show 0 ≤ (I372 0 35).toInt ∧ (I372 0 35).toInt ≤ (I372 0 34).toInt ∧ (I372 0 34).toInt ≤ (I372 0 33).toInt ∧ (I372 0 33).toInt ≤ 500 ∧ ((I372 0 36).toInt = 0 ∨ (I372 0 35).toInt + 1 ≤ (I372 0 34).toInt); rw [q0, q1, q2, q3]; first | omega | decide) 59 _) (cwV 1 hts gX12_statement_X12_must rfl rfl rfl hy_X12_must ⟨Nat.le_of_ble_eq_true rfl, Nat.le_of_ble_eq_true rfl⟩) (z_preV (i := 0) hK hW rfl rfl) rfl rfl hl.1 rfl (lv_room (Nat.le_of_ble_eq_true rfl)) dX12_statement_203 ⟨Nat.le_of_ble_eq_true rfl, Nat.le_of_ble_eq_true rfl⟩) (fun u1 H locs hp hW hS => ?_)
              obtain ⟨I382, J384, e9, hI382mp, hI382mt, hI382rp, fI382, hp⟩ := hp
              rw [e9] at hW
              have f383 := z_fr_sub (L := L_X12_statement) f373 fI382 (by decide)
              have k385 : 0 ≤ (I382 0 47).toInt ∧ (I382 0 47).toInt ≤ 119 := by rw [fI382 0 47 (by decide)]; exact (by show 0 ≤ (I372 0 47).toInt ∧ (I372 0 47).toInt ≤ 119; rw [eI372, z_up_n (by decide), eI365, z_up_n (by decide)]; exact hI359md.1)
              have k386 : 0 ≤ (I382 0 39).toInt ∧ (I382 0 39).toInt ≤ 100 := by rw [fI382 0 39 (by decide)]; exact (by show 0 ≤ (I372 0 39).toInt ∧ (I372 0 39).toInt ≤ 100; rw [eI372, z_up_n (by decide), eI365, z_up_n (by decide)]; exact hI359md.2)
              have k387 : 0 ≤ (I382 0 40).toInt ∧ (I382 0 40).toInt ≤ 6199 := by rw [fI382 0 40 (by decide)]; exact (by show 0 ≤ (I372 0 40).toInt ∧ (I372 0 40).toInt ≤ 6199; rw [eI372, z_up_n (by decide), eI365, z_up_n (by decide)]; exact hI359mg)
              have k388 : 0 ≤ (I382 0 15).toInt ∧ (I382 0 15).toInt ≤ 6100 := by rw [fI382 0 15 (by decide)]; exact (by show 0 ≤ (I372 0 15).toInt ∧ (I372 0 15).toInt ≤ 6100; rw [eI372, z_up_n (by decide), eI365, z_up_n (by decide)]; exact hI359mn)
              have k389 : 0 ≤ (I382 0 35).toInt ∧ (I382 0 35).toInt ≤ (I382 0 34).toInt ∧ (I382 0 34).toInt ≤ (I382 0 33).toInt ∧ (I382 0 33).toInt ≤ 500 ∧ ((I382 0 36).toInt = 0 ∨ (I382 0 35).toInt + 1 ≤ (I382 0 34).toInt) := hI382rp
              have k390 : (I382 0 47).toInt = (I359 0 47).toInt := by rw [fI382 0 47 (by decide), eI372, z_up_n (by decide), eI365, z_up_n (by decide)]
              have k391 : (I382 0 39).toInt = (I359 0 39).toInt := by rw [fI382 0 39 (by decide), eI372, z_up_n (by decide), eI365, z_up_n (by decide)]
              have k392 : (I382 0 15).toInt = (I359 0 15).toInt := by rw [fI382 0 15 (by decide), eI372, z_up_n (by decide), eI365, z_up_n (by decide)]
              have k393 : (I382 0 40).toInt = (I359 0 40).toInt := by rw [fI382 0 40 (by decide), eI372, z_up_n (by decide), eI365, z_up_n (by decide)]
              have h394 := hp
              rw [show (I372 0 35) = (I359 0 35) from by rw [eI372, z_up_n (by decide), eI365, z_up_n (by decide)]] at h394
              exact z_vret hx hb hr hK hS (Nat.le_of_ble_eq_true rfl) (Nat.le_of_ble_eq_true rfl) hlocks dX12_statement_206 (shM, ad, I382, J384, PM ad) hW ⟨I382, J384, rfl, ⟨(by show 0 ≤ (I382 0 31).toInt ∧ (I382 0 31).toInt ≤ 500; exact hI382mp.1), (by show 0 ≤ (I382 0 33).toInt ∧ (I382 0 33).toInt ≤ 500; exact hI382mp.2.1), (by show 0 ≤ (I382 0 34).toInt ∧ (I382 0 34).toInt ≤ 500; exact hI382mp.2.2.1), (by show 0 ≤ (I382 0 35).toInt ∧ (I382 0 35).toInt ≤ 500; exact hI382mp.2.2.2)⟩, ⟨(by show 0 ≤ (I382 0 36).toInt ∧ (I382 0 36).toInt ≤ 4; exact hI382mt.1), (by show 0 ≤ (I382 0 42).toInt ∧ (I382 0 42).toInt ≤ 1; exact hI382mt.2)⟩, ⟨(by show 0 ≤ (I382 0 47).toInt ∧ (I382 0 47).toInt ≤ 119; exact k385), (by show 0 ≤ (I382 0 39).toInt ∧ (I382 0 39).toInt ≤ 100; exact k386)⟩, (by show 0 ≤ (I382 0 40).toInt ∧ (I382 0 40).toInt ≤ 6199; exact k387), (by show 0 ≤ (I382 0 15).toInt ∧ (I382 0 15).toInt ≤ 6100; exact k388), (z_Nd_fr a374 fI382 (by decide)), (by show 0 ≤ (I382 0 35).toInt ∧ (I382 0 35).toInt ≤ (I382 0 34).toInt ∧ (I382 0 34).toInt ≤ (I382 0 33).toInt ∧ (I382 0 33).toInt ≤ 500 ∧ ((I382 0 36).toInt = 0 ∨ (I382 0 35).toInt + 1 ≤ (I382 0 34).toInt); first | omega | decide), (z_rg_fr a375 fI382 (by decide)), (z_rg_fr a376 fI382 (by decide)), (z_rg_fr a377 fI382 (by decide)), (fun n => by by_cases q9 : n = a1.toNatClampNeg; (· (subst q9; rw [show I382 15 a1.toNatClampNeg = x60 from (by rw [fI382 15 a1.toNatClampNeg (z_wr_c (by decide)), eI372, z_up_n (by decide), eI365, z_up_n (by decide), fI359 15 a1.toNatClampNeg (z_wr_c (by decide)), fI344 15 a1.toNatClampNeg (z_wr_c (by decide)), eI322, z_up_n (by decide), fI316 15 a1.toNatClampNeg (z_wr_c (by decide)), fI70 15 a1.toNatClampNeg (z_wr_c (by decide)), eI62, z_up_s]), show I382 17 a1.toNatClampNeg = x320 from (by rw [fI382 17 a1.toNatClampNeg (z_wr_c (by decide)), eI372, z_up_n (by decide), eI365, z_up_n (by decide), fI359 17 a1.toNatClampNeg (z_wr_c (by decide)), fI344 17 a1.toNatClampNeg (z_wr_c (by decide)), eI322, z_up_s])]; omega)); (· (have g1 : I382 15 n = I 15 n := (by rw [fI382 15 n (z_wr_c (by decide)), eI372, z_up_n (by decide), eI365, z_up_n (by decide), fI359 15 n (z_wr_c (by decide)), fI344 15 n (z_wr_c (by decide)), eI322, z_up_n (by decide), fI316 15 n (z_wr_c (by decide)), fI70 15 n (z_wr_c (by decide)), eI62, z_up_k q9, eI22, z_up_n (by decide), eI15, z_up_n (by decide), eI8, z_up_n (by decide), eI1, z_up_n (by decide)]); have g2 : I382 17 n = I 17 n := (by rw [fI382 17 n (z_wr_c (by decide)), eI372, z_up_n (by decide), eI365, z_up_n (by decide), fI359 17 n (z_wr_c (by decide)), fI344 17 n (z_wr_c (by decide)), eI322, z_up_k q9, fI316 17 n (z_wr_c (by decide)), fI70 17 n (z_wr_c (by decide)), eI62, z_up_n (by decide), eI22, z_up_n (by decide), eI15, z_up_n (by decide), eI8, z_up_k q9, eI1, z_up_n (by decide)]); rw [g1, g2]; exact hEx n))), f383, (by show ¬ (I382 0 42).toInt = 0 ∨ 1010 * (500 - (I382 0 35).toInt) + 1000 * (I382 0 15).toInt ≤ 1010 * (500 - (I 0 35).toInt) + 1000 * (I 0 15).toInt + 20; omega)⟩
          · refine lv_if_eq (tgt := 183) hx hb dX12_statement_102 (by decide) (fun c395 => ?_) (fun c395 => absurd (by decide) c395)
            refine lv_aload_n hx hb dX12_statement_183 rfl (lv_at hl 1 rfl) ?_
            refine z_get (T := TX12) (N := 96) (ci := 12) (i := 0) (v := .ref (ad 20)) hx hb hts zj_X12_statement_X12 hown hK hW rfl rfl 25 (by decide) (hts (.fieldLink RX12 67 "PetrolBoardModel" "stTo" "[I") (me_s (me_l (me_l (List.mem_of_getElem? (i := 11) rfl))))) (fun _ h => h) rfl dX12_statement_184 ?_
            refine lv_iload_n hx hb dX12_statement_187 rfl (lv_at hl 2 rfl) ?_
            refine lv_aload_n hx hb dX12_statement_188 rfl (lv_at hl 1 rfl) ?_
            have r396 : 0 ≤ (I316 0 15).toInt ∧ (I316 0 15).toInt ≤ 6100 := hI316mn
            refine z_get (T := TX12) (N := 96) (ci := 12) (i := 0) (v := .int (I316 0 15)) hx hb hts zj_X12_statement_X12 hown hK hW rfl rfl 15 (by decide) (hts (.fieldLink RX12 337 "PetrolBoardModel" "nodes" "I") (me_s (me_l (me_l (List.mem_of_getElem? (i := 4) rfl))))) (fun _ h => h) (congrArg Value.int (by rw [eI322, z_up_n (by decide)])) dX12_statement_189 ?_
            refine z_iast (i := 20) hx hb hK hW hS rfl (z_ix rfl (by omega) (by omega)) dX12_statement_192 (fun H locs hz1 hW hS => ?_)
            obtain ⟨I397, eI397⟩ : ∃ K : z_I, K = z_up I322 20 a1.toNatClampNeg (I316 0 15) := ⟨_, rfl⟩
            rw [← eI397] at hW
            have f398 := z_fr_a f323 (show z_wa L_X12_statement 20 = true by decide) eI397
            have a399 := z_Nd_n a324 (by decide) eI397
            have a400 := z_rg_n a325 (by decide) eI397
            have a401 := z_rg_a a326 (by omega) eI397
            have a402 := z_rg_n a327 (by decide) eI397
            refine lv_aload_n hx hb dX12_statement_193 rfl (lv_at hl 1 rfl) ?_
            refine z_get (T := TX12) (N := 96) (ci := 12) (i := 0) (v := .int (I316 0 42)) hx hb hts zj_X12_statement_X12 hown hK hW rfl rfl 42 (by decide) (hts (.fieldLink RX12 294 "PetrolBoardModel" "isWrong" "Z") (me_s (me_l (me_l (List.mem_of_getElem? (i := 8) rfl))))) (fun _ h => h) (congrArg Value.int (by rw [eI397, z_up_n (by decide), eI322, z_up_n (by decide)])) dX12_statement_194 ?_
            refine lv_if_ne (tgt := 206) hx hb dX12_statement_197 (by decide) (fun c403 => (by have g := z_f_ne rfl z_l0 c403; omega)) (fun c403 => ?_)
            have g404 := z_f_eq rfl z_l0 c403
            refine lv_aload_n hx hb dX12_statement_200 rfl (lv_at hl 1 rfl) ?_
            refine lv_bipush (v := 59) hx hb dX12_statement_201 (by decide) ?_
            refine z_cv hW hS hA (va_runV (As := [.int 59]) (rest := []) ⟨hx, hb, hml, hown, hts⟩ (sx_X12_must l G ad I397 J318 ⟨(by show 0 ≤ (I397 0 31).toInt ∧ (I397 0 31).toInt ≤ 500; rw [eI397, z_up_n (by decide), eI322, z_up_n (by decide)]; exact hI316mp.1), (by show 0 ≤ (I397 0 33).toInt ∧ (I397 0 33).toInt ≤ 500; rw [eI397, z_up_n (by decide), eI322, z_up_n (by decide)]; exact hI316mp.2.1), (by show 0 ≤ (I397 0 34).toInt ∧ (I397 0 34).toInt ≤ 500; rw [eI397, z_up_n (by decide), eI322, z_up_n (by decide)]; exact hI316mp.2.2.1), (by show 0 ≤ (I397 0 35).toInt ∧ (I397 0 35).toInt ≤ 500; rw [eI397, z_up_n (by decide), eI322, z_up_n (by decide)]; exact hI316mp.2.2.2)⟩ ⟨(by show 0 ≤ (I397 0 36).toInt ∧ (I397 0 36).toInt ≤ 4; rw [eI397, z_up_n (by decide), eI322, z_up_n (by decide)]; exact hI316mt.1), (by show 0 ≤ (I397 0 42).toInt ∧ (I397 0 42).toInt ≤ 1; rw [eI397, z_up_n (by decide), eI322, z_up_n (by decide)]; exact hI316mt.2)⟩ (by have q0 : (I397 0 35) = (I316 0 35) := (by rw [eI397, z_up_n (by decide), eI322, z_up_n (by decide)]); have q1 : (I397 0 34) = (I316 0 34) := (by rw [eI397, z_up_n (by decide), eI322, z_up_n (by decide)]); have q2 : (I397 0 33) = (I316 0 33) := (by rw [eI397, z_up_n (by decide), eI322, z_up_n (by decide)]); have q3 : (I397 0 36) = (I316 0 36) := (by rw [eI397, z_up_n (by decide), eI322, z_up_n (by decide)]); show 0 ≤ (I397 0 35).toInt ∧ (I397 0 35).toInt ≤ (I397 0 34).toInt ∧ (I397 0 34).toInt ≤ (I397 0 33).toInt ∧ (I397 0 33).toInt ≤ 500 ∧ ((I397 0 36).toInt = 0 ∨ (I397 0 35).toInt + 1 ≤ (I397 0 34).toInt); rw [q0, q1, q2, q3]; first | omega | decide) 59 _) (cwV 1 hts gX12_statement_X12_must rfl rfl rfl hy_X12_must ⟨Nat.le_of_ble_eq_true rfl, Nat.le_of_ble_eq_true rfl⟩) (z_preV (i := 0) hK hW rfl rfl) rfl rfl hl.1 rfl (lv_room (Nat.le_of_ble_eq_true rfl)) dX12_statement_203 ⟨Nat.le_of_ble_eq_true rfl, Nat.le_of_ble_eq_true rfl⟩) (fun u1 H locs hp hW hS => ?_)
            obtain ⟨I405, J407, e9, hI405mp, hI405mt, hI405rp, fI405, hp⟩ := hp
            rw [e9] at hW
            have f406 := z_fr_sub (L := L_X12_statement) f398 fI405 (by decide)
            have k408 : 0 ≤ (I405 0 47).toInt ∧ (I405 0 47).toInt ≤ 119 := by rw [fI405 0 47 (by decide)]; exact (by show 0 ≤ (I397 0 47).toInt ∧ (I397 0 47).toInt ≤ 119; rw [eI397, z_up_n (by decide), eI322, z_up_n (by decide)]; exact hI316md.1)
            have k409 : 0 ≤ (I405 0 39).toInt ∧ (I405 0 39).toInt ≤ 100 := by rw [fI405 0 39 (by decide)]; exact (by show 0 ≤ (I397 0 39).toInt ∧ (I397 0 39).toInt ≤ 100; rw [eI397, z_up_n (by decide), eI322, z_up_n (by decide)]; exact hI316md.2)
            have k410 : 0 ≤ (I405 0 40).toInt ∧ (I405 0 40).toInt ≤ 6199 := by rw [fI405 0 40 (by decide)]; exact (by show 0 ≤ (I397 0 40).toInt ∧ (I397 0 40).toInt ≤ 6199; rw [eI397, z_up_n (by decide), eI322, z_up_n (by decide)]; exact hI316mg)
            have k411 : 0 ≤ (I405 0 15).toInt ∧ (I405 0 15).toInt ≤ 6100 := by rw [fI405 0 15 (by decide)]; exact (by show 0 ≤ (I397 0 15).toInt ∧ (I397 0 15).toInt ≤ 6100; rw [eI397, z_up_n (by decide), eI322, z_up_n (by decide)]; exact hI316mn)
            have k412 : 0 ≤ (I405 0 35).toInt ∧ (I405 0 35).toInt ≤ (I405 0 34).toInt ∧ (I405 0 34).toInt ≤ (I405 0 33).toInt ∧ (I405 0 33).toInt ≤ 500 ∧ ((I405 0 36).toInt = 0 ∨ (I405 0 35).toInt + 1 ≤ (I405 0 34).toInt) := hI405rp
            have k413 : (I405 0 47).toInt = (I316 0 47).toInt := by rw [fI405 0 47 (by decide), eI397, z_up_n (by decide), eI322, z_up_n (by decide)]
            have k414 : (I405 0 39).toInt = (I316 0 39).toInt := by rw [fI405 0 39 (by decide), eI397, z_up_n (by decide), eI322, z_up_n (by decide)]
            have k415 : (I405 0 15).toInt = (I316 0 15).toInt := by rw [fI405 0 15 (by decide), eI397, z_up_n (by decide), eI322, z_up_n (by decide)]
            have k416 : (I405 0 40).toInt = (I316 0 40).toInt := by rw [fI405 0 40 (by decide), eI397, z_up_n (by decide), eI322, z_up_n (by decide)]
            have h417 := hp
            rw [show (I397 0 35) = (I316 0 35) from by rw [eI397, z_up_n (by decide), eI322, z_up_n (by decide)]] at h417
            exact z_vret hx hb hr hK hS (Nat.le_of_ble_eq_true rfl) (Nat.le_of_ble_eq_true rfl) hlocks dX12_statement_206 (shM, ad, I405, J407, PM ad) hW ⟨I405, J407, rfl, ⟨(by show 0 ≤ (I405 0 31).toInt ∧ (I405 0 31).toInt ≤ 500; exact hI405mp.1), (by show 0 ≤ (I405 0 33).toInt ∧ (I405 0 33).toInt ≤ 500; exact hI405mp.2.1), (by show 0 ≤ (I405 0 34).toInt ∧ (I405 0 34).toInt ≤ 500; exact hI405mp.2.2.1), (by show 0 ≤ (I405 0 35).toInt ∧ (I405 0 35).toInt ≤ 500; exact hI405mp.2.2.2)⟩, ⟨(by show 0 ≤ (I405 0 36).toInt ∧ (I405 0 36).toInt ≤ 4; exact hI405mt.1), (by show 0 ≤ (I405 0 42).toInt ∧ (I405 0 42).toInt ≤ 1; exact hI405mt.2)⟩, ⟨(by show 0 ≤ (I405 0 47).toInt ∧ (I405 0 47).toInt ≤ 119; exact k408), (by show 0 ≤ (I405 0 39).toInt ∧ (I405 0 39).toInt ≤ 100; exact k409)⟩, (by show 0 ≤ (I405 0 40).toInt ∧ (I405 0 40).toInt ≤ 6199; exact k410), (by show 0 ≤ (I405 0 15).toInt ∧ (I405 0 15).toInt ≤ 6100; exact k411), (z_Nd_fr a399 fI405 (by decide)), (by show 0 ≤ (I405 0 35).toInt ∧ (I405 0 35).toInt ≤ (I405 0 34).toInt ∧ (I405 0 34).toInt ≤ (I405 0 33).toInt ∧ (I405 0 33).toInt ≤ 500 ∧ ((I405 0 36).toInt = 0 ∨ (I405 0 35).toInt + 1 ≤ (I405 0 34).toInt); first | omega | decide), (z_rg_fr a400 fI405 (by decide)), (z_rg_fr a401 fI405 (by decide)), (z_rg_fr a402 fI405 (by decide)), (fun n => by by_cases q9 : n = a1.toNatClampNeg; (· (subst q9; rw [show I405 15 a1.toNatClampNeg = x60 from (by rw [fI405 15 a1.toNatClampNeg (z_wr_c (by decide)), eI397, z_up_n (by decide), eI322, z_up_n (by decide), fI316 15 a1.toNatClampNeg (z_wr_c (by decide)), fI70 15 a1.toNatClampNeg (z_wr_c (by decide)), eI62, z_up_s]), show I405 17 a1.toNatClampNeg = x320 from (by rw [fI405 17 a1.toNatClampNeg (z_wr_c (by decide)), eI397, z_up_n (by decide), eI322, z_up_s])]; omega)); (· (have g1 : I405 15 n = I 15 n := (by rw [fI405 15 n (z_wr_c (by decide)), eI397, z_up_n (by decide), eI322, z_up_n (by decide), fI316 15 n (z_wr_c (by decide)), fI70 15 n (z_wr_c (by decide)), eI62, z_up_k q9, eI22, z_up_n (by decide), eI15, z_up_n (by decide), eI8, z_up_n (by decide), eI1, z_up_n (by decide)]); have g2 : I405 17 n = I 17 n := (by rw [fI405 17 n (z_wr_c (by decide)), eI397, z_up_n (by decide), eI322, z_up_k q9, fI316 17 n (z_wr_c (by decide)), fI70 17 n (z_wr_c (by decide)), eI62, z_up_n (by decide), eI22, z_up_n (by decide), eI15, z_up_n (by decide), eI8, z_up_k q9, eI1, z_up_n (by decide)]); rw [g1, g2]; exact hEx n))), f406, (by show ¬ (I405 0 42).toInt = 0 ∨ 1010 * (500 - (I405 0 35).toInt) + 1000 * (I405 0 15).toInt ≤ 1010 * (500 - (I 0 35).toInt) + 1000 * (I 0 15).toInt + 20; omega)⟩
    · have g418 := z_f_nge rfl z_l0 c68
      refine lv_aload_n hx hb dX12_statement_63 rfl (lv_at hl 1 rfl) ?_
      refine z_cv hW hS hA (va_runV (As := []) (rest := []) ⟨hx, hb, hml, hown, hts⟩ (sx_X12_errs l G ad I62 J ⟨(by show 0 ≤ (I62 0 36).toInt ∧ (I62 0 36).toInt ≤ 4; rw [eI62, z_up_n (by decide), eI22, z_up_n (by decide), eI15, z_up_n (by decide), eI8, z_up_n (by decide), eI1, z_up_n (by decide)]; exact hmt.1), (by show 0 ≤ (I62 0 42).toInt ∧ (I62 0 42).toInt ≤ 1; rw [eI62, z_up_n (by decide), eI22, z_up_n (by decide), eI15, z_up_n (by decide), eI8, z_up_n (by decide), eI1, z_up_n (by decide)]; exact hmt.2)⟩  _) (cwV 0 hts gX12_statement_X12_errs rfl rfl rfl hy_X12_errs ⟨Nat.le_of_ble_eq_true rfl, Nat.le_of_ble_eq_true rfl⟩) (z_preV (i := 0) hK hW rfl rfl) rfl rfl hl.1 rfl (lv_room (Nat.le_of_ble_eq_true rfl)) dX12_statement_64 ⟨Nat.le_of_ble_eq_true rfl, Nat.le_of_ble_eq_true rfl⟩) (fun u1 H locs hp hW hS => ?_)
      obtain ⟨I419, J421, e9, hI419mt, fI419, hp⟩ := hp
      rw [e9] at hW
      have f420 := z_fr_sub (L := L_X12_statement) f63 fI419 (by decide)
      have k422 : 0 ≤ (I419 0 31).toInt ∧ (I419 0 31).toInt ≤ 500 := by rw [fI419 0 31 (by decide)]; exact (by show 0 ≤ (I62 0 31).toInt ∧ (I62 0 31).toInt ≤ 500; rw [eI62, z_up_n (by decide), eI22, z_up_n (by decide), eI15, z_up_n (by decide), eI8, z_up_n (by decide), eI1, z_up_n (by decide)]; exact hmp.1)
      have k423 : 0 ≤ (I419 0 33).toInt ∧ (I419 0 33).toInt ≤ 500 := by rw [fI419 0 33 (by decide)]; exact (by show 0 ≤ (I62 0 33).toInt ∧ (I62 0 33).toInt ≤ 500; rw [eI62, z_up_n (by decide), eI22, z_up_n (by decide), eI15, z_up_n (by decide), eI8, z_up_n (by decide), eI1, z_up_n (by decide)]; exact hmp.2.1)
      have k424 : 0 ≤ (I419 0 34).toInt ∧ (I419 0 34).toInt ≤ 500 := by rw [fI419 0 34 (by decide)]; exact (by show 0 ≤ (I62 0 34).toInt ∧ (I62 0 34).toInt ≤ 500; rw [eI62, z_up_n (by decide), eI22, z_up_n (by decide), eI15, z_up_n (by decide), eI8, z_up_n (by decide), eI1, z_up_n (by decide)]; exact hmp.2.2.1)
      have k425 : 0 ≤ (I419 0 35).toInt ∧ (I419 0 35).toInt ≤ 500 := by rw [fI419 0 35 (by decide)]; exact (by show 0 ≤ (I62 0 35).toInt ∧ (I62 0 35).toInt ≤ 500; rw [eI62, z_up_n (by decide), eI22, z_up_n (by decide), eI15, z_up_n (by decide), eI8, z_up_n (by decide), eI1, z_up_n (by decide)]; exact hmp.2.2.2)
      have k426 : (I419 0 36).toInt = (I 0 36).toInt := by rw [fI419 0 36 (by decide), eI62, z_up_n (by decide), eI22, z_up_n (by decide), eI15, z_up_n (by decide), eI8, z_up_n (by decide), eI1, z_up_n (by decide)]
      have k427 : 0 ≤ (I419 0 47).toInt ∧ (I419 0 47).toInt ≤ 119 := by rw [fI419 0 47 (by decide)]; exact (by show 0 ≤ (I62 0 47).toInt ∧ (I62 0 47).toInt ≤ 119; rw [eI62, z_up_n (by decide), eI22, z_up_n (by decide), eI15, z_up_n (by decide), eI8, z_up_n (by decide), eI1, z_up_n (by decide)]; exact hmd.1)
      have k428 : 0 ≤ (I419 0 39).toInt ∧ (I419 0 39).toInt ≤ 100 := by rw [fI419 0 39 (by decide)]; exact (by show 0 ≤ (I62 0 39).toInt ∧ (I62 0 39).toInt ≤ 100; rw [eI62, z_up_n (by decide), eI22, z_up_n (by decide), eI15, z_up_n (by decide), eI8, z_up_n (by decide), eI1, z_up_n (by decide)]; exact hmd.2)
      have k429 : 0 ≤ (I419 0 40).toInt ∧ (I419 0 40).toInt ≤ 6199 := by rw [fI419 0 40 (by decide)]; exact (by show 0 ≤ (I62 0 40).toInt ∧ (I62 0 40).toInt ≤ 6199; rw [eI62, z_up_n (by decide), eI22, z_up_n (by decide), eI15, z_up_n (by decide), eI8, z_up_n (by decide), eI1, z_up_n (by decide)]; exact hmg)
      have k430 : 0 ≤ (I419 0 15).toInt ∧ (I419 0 15).toInt ≤ 6100 := by rw [fI419 0 15 (by decide)]; exact (by show 0 ≤ (I62 0 15).toInt ∧ (I62 0 15).toInt ≤ 6100; rw [eI62, z_up_n (by decide), eI22, z_up_n (by decide), eI15, z_up_n (by decide), eI8, z_up_n (by decide), eI1, z_up_n (by decide)]; exact hmn)
      have k431 : 0 ≤ (I419 0 35).toInt ∧ (I419 0 35).toInt ≤ (I419 0 34).toInt ∧ (I419 0 34).toInt ≤ (I419 0 33).toInt ∧ (I419 0 33).toInt ≤ 500 ∧ ((I419 0 36).toInt = 0 ∨ (I419 0 35).toInt + 1 ≤ (I419 0 34).toInt) := (by have q0 : (I419 0 35) = (I 0 35) := (by rw [fI419 0 35 (by decide), eI62, z_up_n (by decide), eI22, z_up_n (by decide), eI15, z_up_n (by decide), eI8, z_up_n (by decide), eI1, z_up_n (by decide)]); have q1 : (I419 0 34) = (I 0 34) := (by rw [fI419 0 34 (by decide), eI62, z_up_n (by decide), eI22, z_up_n (by decide), eI15, z_up_n (by decide), eI8, z_up_n (by decide), eI1, z_up_n (by decide)]); have q2 : (I419 0 33) = (I 0 33) := (by rw [fI419 0 33 (by decide), eI62, z_up_n (by decide), eI22, z_up_n (by decide), eI15, z_up_n (by decide), eI8, z_up_n (by decide), eI1, z_up_n (by decide)]); have q3 : (I419 0 36) = (I 0 36) := (by rw [fI419 0 36 (by decide), eI62, z_up_n (by decide), eI22, z_up_n (by decide), eI15, z_up_n (by decide), eI8, z_up_n (by decide), eI1, z_up_n (by decide)]); show 0 ≤ (I419 0 35).toInt ∧ (I419 0 35).toInt ≤ (I419 0 34).toInt ∧ (I419 0 34).toInt ≤ (I419 0 33).toInt ∧ (I419 0 33).toInt ≤ 500 ∧ ((I419 0 36).toInt = 0 ∨ (I419 0 35).toInt + 1 ≤ (I419 0 34).toInt); rw [q0, q1, q2, q3]; first | omega | decide)
      have k432 : (I419 0 35).toInt = (I 0 35).toInt := by rw [fI419 0 35 (by decide), eI62, z_up_n (by decide), eI22, z_up_n (by decide), eI15, z_up_n (by decide), eI8, z_up_n (by decide), eI1, z_up_n (by decide)]
      have k433 : (I419 0 34).toInt = (I 0 34).toInt := by rw [fI419 0 34 (by decide), eI62, z_up_n (by decide), eI22, z_up_n (by decide), eI15, z_up_n (by decide), eI8, z_up_n (by decide), eI1, z_up_n (by decide)]
      have k434 : (I419 0 36).toInt = (I 0 36).toInt := by rw [fI419 0 36 (by decide), eI62, z_up_n (by decide), eI22, z_up_n (by decide), eI15, z_up_n (by decide), eI8, z_up_n (by decide), eI1, z_up_n (by decide)]
      have k435 : (I419 0 47).toInt = (I 0 47).toInt := by rw [fI419 0 47 (by decide), eI62, z_up_n (by decide), eI22, z_up_n (by decide), eI15, z_up_n (by decide), eI8, z_up_n (by decide), eI1, z_up_n (by decide)]
      have k436 : (I419 0 39).toInt = (I 0 39).toInt := by rw [fI419 0 39 (by decide), eI62, z_up_n (by decide), eI22, z_up_n (by decide), eI15, z_up_n (by decide), eI8, z_up_n (by decide), eI1, z_up_n (by decide)]
      have k437 : (I419 0 15).toInt = (I 0 15).toInt := by rw [fI419 0 15 (by decide), eI62, z_up_n (by decide), eI22, z_up_n (by decide), eI15, z_up_n (by decide), eI8, z_up_n (by decide), eI1, z_up_n (by decide)]
      have k438 : (I419 0 40).toInt = (I 0 40).toInt := by rw [fI419 0 40 (by decide), eI62, z_up_n (by decide), eI22, z_up_n (by decide), eI15, z_up_n (by decide), eI8, z_up_n (by decide), eI1, z_up_n (by decide)]
      have h439 := hp
      exact z_vret hx hb hr hK hS (Nat.le_of_ble_eq_true rfl) (Nat.le_of_ble_eq_true rfl) hlocks dX12_statement_67 (shM, ad, I419, J421, PM ad) hW ⟨I419, J421, rfl, ⟨(by show 0 ≤ (I419 0 31).toInt ∧ (I419 0 31).toInt ≤ 500; exact k422), (by show 0 ≤ (I419 0 33).toInt ∧ (I419 0 33).toInt ≤ 500; exact k423), (by show 0 ≤ (I419 0 34).toInt ∧ (I419 0 34).toInt ≤ 500; exact k424), (by show 0 ≤ (I419 0 35).toInt ∧ (I419 0 35).toInt ≤ 500; exact k425)⟩, ⟨(by show 0 ≤ (I419 0 36).toInt ∧ (I419 0 36).toInt ≤ 4; exact hI419mt.1), (by show 0 ≤ (I419 0 42).toInt ∧ (I419 0 42).toInt ≤ 1; exact hI419mt.2)⟩, ⟨(by show 0 ≤ (I419 0 47).toInt ∧ (I419 0 47).toInt ≤ 119; exact k427), (by show 0 ≤ (I419 0 39).toInt ∧ (I419 0 39).toInt ≤ 100; exact k428)⟩, (by show 0 ≤ (I419 0 40).toInt ∧ (I419 0 40).toInt ≤ 6199; exact k429), (by show 0 ≤ (I419 0 15).toInt ∧ (I419 0 15).toInt ≤ 6100; exact k430), (z_Nd_fr a64 fI419 (by decide)), (by show 0 ≤ (I419 0 35).toInt ∧ (I419 0 35).toInt ≤ (I419 0 34).toInt ∧ (I419 0 34).toInt ≤ (I419 0 33).toInt ∧ (I419 0 33).toInt ≤ 500 ∧ ((I419 0 36).toInt = 0 ∨ (I419 0 35).toInt + 1 ≤ (I419 0 34).toInt); first | omega | decide), (z_rg_fr a65 fI419 (by decide)), (z_rg_fr a66 fI419 (by decide)), (z_rg_fr a67 fI419 (by decide)), (fun n => by by_cases q9 : n = a1.toNatClampNeg; (· (subst q9; rw [show I419 15 a1.toNatClampNeg = x60 from (by rw [fI419 15 a1.toNatClampNeg (z_wr_c (by decide)), eI62, z_up_s]), show I419 17 a1.toNatClampNeg = (-1) from (by rw [fI419 17 a1.toNatClampNeg (z_wr_c (by decide)), eI62, z_up_n (by decide), eI22, z_up_n (by decide), eI15, z_up_n (by decide), eI8, z_up_s])]; have := z_lm1; omega)); (· (have g1 : I419 15 n = I 15 n := (by rw [fI419 15 n (z_wr_c (by decide)), eI62, z_up_k q9, eI22, z_up_n (by decide), eI15, z_up_n (by decide), eI8, z_up_n (by decide), eI1, z_up_n (by decide)]); have g2 : I419 17 n = I 17 n := (by rw [fI419 17 n (z_wr_c (by decide)), eI62, z_up_n (by decide), eI22, z_up_n (by decide), eI15, z_up_n (by decide), eI8, z_up_k q9, eI1, z_up_n (by decide)]); rw [g1, g2]; exact hEx n))), f420, (by show ¬ (I419 0 42).toInt = 0 ∨ 1010 * (500 - (I419 0 35).toInt) + 1000 * (I419 0 15).toInt ≤ 1010 * (500 - (I 0 35).toInt) + 1000 * (I 0 15).toInt + 20; omega)⟩
noncomputable def L_X12_orders : z_L := [(0, 35), (0, 36), (0, 37), (0, 38), (0, 34), (0, 42), (0, 32), (0, 39), (21, 999), (22, 999), (23, 999), (0, 15), (26, 999), (27, 999), (28, 999), (29, 999), (0, 47), (0, 40), (16, 999), (17, 999), (18, 999), (19, 999), (15, 999), (20, 999), (0, 33), (0, 31), (0, 14), (0, 13), (11, 999), (12, 999), (13, 999), (14, 999)]
theorem zj_X12_orders_X12 : ∀ w ∈ wsX120, w ∈ wsX12_orders := fun w h => (List.mem_cons_of_mem _ (List.mem_append_right _ h))
set_option maxHeartbeats 8000000 in
set_option maxRecDepth 100000 in
theorem sx_X12_orders (l : Launch) (G : z_G) (ad : Nat → Nat) (I : z_I) (J : z_J) (hma : z_ima I) (hmb : z_imb I) (hmp : z_imp I) (hmt : z_imt I) (hmd : z_imd I) (hmg : z_img I) (hmn : z_imn I) (hNd : z_Nd I) (hAtf : z_rg 11 0 288 I) (hAtm : z_rg 12 0 24 I) (hAsf : z_rg 19 0 6200 I) (hAst : z_rg 20 0 6200 I) (hAsc : z_rg 18 (-1) 6199 I) (hEx : z_Ex I) (hro : z_iro I) (a1 : Int32) (a2 : Int32) : z_M l yX12_orders wsX12_orders { frames := 7, cells := 0, slots := 0, locals := 143 } [.ref (ad 0), .int a1, .int a2] G (shM, ad, I, J, PM ad) (fun r u1 => ∃ (I1 : z_I) (J1 : z_J), u1 = (shM, ad, I1, J1, PM ad) ∧ z_ima I1 ∧ z_imb I1 ∧ z_imp I1 ∧ z_imt I1 ∧ z_imd I1 ∧ z_img I1 ∧ z_imn I1 ∧ z_Nd I1 ∧ z_rg 11 0 288 I1 ∧ z_rg 12 0 24 I1 ∧ z_rg 19 0 6200 I1 ∧ z_rg 20 0 6200 I1 ∧ z_rg 18 (-1) 6199 I1 ∧ z_Ex I1 ∧ z_iro I1 ∧ z_fr L_X12_orders I1 I) 0 0 := by
  intro sz
  refine z_headQ (cc := cX12_orders) (maxL := 5) (ret := (some .int)) (by decide) rfl (Nat.le_of_ble_eq_true rfl) ?_
  intro p e s m below meth c0 ls hIn hK hsz hW hl
  obtain ⟨hx, hb, hr, hml, hown, hts, hlocks, hname⟩ := hIn
  subst hsz
  have hown : s.vm.findClass RX12 = some m.cls := hown
  have hA : ∀ q : Nat, s.heap.size ≤ q → z_A (shM, ad, I, J, PM ad) s.heap.size q := fun q h => Or.inr h
  generalize hAe : z_A (shM, ad, I, J, PM ad) s.heap.size = A at *
  have hS : va_S A s.heap s.heap [] := va_S.rf
  have hl : lv_has ls 5 [(0, .ref (ad 0)), (1, .int a1), (2, .int a2)] := hl
  have kro : (I 0 14).toInt ≤ 24 * (I 0 13).toInt ∧ (I 0 15).toInt ≤ 505 * (I 0 13).toInt := hro
  refine lv_iload_n hx hb dX12_orders_0 rfl (lv_at hl 1 rfl) ?_
  refine lv_if_lt (tgt := 19) hx hb dX12_orders_1 (by decide) (fun c1 => ?_) (fun c1 => ?_)
  · have g2 := z_f_lt rfl z_l0 c1
    have b3 := Int32.toInt_lt a1
    refine lv_bipush (v := (-2)) hx hb dX12_orders_19 (by decide) ?_
    exact z_iret hx hb hr hK hS (Nat.le_of_ble_eq_true rfl) (Nat.le_of_ble_eq_true rfl) hlocks dX12_orders_21 (shM, ad, I, J, PM ad) hW ⟨I, J, rfl, ⟨(by show 0 ≤ (I 0 0).toInt ∧ (I 0 0).toInt ≤ 719; exact hma.1), (by show 0 ≤ (I 0 1).toInt ∧ (I 0 1).toInt ≤ 30; exact hma.2.1), (by show 0 ≤ (I 0 2).toInt ∧ (I 0 2).toInt ≤ 200; exact hma.2.2)⟩, ⟨(by show 0 ≤ (I 0 13).toInt ∧ (I 0 13).toInt ≤ 12; exact hmb.1), (by show 0 ≤ (I 0 14).toInt ∧ (I 0 14).toInt ≤ 288; exact hmb.2)⟩, ⟨(by show 0 ≤ (I 0 31).toInt ∧ (I 0 31).toInt ≤ 500; exact hmp.1), (by show 0 ≤ (I 0 33).toInt ∧ (I 0 33).toInt ≤ 500; exact hmp.2.1), (by show 0 ≤ (I 0 34).toInt ∧ (I 0 34).toInt ≤ 500; exact hmp.2.2.1), (by show 0 ≤ (I 0 35).toInt ∧ (I 0 35).toInt ≤ 500; exact hmp.2.2.2)⟩, ⟨(by show 0 ≤ (I 0 36).toInt ∧ (I 0 36).toInt ≤ 4; exact hmt.1), (by show 0 ≤ (I 0 42).toInt ∧ (I 0 42).toInt ≤ 1; exact hmt.2)⟩, ⟨(by show 0 ≤ (I 0 47).toInt ∧ (I 0 47).toInt ≤ 119; exact hmd.1), (by show 0 ≤ (I 0 39).toInt ∧ (I 0 39).toInt ≤ 100; exact hmd.2)⟩, (by show 0 ≤ (I 0 40).toInt ∧ (I 0 40).toInt ≤ 6199; exact hmg), (by show 0 ≤ (I 0 15).toInt ∧ (I 0 15).toInt ≤ 6100; exact hmn), hNd, hAtf, hAtm, hAsf, hAst, hAsc, hEx, (by show (I 0 14).toInt ≤ 24 * (I 0 13).toInt ∧ (I 0 15).toInt ≤ 505 * (I 0 13).toInt; first | omega | decide), z_fr_0⟩
  · have g4 := z_f_nlt rfl z_l0 c1
    have b5 := Int32.toInt_lt a1
    refine lv_iload_n hx hb dX12_orders_4 rfl (lv_at hl 1 rfl) ?_
    refine lv_aload_n hx hb dX12_orders_5 rfl (lv_at hl 0 rfl) ?_
    have r6 : 0 ≤ (I 0 31).toInt ∧ (I 0 31).toInt ≤ 500 := hmp.1
    refine z_get (T := TX12) (N := 96) (ci := 12) (i := 0) (v := .int (I 0 31)) hx hb hts zj_X12_orders_X12 hown hK hW rfl rfl 31 (by decide) (hts (.fieldLink RX12 253 "PetrolBoardModel" "taped" "I") (me_s (me_l (me_l (List.mem_of_getElem? (i := 0) rfl))))) (fun _ h => h) rfl dX12_orders_6 ?_
    refine lv_icmp_gt (tgt := 19) hx hb dX12_orders_9 (by decide) (fun c7 => ?_) (fun c7 => ?_)
    · have g8 := z_f_gt rfl rfl c7
      refine lv_bipush (v := (-2)) hx hb dX12_orders_19 (by decide) ?_
      exact z_iret hx hb hr hK hS (Nat.le_of_ble_eq_true rfl) (Nat.le_of_ble_eq_true rfl) hlocks dX12_orders_21 (shM, ad, I, J, PM ad) hW ⟨I, J, rfl, ⟨(by show 0 ≤ (I 0 0).toInt ∧ (I 0 0).toInt ≤ 719; exact hma.1), (by show 0 ≤ (I 0 1).toInt ∧ (I 0 1).toInt ≤ 30; exact hma.2.1), (by show 0 ≤ (I 0 2).toInt ∧ (I 0 2).toInt ≤ 200; exact hma.2.2)⟩, ⟨(by show 0 ≤ (I 0 13).toInt ∧ (I 0 13).toInt ≤ 12; exact hmb.1), (by show 0 ≤ (I 0 14).toInt ∧ (I 0 14).toInt ≤ 288; exact hmb.2)⟩, ⟨(by show 0 ≤ (I 0 31).toInt ∧ (I 0 31).toInt ≤ 500; exact hmp.1), (by show 0 ≤ (I 0 33).toInt ∧ (I 0 33).toInt ≤ 500; exact hmp.2.1), (by show 0 ≤ (I 0 34).toInt ∧ (I 0 34).toInt ≤ 500; exact hmp.2.2.1), (by show 0 ≤ (I 0 35).toInt ∧ (I 0 35).toInt ≤ 500; exact hmp.2.2.2)⟩, ⟨(by show 0 ≤ (I 0 36).toInt ∧ (I 0 36).toInt ≤ 4; exact hmt.1), (by show 0 ≤ (I 0 42).toInt ∧ (I 0 42).toInt ≤ 1; exact hmt.2)⟩, ⟨(by show 0 ≤ (I 0 47).toInt ∧ (I 0 47).toInt ≤ 119; exact hmd.1), (by show 0 ≤ (I 0 39).toInt ∧ (I 0 39).toInt ≤ 100; exact hmd.2)⟩, (by show 0 ≤ (I 0 40).toInt ∧ (I 0 40).toInt ≤ 6199; exact hmg), (by show 0 ≤ (I 0 15).toInt ∧ (I 0 15).toInt ≤ 6100; exact hmn), hNd, hAtf, hAtm, hAsf, hAst, hAsc, hEx, (by show (I 0 14).toInt ≤ 24 * (I 0 13).toInt ∧ (I 0 15).toInt ≤ 505 * (I 0 13).toInt; first | omega | decide), z_fr_0⟩
    · have g9 := z_f_ngt rfl rfl c7
      refine lv_iload_n hx hb dX12_orders_12 rfl (lv_at hl 2 rfl) ?_
      refine z_ci hW hS hA (va_runS (As := [.int a2]) (rest := []) ⟨hx, hb, hml, hown, hts⟩ (sx_X12_isMonth l G ad I J  a2 _) (va_cwS 1 hts gX12_orders_X12_isMonth rfl rfl rfl hy_X12_isMonth.2 ⟨Nat.le_of_ble_eq_true rfl, Nat.le_of_ble_eq_true rfl⟩) (z_preS hK hW) rfl rfl hl.1 rfl (lv_room (Nat.le_of_ble_eq_true rfl)) dX12_orders_13 ⟨Nat.le_of_ble_eq_true rfl, Nat.le_of_ble_eq_true rfl⟩) (fun r u1 H locs hp hW hS => ?_)
      obtain ⟨e9, hp⟩ := hp
      rw [e9] at hW
      rcases hp with ⟨rfl, h11, h12⟩ | rfl
      · refine lv_if_ne (tgt := 22) hx hb dX12_orders_16 (by decide) (fun c13 => ?_) (fun c13 => absurd c13 (by decide))
        refine lv_aload_n hx hb dX12_orders_22 rfl (lv_at hl 0 rfl) ?_
        have r14 : 0 ≤ (I 0 13).toInt ∧ (I 0 13).toInt ≤ 12 := hmb.1
        refine z_get (T := TX12) (N := 96) (ci := 12) (i := 0) (v := .int (I 0 13)) hx hb hts zj_X12_orders_X12 hown hK hW rfl rfl 13 (by decide) (hts (.fieldLink RX12 408 "PetrolBoardModel" "texts" "I") (me_s (me_l (me_l (List.mem_of_getElem? (i := 1) rfl))))) (fun _ h => h) rfl dX12_orders_23 ?_
        refine lv_bipush (v := 12) hx hb dX12_orders_26 (by decide) ?_
        refine lv_icmp_ne (tgt := 34) hx hb dX12_orders_28 (by decide) (fun c15 => ?_) (fun c15 => ?_)
        · have g16 := z_f_ne rfl z_l12 c15
          refine lv_aload_n hx hb dX12_orders_34 rfl (lv_at hl 0 rfl) ?_
          refine lv_iload_n hx hb dX12_orders_35 rfl (lv_at hl 1 rfl) ?_
          refine z_put (T := TX12) (N := 96) (ci := 12) (i := 0) (v := .int a1) (I1 := z_up I 0 33 a1) (J1 := J) (P1 := PM ad) hx hb hts zj_X12_orders_X12 tyX12 tyX12_ok nmX12 hown hK hW hS rfl rfl 33 (by decide) (hts (.fieldLink RX12 259 "PetrolBoardModel" "limit" "I") (me_s (me_l (me_l (List.mem_of_getElem? (i := 2) rfl))))) (fun _ h => h) rfl rfl rfl (by first | rfl | exact congrArg _ z_up_s) (fun a b h ty => z_vI h ty) dX12_orders_36 (fun H locs hz1 hW hS => ?_)
          obtain ⟨I17, eI17⟩ : ∃ K : z_I, K = z_up I 0 33 a1 := ⟨_, rfl⟩
          rw [← eI17] at hW
          have f18 := z_fr_k z_fr_0 (show z_wr L_X12_orders 0 33 = true by decide) eI17
          have a19 := z_Nd_n hNd (by decide) eI17
          have a20 := z_rg_n hAtf (by decide) eI17
          have a21 := z_rg_n hAtm (by decide) eI17
          have a22 := z_rg_n hAsf (by decide) eI17
          have a23 := z_rg_n hAst (by decide) eI17
          have a24 := z_rg_n hAsc (by decide) eI17
          have a25 := z_Ex_n hEx (by decide) eI17
          refine lv_aload_n hx hb dX12_orders_39 rfl (lv_at hl 0 rfl) ?_
          refine lv_iconst (v := 0) hx hb dX12_orders_40 (by decide) ?_
          refine z_put (T := TX12) (N := 96) (ci := 12) (i := 0) (v := .int 0) (I1 := z_up I17 0 31 0) (J1 := J) (P1 := PM ad) hx hb hts zj_X12_orders_X12 tyX12 tyX12_ok nmX12 hown hK hW hS rfl rfl 31 (by decide) (hts (.fieldLink RX12 253 "PetrolBoardModel" "taped" "I") (me_s (me_l (me_l (List.mem_of_getElem? (i := 0) rfl))))) (fun _ h => h) rfl rfl rfl (by first | rfl | exact congrArg _ z_up_s) (fun a b h ty => z_vI h ty) dX12_orders_41 (fun H locs hz1 hW hS => ?_)
          obtain ⟨I26, eI26⟩ : ∃ K : z_I, K = z_up I17 0 31 0 := ⟨_, rfl⟩
          rw [← eI26] at hW
          have f27 := z_fr_k f18 (show z_wr L_X12_orders 0 31 = true by decide) eI26
          have a28 := z_Nd_n a19 (by decide) eI26
          have a29 := z_rg_n a20 (by decide) eI26
          have a30 := z_rg_n a21 (by decide) eI26
          have a31 := z_rg_n a22 (by decide) eI26
          have a32 := z_rg_n a23 (by decide) eI26
          have a33 := z_rg_n a24 (by decide) eI26
          have a34 := z_Ex_n a25 (by decide) eI26
          refine lv_aload_n hx hb dX12_orders_44 rfl (lv_at hl 0 rfl) ?_
          refine lv_iconst (v := 0) hx hb dX12_orders_45 (by decide) ?_
          refine z_put (T := TX12) (N := 96) (ci := 12) (i := 0) (v := .int 0) (I1 := z_up I26 0 34 0) (J1 := J) (P1 := PM ad) hx hb hts zj_X12_orders_X12 tyX12 tyX12_ok nmX12 hown hK hW hS rfl rfl 34 (by decide) (hts (.fieldLink RX12 256 "PetrolBoardModel" "point" "I") (me_s (me_l (me_l (List.mem_of_getElem? (i := 3) rfl))))) (fun _ h => h) rfl rfl rfl (by first | rfl | exact congrArg _ z_up_s) (fun a b h ty => z_vI h ty) dX12_orders_46 (fun H locs hz1 hW hS => ?_)
          obtain ⟨I35, eI35⟩ : ∃ K : z_I, K = z_up I26 0 34 0 := ⟨_, rfl⟩
          rw [← eI35] at hW
          have f36 := z_fr_k f27 (show z_wr L_X12_orders 0 34 = true by decide) eI35
          have a37 := z_Nd_n a28 (by decide) eI35
          have a38 := z_rg_n a29 (by decide) eI35
          have a39 := z_rg_n a30 (by decide) eI35
          have a40 := z_rg_n a31 (by decide) eI35
          have a41 := z_rg_n a32 (by decide) eI35
          have a42 := z_rg_n a33 (by decide) eI35
          have a43 := z_Ex_n a34 (by decide) eI35
          refine lv_aload_n hx hb dX12_orders_49 rfl (lv_at hl 0 rfl) ?_
          refine lv_iconst (v := (-1)) hx hb dX12_orders_50 (by decide) ?_
          refine z_put (T := TX12) (N := 96) (ci := 12) (i := 0) (v := .int (-1)) (I1 := z_up I35 0 32 (-1)) (J1 := J) (P1 := PM ad) hx hb hts zj_X12_orders_X12 tyX12 tyX12_ok nmX12 hown hK hW hS rfl rfl 32 (by decide) (hts (.fieldLink RX12 87 "PetrolBoardModel" "faultAt" "I") (me_s (me_l (me_l (List.mem_of_getElem? (i := 4) rfl))))) (fun _ h => h) rfl rfl rfl (by first | rfl | exact congrArg _ z_up_s) (fun a b h ty => z_vI h ty) dX12_orders_51 (fun H locs hz1 hW hS => ?_)
          obtain ⟨I44, eI44⟩ : ∃ K : z_I, K = z_up I35 0 32 (-1) := ⟨_, rfl⟩
          rw [← eI44] at hW
          have f45 := z_fr_k f36 (show z_wr L_X12_orders 0 32 = true by decide) eI44
          have a46 := z_Nd_n a37 (by decide) eI44
          have a47 := z_rg_n a38 (by decide) eI44
          have a48 := z_rg_n a39 (by decide) eI44
          have a49 := z_rg_n a40 (by decide) eI44
          have a50 := z_rg_n a41 (by decide) eI44
          have a51 := z_rg_n a42 (by decide) eI44
          have a52 := z_Ex_n a43 (by decide) eI44
          refine lv_aload_n hx hb dX12_orders_54 rfl (lv_at hl 0 rfl) ?_
          refine lv_iconst (v := 0) hx hb dX12_orders_55 (by decide) ?_
          refine z_put (T := TX12) (N := 96) (ci := 12) (i := 0) (v := .int 0) (I1 := z_up I44 0 42 0) (J1 := J) (P1 := PM ad) hx hb hts zj_X12_orders_X12 tyX12 tyX12_ok nmX12 hown hK hW hS rfl rfl 42 (by decide) (hts (.fieldLink RX12 294 "PetrolBoardModel" "isWrong" "Z") (me_s (me_l (me_l (List.mem_of_getElem? (i := 5) rfl))))) (fun _ h => h) rfl (by decide) rfl (by first | rfl | exact congrArg _ z_up_s) (fun a b h ty => z_vI h ty) dX12_orders_56 (fun H locs hz1 hW hS => ?_)
          obtain ⟨I53, eI53⟩ : ∃ K : z_I, K = z_up I44 0 42 0 := ⟨_, rfl⟩
          rw [← eI53] at hW
          have f54 := z_fr_k f45 (show z_wr L_X12_orders 0 42 = true by decide) eI53
          have a55 := z_Nd_n a46 (by decide) eI53
          have a56 := z_rg_n a47 (by decide) eI53
          have a57 := z_rg_n a48 (by decide) eI53
          have a58 := z_rg_n a49 (by decide) eI53
          have a59 := z_rg_n a50 (by decide) eI53
          have a60 := z_rg_n a51 (by decide) eI53
          have a61 := z_Ex_n a52 (by decide) eI53
          refine lv_aload_n hx hb dX12_orders_59 rfl (lv_at hl 0 rfl) ?_
          have r62 : 0 ≤ (I 0 14).toInt ∧ (I 0 14).toInt ≤ 288 := hmb.2
          refine z_get (T := TX12) (N := 96) (ci := 12) (i := 0) (v := .int (I 0 14)) hx hb hts zj_X12_orders_X12 hown hK hW rfl rfl 14 (by decide) (hts (.fieldLink RX12 411 "PetrolBoardModel" "statements" "I") (me_s (me_l (me_l (List.mem_of_getElem? (i := 6) rfl))))) (fun _ h => h) (congrArg Value.int (by rw [eI53, z_up_k (by decide), eI44, z_up_k (by decide), eI35, z_up_k (by decide), eI26, z_up_k (by decide), eI17, z_up_k (by decide)])) dX12_orders_60 ?_
          refine lv_istore_n (lv' := [(3, .int (I 0 14)), (0, .ref (ad 0)), (1, .int a1), (2, .int a2)]) hx hb dX12_orders_63 rfl hl (by decide) rfl (fun ls hl => ?_)
          refine lv_aload_n hx hb dX12_orders_64 rfl (lv_at hl 1 rfl) ?_
          have r63 : 0 ≤ (I 0 15).toInt ∧ (I 0 15).toInt ≤ 6100 := hmn
          refine z_get (T := TX12) (N := 96) (ci := 12) (i := 0) (v := .int (I 0 15)) hx hb hts zj_X12_orders_X12 hown hK hW rfl rfl 15 (by decide) (hts (.fieldLink RX12 337 "PetrolBoardModel" "nodes" "I") (me_s (me_l (me_l (List.mem_of_getElem? (i := 7) rfl))))) (fun _ h => h) (congrArg Value.int (by rw [eI53, z_up_k (by decide), eI44, z_up_k (by decide), eI35, z_up_k (by decide), eI26, z_up_k (by decide), eI17, z_up_k (by decide)])) dX12_orders_65 ?_
          refine lv_istore (lv' := [(4, .int (I 0 15)), (3, .int (I 0 14)), (0, .ref (ad 0)), (1, .int a1), (2, .int a2)]) hx hb dX12_orders_68 hl (by decide) rfl (fun ls hl => ?_)
          refine lv_aload_n hx hb dX12_orders_70 rfl (lv_at hl 2 rfl) ?_
          refine z_cv hW hS hA (va_runV (As := []) (rest := []) ⟨hx, hb, hml, hown, hts⟩ (sx_X12_next l G ad I53 J ⟨(by show 0 ≤ (I53 0 31).toInt ∧ (I53 0 31).toInt ≤ 500; rw [eI53, z_up_k (by decide), eI44, z_up_k (by decide), eI35, z_up_k (by decide), eI26, z_up_s]; decide), (by show 0 ≤ (I53 0 33).toInt ∧ (I53 0 33).toInt ≤ 500; rw [eI53, z_up_k (by decide), eI44, z_up_k (by decide), eI35, z_up_k (by decide), eI26, z_up_k (by decide), eI17, z_up_s]; omega), (by show 0 ≤ (I53 0 34).toInt ∧ (I53 0 34).toInt ≤ 500; rw [eI53, z_up_k (by decide), eI44, z_up_k (by decide), eI35, z_up_s]; decide), (by show 0 ≤ (I53 0 35).toInt ∧ (I53 0 35).toInt ≤ 500; rw [eI53, z_up_k (by decide), eI44, z_up_k (by decide), eI35, z_up_k (by decide), eI26, z_up_k (by decide), eI17, z_up_k (by decide)]; exact hmp.2.2.2)⟩ ⟨(by show 0 ≤ (I53 0 36).toInt ∧ (I53 0 36).toInt ≤ 4; rw [eI53, z_up_k (by decide), eI44, z_up_k (by decide), eI35, z_up_k (by decide), eI26, z_up_k (by decide), eI17, z_up_k (by decide)]; exact hmt.1), (by show 0 ≤ (I53 0 42).toInt ∧ (I53 0 42).toInt ≤ 1; rw [eI53, z_up_s]; decide)⟩ (by have q0 : (I53 0 34) = 0 := (by rw [eI53, z_up_k (by decide), eI44, z_up_k (by decide), eI35, z_up_s]); have z0 := z_l0; have q1 : (I53 0 33) = a1 := (by rw [eI53, z_up_k (by decide), eI44, z_up_k (by decide), eI35, z_up_k (by decide), eI26, z_up_k (by decide), eI17, z_up_s]); show 0 ≤ (I53 0 34).toInt ∧ (I53 0 34).toInt ≤ (I53 0 33).toInt ∧ (I53 0 33).toInt ≤ 500; rw [q0, q1]; first | omega | decide)  _) (cwV 0 hts gX12_orders_X12_next rfl rfl rfl hy_X12_next ⟨Nat.le_of_ble_eq_true rfl, Nat.le_of_ble_eq_true rfl⟩) (z_preV (i := 0) hK hW rfl rfl) rfl rfl hl.1 rfl (lv_room (Nat.le_of_ble_eq_true rfl)) dX12_orders_71 ⟨Nat.le_of_ble_eq_true rfl, Nat.le_of_ble_eq_true rfl⟩) (fun u1 H locs hp hW hS => ?_)
          obtain ⟨I64, J66, e9, hI64mp, hI64mt, hI64rp, fI64, hp⟩ := hp
          rw [e9] at hW
          have f65 := z_fr_sub (L := L_X12_orders) f54 fI64 (by decide)
          have k67 : 0 ≤ (I64 0 0).toInt ∧ (I64 0 0).toInt ≤ 719 := by rw [fI64 0 0 (by decide)]; exact (by show 0 ≤ (I53 0 0).toInt ∧ (I53 0 0).toInt ≤ 719; rw [eI53, z_up_k (by decide), eI44, z_up_k (by decide), eI35, z_up_k (by decide), eI26, z_up_k (by decide), eI17, z_up_k (by decide)]; exact hma.1)
          have k68 : 0 ≤ (I64 0 1).toInt ∧ (I64 0 1).toInt ≤ 30 := by rw [fI64 0 1 (by decide)]; exact (by show 0 ≤ (I53 0 1).toInt ∧ (I53 0 1).toInt ≤ 30; rw [eI53, z_up_k (by decide), eI44, z_up_k (by decide), eI35, z_up_k (by decide), eI26, z_up_k (by decide), eI17, z_up_k (by decide)]; exact hma.2.1)
          have k69 : 0 ≤ (I64 0 2).toInt ∧ (I64 0 2).toInt ≤ 200 := by rw [fI64 0 2 (by decide)]; exact (by show 0 ≤ (I53 0 2).toInt ∧ (I53 0 2).toInt ≤ 200; rw [eI53, z_up_k (by decide), eI44, z_up_k (by decide), eI35, z_up_k (by decide), eI26, z_up_k (by decide), eI17, z_up_k (by decide)]; exact hma.2.2)
          have k70 : 0 ≤ (I64 0 13).toInt ∧ (I64 0 13).toInt ≤ 12 := by rw [fI64 0 13 (by decide)]; exact (by show 0 ≤ (I53 0 13).toInt ∧ (I53 0 13).toInt ≤ 12; rw [eI53, z_up_k (by decide), eI44, z_up_k (by decide), eI35, z_up_k (by decide), eI26, z_up_k (by decide), eI17, z_up_k (by decide)]; exact hmb.1)
          have k71 : 0 ≤ (I64 0 14).toInt ∧ (I64 0 14).toInt ≤ 288 := by rw [fI64 0 14 (by decide)]; exact (by show 0 ≤ (I53 0 14).toInt ∧ (I53 0 14).toInt ≤ 288; rw [eI53, z_up_k (by decide), eI44, z_up_k (by decide), eI35, z_up_k (by decide), eI26, z_up_k (by decide), eI17, z_up_k (by decide)]; exact hmb.2)
          have k72 : (I64 0 31).toInt = 0 := by rw [fI64 0 31 (by decide), eI53, z_up_k (by decide), eI44, z_up_k (by decide), eI35, z_up_k (by decide), eI26, z_up_s]; exact z_l0
          have k73 : (I64 0 33).toInt = a1.toInt := by rw [fI64 0 33 (by decide), eI53, z_up_k (by decide), eI44, z_up_k (by decide), eI35, z_up_k (by decide), eI26, z_up_k (by decide), eI17, z_up_s]
          have k74 : (I64 0 42).toInt = 0 := by rw [fI64 0 42 (by decide), eI53, z_up_s]; exact z_l0
          have k75 : 0 ≤ (I64 0 47).toInt ∧ (I64 0 47).toInt ≤ 119 := by rw [fI64 0 47 (by decide)]; exact (by show 0 ≤ (I53 0 47).toInt ∧ (I53 0 47).toInt ≤ 119; rw [eI53, z_up_k (by decide), eI44, z_up_k (by decide), eI35, z_up_k (by decide), eI26, z_up_k (by decide), eI17, z_up_k (by decide)]; exact hmd.1)
          have k76 : 0 ≤ (I64 0 39).toInt ∧ (I64 0 39).toInt ≤ 100 := by rw [fI64 0 39 (by decide)]; exact (by show 0 ≤ (I53 0 39).toInt ∧ (I53 0 39).toInt ≤ 100; rw [eI53, z_up_k (by decide), eI44, z_up_k (by decide), eI35, z_up_k (by decide), eI26, z_up_k (by decide), eI17, z_up_k (by decide)]; exact hmd.2)
          have k77 : 0 ≤ (I64 0 40).toInt ∧ (I64 0 40).toInt ≤ 6199 := by rw [fI64 0 40 (by decide)]; exact (by show 0 ≤ (I53 0 40).toInt ∧ (I53 0 40).toInt ≤ 6199; rw [eI53, z_up_k (by decide), eI44, z_up_k (by decide), eI35, z_up_k (by decide), eI26, z_up_k (by decide), eI17, z_up_k (by decide)]; exact hmg)
          have k78 : 0 ≤ (I64 0 15).toInt ∧ (I64 0 15).toInt ≤ 6100 := by rw [fI64 0 15 (by decide)]; exact (by show 0 ≤ (I53 0 15).toInt ∧ (I53 0 15).toInt ≤ 6100; rw [eI53, z_up_k (by decide), eI44, z_up_k (by decide), eI35, z_up_k (by decide), eI26, z_up_k (by decide), eI17, z_up_k (by decide)]; exact hmn)
          have k79 : 0 ≤ (I64 0 35).toInt ∧ (I64 0 35).toInt ≤ (I64 0 34).toInt ∧ (I64 0 34).toInt ≤ (I64 0 33).toInt ∧ (I64 0 33).toInt ≤ 500 ∧ ((I64 0 36).toInt = 0 ∨ (I64 0 35).toInt + 1 ≤ (I64 0 34).toInt) := hI64rp
          have k80 : (I64 0 42).toInt = 0 := by rw [fI64 0 42 (by decide), eI53, z_up_s]; exact z_l0
          have k81 : (I64 0 47).toInt = (I 0 47).toInt := by rw [fI64 0 47 (by decide), eI53, z_up_k (by decide), eI44, z_up_k (by decide), eI35, z_up_k (by decide), eI26, z_up_k (by decide), eI17, z_up_k (by decide)]
          have k82 : (I64 0 39).toInt = (I 0 39).toInt := by rw [fI64 0 39 (by decide), eI53, z_up_k (by decide), eI44, z_up_k (by decide), eI35, z_up_k (by decide), eI26, z_up_k (by decide), eI17, z_up_k (by decide)]
          have k83 : (I64 0 15).toInt = (I 0 15).toInt := by rw [fI64 0 15 (by decide), eI53, z_up_k (by decide), eI44, z_up_k (by decide), eI35, z_up_k (by decide), eI26, z_up_k (by decide), eI17, z_up_k (by decide)]
          have k84 : (I64 0 40).toInt = (I 0 40).toInt := by rw [fI64 0 40 (by decide), eI53, z_up_k (by decide), eI44, z_up_k (by decide), eI35, z_up_k (by decide), eI26, z_up_k (by decide), eI17, z_up_k (by decide)]
          have k85 : (I64 0 14).toInt = (I 0 14).toInt := by rw [fI64 0 14 (by decide), eI53, z_up_k (by decide), eI44, z_up_k (by decide), eI35, z_up_k (by decide), eI26, z_up_k (by decide), eI17, z_up_k (by decide)]
          have k86 : (I64 0 13).toInt = (I 0 13).toInt := by rw [fI64 0 13 (by decide), eI53, z_up_k (by decide), eI44, z_up_k (by decide), eI35, z_up_k (by decide), eI26, z_up_k (by decide), eI17, z_up_k (by decide)]
          have h87 := hp
          rw [show (I53 0 34) = 0 from by rw [eI53, z_up_k (by decide), eI44, z_up_k (by decide), eI35, z_up_s]] at h87
          have lp88 : ∀ (f : Nat)  (I89 : z_I) (J90 : z_J) (H : Heap) (locs : List Loc) (ls : Array Slot), ((¬ (I89 0 42).toInt = 0 ∧ 1 ≤ (f : Int)) ∨ (26 - ((I89 0 14).toInt - (I 0 14).toInt) ≤ (f : Int) ∧ 0 ≤ ((I89 0 14).toInt - (I 0 14).toInt) ∧ ((I89 0 14).toInt - (I 0 14).toInt) ≤ 24 ∧ 1010 * (500 - (I89 0 35).toInt) + 1000 * (I89 0 15).toInt ≤ 505000 + 1000 * (I 0 15).toInt + 20 * ((I89 0 14).toInt - (I 0 14).toInt))) → (z_ima I89) → (z_imb I89) → (z_imp I89) → (z_imt I89) → (z_imd I89) → (z_img I89) → (z_imn I89) → (z_Nd I89) → (z_rg 11 0 288 I89) → (z_rg 12 0 24 I89) → (z_rg 19 0 6200 I89) → (z_rg 20 0 6200 I89) → (z_rg 18 (-1) 6199 I89) → (z_Ex I89) → (z_irp I89) → ((I89 0 13).toInt = (I 0 13).toInt) → (z_fr L_X12_orders I89 I) → z_W G A (shM, ad, I89, J90, PM ad) H → va_S A s.heap H locs → lv_has ls 5 [(4, .int (I 0 15)), (3, .int (I 0 14)), (0, .ref (ad 0)), (1, .int a1), (2, .int a2)] → W p l e (headSpec wsX12_orders { frames := 7, cells := 0, slots := 0, locals := 143 }).room s m ([.ref (ad 0), .int a1, .int a2] : List Value).toArray below meth c0 H locs 0 0 (MQ below (va_Qi (fun (r : Int32) (u1 : z_U) => ∃ (I1 : z_I) (J1 : z_J), u1 = (shM, ad, I1, J1, PM ad) ∧ z_ima I1 ∧ z_imb I1 ∧ z_imp I1 ∧ z_imt I1 ∧ z_imd I1 ∧ z_img I1 ∧ z_imn I1 ∧ z_Nd I1 ∧ z_rg 11 0 288 I1 ∧ z_rg 12 0 24 I1 ∧ z_rg 19 0 6200 I1 ∧ z_rg 20 0 6200 I1 ∧ z_rg 18 (-1) 6199 I1 ∧ z_Ex I1 ∧ z_iro I1 ∧ z_fr L_X12_orders I1 I) (z_B G A) A) ([.ref (ad 0), .int a1, .int a2] : List Value).toArray s 0 0 A) (F0 m 74 ls []) := by
            intro f
            induction f with
            | zero => intro  I89 J90 H locs ls lp88m lp88ma lp88mb lp88mp lp88mt lp88md lp88mg lp88mn lp88Nd lp88Atf lp88Atm lp88Asf lp88Ast lp88Asc lp88Ex lp88rp lp88T lp88fr hW hS hl; exact False.elim (by omega)
            | succ f lp88ih =>
              intro  I89 J90 H locs ls lp88m lp88ma lp88mb lp88mp lp88mt lp88md lp88mg lp88mn lp88Nd lp88Atf lp88Atm lp88Asf lp88Ast lp88Asc lp88Ex lp88rp lp88T lp88fr hW hS hl
              have k91 : 0 ≤ (I89 0 35).toInt ∧ (I89 0 35).toInt ≤ (I89 0 34).toInt ∧ (I89 0 34).toInt ≤ (I89 0 33).toInt ∧ (I89 0 33).toInt ≤ 500 ∧ ((I89 0 36).toInt = 0 ∨ (I89 0 35).toInt + 1 ≤ (I89 0 34).toInt) := lp88rp
              refine lv_aload_n hx hb dX12_orders_74 rfl (lv_at hl 2 rfl) ?_
              have r92 : 0 ≤ (I89 0 36).toInt ∧ (I89 0 36).toInt ≤ 4 := lp88mt.1
              refine z_get (T := TX12) (N := 96) (ci := 12) (i := 0) (v := .int (I89 0 36)) hx hb hts zj_X12_orders_X12 hown hK hW rfl rfl 36 (by decide) (hts (.fieldLink RX12 281 "PetrolBoardModel" "token" "I") (me_s (me_l (me_l (List.mem_of_getElem? (i := 8) rfl))))) (fun _ h => h) rfl dX12_orders_75 ?_
              refine lv_if_eq (tgt := 134) hx hb dX12_orders_78 (by decide) (fun c93 => ?_) (fun c93 => ?_)
              · have g94 := z_f_eq rfl z_l0 c93
                refine lv_aload_n hx hb dX12_orders_134 rfl (lv_at hl 2 rfl) ?_
                have r95 : 0 ≤ (I89 0 42).toInt ∧ (I89 0 42).toInt ≤ 1 := lp88mt.2
                refine z_get (T := TX12) (N := 96) (ci := 12) (i := 0) (v := .int (I89 0 42)) hx hb hts zj_X12_orders_X12 hown hK hW rfl rfl 42 (by decide) (hts (.fieldLink RX12 294 "PetrolBoardModel" "isWrong" "Z") (me_s (me_l (me_l (List.mem_of_getElem? (i := 5) rfl))))) (fun _ h => h) rfl dX12_orders_135 ?_
                refine lv_if_eq (tgt := 154) hx hb dX12_orders_138 (by decide) (fun c96 => ?_) (fun c96 => ?_)
                · have g97 := z_f_eq rfl z_l0 c96
                  refine lv_aload_n hx hb dX12_orders_154 rfl (lv_at hl 2 rfl) ?_
                  refine z_get (T := TX12) (N := 96) (ci := 12) (i := 0) (v := .ref (ad 11)) hx hb hts zj_X12_orders_X12 hown hK hW rfl rfl 16 (by decide) (hts (.fieldLink RX12 40 "PetrolBoardModel" "textFirst" "[I") (me_s (me_l (me_l (List.mem_of_getElem? (i := 9) rfl))))) (fun _ h => h) rfl dX12_orders_155 ?_
                  refine lv_aload_n hx hb dX12_orders_158 rfl (lv_at hl 2 rfl) ?_
                  have r98 : 0 ≤ (I89 0 13).toInt ∧ (I89 0 13).toInt ≤ 12 := lp88mb.1
                  refine z_get (T := TX12) (N := 96) (ci := 12) (i := 0) (v := .int (I89 0 13)) hx hb hts zj_X12_orders_X12 hown hK hW rfl rfl 13 (by decide) (hts (.fieldLink RX12 408 "PetrolBoardModel" "texts" "I") (me_s (me_l (me_l (List.mem_of_getElem? (i := 1) rfl))))) (fun _ h => h) rfl dX12_orders_159 ?_
                  refine lv_iload_n hx hb dX12_orders_162 rfl (lv_at hl 1 rfl) ?_
                  refine z_iast (i := 11) hx hb hK hW hS rfl (z_ix rfl (by omega) (by omega)) dX12_orders_163 (fun H locs hz1 hW hS => ?_)
                  obtain ⟨I99, eI99⟩ : ∃ K : z_I, K = z_up I89 11 (I89 0 13).toNatClampNeg (I 0 14) := ⟨_, rfl⟩
                  rw [← eI99] at hW
                  have f100 := z_fr_a lp88fr (show z_wa L_X12_orders 11 = true by decide) eI99
                  have a101 := z_Nd_n lp88Nd (by decide) eI99
                  have a102 := z_rg_a lp88Atf (by omega) eI99
                  have a103 := z_rg_n lp88Atm (by decide) eI99
                  have a104 := z_rg_n lp88Asf (by decide) eI99
                  have a105 := z_rg_n lp88Ast (by decide) eI99
                  have a106 := z_rg_n lp88Asc (by decide) eI99
                  have a107 := z_Ex_n lp88Ex (by decide) eI99
                  refine lv_aload_n hx hb dX12_orders_164 rfl (lv_at hl 2 rfl) ?_
                  refine z_get (T := TX12) (N := 96) (ci := 12) (i := 0) (v := .ref (ad 12)) hx hb hts zj_X12_orders_X12 hown hK hW rfl rfl 17 (by decide) (hts (.fieldLink RX12 43 "PetrolBoardModel" "textMany" "[I") (me_s (me_l (me_l (List.mem_of_getElem? (i := 10) rfl))))) (fun _ h => h) rfl dX12_orders_165 ?_
                  refine lv_aload_n hx hb dX12_orders_168 rfl (lv_at hl 2 rfl) ?_
                  refine z_get (T := TX12) (N := 96) (ci := 12) (i := 0) (v := .int (I89 0 13)) hx hb hts zj_X12_orders_X12 hown hK hW rfl rfl 13 (by decide) (hts (.fieldLink RX12 408 "PetrolBoardModel" "texts" "I") (me_s (me_l (me_l (List.mem_of_getElem? (i := 1) rfl))))) (fun _ h => h) (congrArg Value.int (by rw [eI99, z_up_n (by decide)])) dX12_orders_169 ?_
                  refine lv_aload_n hx hb dX12_orders_172 rfl (lv_at hl 2 rfl) ?_
                  have r108 : 0 ≤ (I89 0 14).toInt ∧ (I89 0 14).toInt ≤ 288 := lp88mb.2
                  refine z_get (T := TX12) (N := 96) (ci := 12) (i := 0) (v := .int (I89 0 14)) hx hb hts zj_X12_orders_X12 hown hK hW rfl rfl 14 (by decide) (hts (.fieldLink RX12 411 "PetrolBoardModel" "statements" "I") (me_s (me_l (me_l (List.mem_of_getElem? (i := 6) rfl))))) (fun _ h => h) (congrArg Value.int (by rw [eI99, z_up_n (by decide)])) dX12_orders_173 ?_
                  refine lv_iload_n hx hb dX12_orders_176 rfl (lv_at hl 1 rfl) ?_
                  refine lv_isub hx hb dX12_orders_177 ?_
                  refine lv_topi (fun x109 ex109 => ?_)
                  have tx109 : x109.toInt = (I89 0 14).toInt - (I 0 14).toInt := z_tsub ex109 rfl rfl (by omega) (by omega)
                  refine z_iast (i := 12) hx hb hK hW hS rfl (z_ix rfl (by omega) (by omega)) dX12_orders_178 (fun H locs hz1 hW hS => ?_)
                  obtain ⟨I110, eI110⟩ : ∃ K : z_I, K = z_up I99 12 (I89 0 13).toNatClampNeg x109 := ⟨_, rfl⟩
                  rw [← eI110] at hW
                  have f111 := z_fr_a f100 (show z_wa L_X12_orders 12 = true by decide) eI110
                  have a112 := z_Nd_n a101 (by decide) eI110
                  have a113 := z_rg_n a102 (by decide) eI110
                  have a114 := z_rg_a a103 (by omega) eI110
                  have a115 := z_rg_n a104 (by decide) eI110
                  have a116 := z_rg_n a105 (by decide) eI110
                  have a117 := z_rg_n a106 (by decide) eI110
                  have a118 := z_Ex_n a107 (by decide) eI110
                  refine lv_aload_n hx hb dX12_orders_179 rfl (lv_at hl 2 rfl) ?_
                  refine z_get (T := TX12) (N := 96) (ci := 12) (i := 0) (v := .ref (ad 13)) hx hb hts zj_X12_orders_X12 hown hK hW rfl rfl 18 (by decide) (hts (.fieldLink RX12 46 "PetrolBoardModel" "textMonth" "[I") (me_s (me_l (me_l (List.mem_of_getElem? (i := 11) rfl))))) (fun _ h => h) rfl dX12_orders_180 ?_
                  refine lv_aload_n hx hb dX12_orders_183 rfl (lv_at hl 2 rfl) ?_
                  refine z_get (T := TX12) (N := 96) (ci := 12) (i := 0) (v := .int (I89 0 13)) hx hb hts zj_X12_orders_X12 hown hK hW rfl rfl 13 (by decide) (hts (.fieldLink RX12 408 "PetrolBoardModel" "texts" "I") (me_s (me_l (me_l (List.mem_of_getElem? (i := 1) rfl))))) (fun _ h => h) (congrArg Value.int (by rw [eI110, z_up_n (by decide), eI99, z_up_n (by decide)])) dX12_orders_184 ?_
                  refine lv_iload_n hx hb dX12_orders_187 rfl (lv_at hl 4 rfl) ?_
                  refine z_iast (i := 13) hx hb hK hW hS rfl (z_ix rfl (by omega) (by omega)) dX12_orders_188 (fun H locs hz1 hW hS => ?_)
                  obtain ⟨I119, eI119⟩ : ∃ K : z_I, K = z_up I110 13 (I89 0 13).toNatClampNeg a2 := ⟨_, rfl⟩
                  rw [← eI119] at hW
                  have f120 := z_fr_a f111 (show z_wa L_X12_orders 13 = true by decide) eI119
                  have a121 := z_Nd_n a112 (by decide) eI119
                  have a122 := z_rg_n a113 (by decide) eI119
                  have a123 := z_rg_n a114 (by decide) eI119
                  have a124 := z_rg_n a115 (by decide) eI119
                  have a125 := z_rg_n a116 (by decide) eI119
                  have a126 := z_rg_n a117 (by decide) eI119
                  have a127 := z_Ex_n a118 (by decide) eI119
                  refine lv_aload_n hx hb dX12_orders_189 rfl (lv_at hl 2 rfl) ?_
                  refine z_get (T := TX12) (N := 96) (ci := 12) (i := 0) (v := .ref (ad 14)) hx hb hts zj_X12_orders_X12 hown hK hW rfl rfl 19 (by decide) (hts (.fieldLink RX12 49 "PetrolBoardModel" "textTold" "[I") (me_s (me_l (me_l (List.mem_of_getElem? (i := 12) rfl))))) (fun _ h => h) rfl dX12_orders_190 ?_
                  refine lv_aload_n hx hb dX12_orders_193 rfl (lv_at hl 2 rfl) ?_
                  refine z_get (T := TX12) (N := 96) (ci := 12) (i := 0) (v := .int (I89 0 13)) hx hb hts zj_X12_orders_X12 hown hK hW rfl rfl 13 (by decide) (hts (.fieldLink RX12 408 "PetrolBoardModel" "texts" "I") (me_s (me_l (me_l (List.mem_of_getElem? (i := 1) rfl))))) (fun _ h => h) (congrArg Value.int (by rw [eI119, z_up_n (by decide), eI110, z_up_n (by decide), eI99, z_up_n (by decide)])) dX12_orders_194 ?_
                  refine lv_aload_n hx hb dX12_orders_197 rfl (lv_at hl 2 rfl) ?_
                  have r128 : 0 ≤ (I89 0 0).toInt ∧ (I89 0 0).toInt ≤ 719 := lp88ma.1
                  refine z_get (T := TX12) (N := 96) (ci := 12) (i := 0) (v := .int (I89 0 0)) hx hb hts zj_X12_orders_X12 hown hK hW rfl rfl 0 (by decide) (hts (.fieldLink RX12 232 "PetrolBoardModel" "today" "I") (me_s (me_l (me_l (List.mem_of_getElem? (i := 13) rfl))))) (fun _ h => h) (congrArg Value.int (by rw [eI119, z_up_n (by decide), eI110, z_up_n (by decide), eI99, z_up_n (by decide)])) dX12_orders_198 ?_
                  refine z_iast (i := 14) hx hb hK hW hS rfl (z_ix rfl (by omega) (by omega)) dX12_orders_201 (fun H locs hz1 hW hS => ?_)
                  obtain ⟨I129, eI129⟩ : ∃ K : z_I, K = z_up I119 14 (I89 0 13).toNatClampNeg (I89 0 0) := ⟨_, rfl⟩
                  rw [← eI129] at hW
                  have f130 := z_fr_a f120 (show z_wa L_X12_orders 14 = true by decide) eI129
                  have a131 := z_Nd_n a121 (by decide) eI129
                  have a132 := z_rg_n a122 (by decide) eI129
                  have a133 := z_rg_n a123 (by decide) eI129
                  have a134 := z_rg_n a124 (by decide) eI129
                  have a135 := z_rg_n a125 (by decide) eI129
                  have a136 := z_rg_n a126 (by decide) eI129
                  have a137 := z_Ex_n a127 (by decide) eI129
                  refine lv_aload_n hx hb dX12_orders_202 rfl (lv_at hl 2 rfl) ?_
                  refine lv_dup hx hb dX12_orders_203 rfl ?_
                  refine z_get (T := TX12) (N := 96) (ci := 12) (i := 0) (v := .int (I89 0 13)) hx hb hts zj_X12_orders_X12 hown hK hW rfl rfl 13 (by decide) (hts (.fieldLink RX12 408 "PetrolBoardModel" "texts" "I") (me_s (me_l (me_l (List.mem_of_getElem? (i := 1) rfl))))) (fun _ h => h) (congrArg Value.int (by rw [eI129, z_up_n (by decide), eI119, z_up_n (by decide), eI110, z_up_n (by decide), eI99, z_up_n (by decide)])) dX12_orders_204 ?_
                  refine lv_iconst (v := 1) hx hb dX12_orders_207 (by decide) ?_
                  refine lv_iadd hx hb dX12_orders_208 ?_
                  refine lv_topi (fun x138 ex138 => ?_)
                  have tx138 : x138.toInt = (I89 0 13).toInt + 1 := z_tadd ex138 rfl z_l1 (by omega) (by omega)
                  refine z_put (T := TX12) (N := 96) (ci := 12) (i := 0) (v := .int x138) (I1 := z_up I129 0 13 x138) (J1 := J90) (P1 := PM ad) hx hb hts zj_X12_orders_X12 tyX12 tyX12_ok nmX12 hown hK hW hS rfl rfl 13 (by decide) (hts (.fieldLink RX12 408 "PetrolBoardModel" "texts" "I") (me_s (me_l (me_l (List.mem_of_getElem? (i := 1) rfl))))) (fun _ h => h) rfl rfl rfl (by first | rfl | exact congrArg _ z_up_s) (fun a b h ty => z_vI h ty) dX12_orders_209 (fun H locs hz1 hW hS => ?_)
                  obtain ⟨I139, eI139⟩ : ∃ K : z_I, K = z_up I129 0 13 x138 := ⟨_, rfl⟩
                  rw [← eI139] at hW
                  have f140 := z_fr_k f130 (show z_wr L_X12_orders 0 13 = true by decide) eI139
                  have a141 := z_Nd_n a131 (by decide) eI139
                  have a142 := z_rg_n a132 (by decide) eI139
                  have a143 := z_rg_n a133 (by decide) eI139
                  have a144 := z_rg_n a134 (by decide) eI139
                  have a145 := z_rg_n a135 (by decide) eI139
                  have a146 := z_rg_n a136 (by decide) eI139
                  have a147 := z_Ex_n a137 (by decide) eI139
                  refine lv_aload_n hx hb dX12_orders_212 rfl (lv_at hl 2 rfl) ?_
                  refine z_get (T := TX12) (N := 96) (ci := 12) (i := 0) (v := .int x138) hx hb hts zj_X12_orders_X12 hown hK hW rfl rfl 13 (by decide) (hts (.fieldLink RX12 408 "PetrolBoardModel" "texts" "I") (me_s (me_l (me_l (List.mem_of_getElem? (i := 1) rfl))))) (fun _ h => h) (congrArg Value.int (by rw [eI139, z_up_s])) dX12_orders_213 ?_
                  refine lv_iconst (v := 1) hx hb dX12_orders_216 (by decide) ?_
                  refine lv_isub hx hb dX12_orders_217 ?_
                  refine lv_topi (fun x148 ex148 => ?_)
                  have tx148 : x148.toInt = x138.toInt - 1 := z_tsub ex148 rfl z_l1 (by omega) (by omega)
                  exact z_iret hx hb hr hK hS (Nat.le_of_ble_eq_true rfl) (Nat.le_of_ble_eq_true rfl) hlocks dX12_orders_218 (shM, ad, I139, J90, PM ad) hW ⟨I139, J90, rfl, ⟨(by show 0 ≤ (I139 0 0).toInt ∧ (I139 0 0).toInt ≤ 719; rw [eI139, z_up_k (by decide), eI129, z_up_n (by decide), eI119, z_up_n (by decide), eI110, z_up_n (by decide), eI99, z_up_n (by decide)]; exact lp88ma.1), (by show 0 ≤ (I139 0 1).toInt ∧ (I139 0 1).toInt ≤ 30; rw [eI139, z_up_k (by decide), eI129, z_up_n (by decide), eI119, z_up_n (by decide), eI110, z_up_n (by decide), eI99, z_up_n (by decide)]; exact lp88ma.2.1), (by show 0 ≤ (I139 0 2).toInt ∧ (I139 0 2).toInt ≤ 200; rw [eI139, z_up_k (by decide), eI129, z_up_n (by decide), eI119, z_up_n (by decide), eI110, z_up_n (by decide), eI99, z_up_n (by decide)]; exact lp88ma.2.2)⟩, ⟨(by show 0 ≤ (I139 0 13).toInt ∧ (I139 0 13).toInt ≤ 12; rw [eI139, z_up_s]; omega), (by show 0 ≤ (I139 0 14).toInt ∧ (I139 0 14).toInt ≤ 288; rw [eI139, z_up_k (by decide), eI129, z_up_n (by decide), eI119, z_up_n (by decide), eI110, z_up_n (by decide), eI99, z_up_n (by decide)]; exact lp88mb.2)⟩, ⟨(by show 0 ≤ (I139 0 31).toInt ∧ (I139 0 31).toInt ≤ 500; rw [eI139, z_up_k (by decide), eI129, z_up_n (by decide), eI119, z_up_n (by decide), eI110, z_up_n (by decide), eI99, z_up_n (by decide)]; exact lp88mp.1), (by show 0 ≤ (I139 0 33).toInt ∧ (I139 0 33).toInt ≤ 500; rw [eI139, z_up_k (by decide), eI129, z_up_n (by decide), eI119, z_up_n (by decide), eI110, z_up_n (by decide), eI99, z_up_n (by decide)]; exact lp88mp.2.1), (by show 0 ≤ (I139 0 34).toInt ∧ (I139 0 34).toInt ≤ 500; rw [eI139, z_up_k (by decide), eI129, z_up_n (by decide), eI119, z_up_n (by decide), eI110, z_up_n (by decide), eI99, z_up_n (by decide)]; exact lp88mp.2.2.1), (by show 0 ≤ (I139 0 35).toInt ∧ (I139 0 35).toInt ≤ 500; rw [eI139, z_up_k (by decide), eI129, z_up_n (by decide), eI119, z_up_n (by decide), eI110, z_up_n (by decide), eI99, z_up_n (by decide)]; exact lp88mp.2.2.2)⟩, ⟨(by show 0 ≤ (I139 0 36).toInt ∧ (I139 0 36).toInt ≤ 4; rw [eI139, z_up_k (by decide), eI129, z_up_n (by decide), eI119, z_up_n (by decide), eI110, z_up_n (by decide), eI99, z_up_n (by decide)]; exact lp88mt.1), (by show 0 ≤ (I139 0 42).toInt ∧ (I139 0 42).toInt ≤ 1; rw [eI139, z_up_k (by decide), eI129, z_up_n (by decide), eI119, z_up_n (by decide), eI110, z_up_n (by decide), eI99, z_up_n (by decide)]; exact lp88mt.2)⟩, ⟨(by show 0 ≤ (I139 0 47).toInt ∧ (I139 0 47).toInt ≤ 119; rw [eI139, z_up_k (by decide), eI129, z_up_n (by decide), eI119, z_up_n (by decide), eI110, z_up_n (by decide), eI99, z_up_n (by decide)]; exact lp88md.1), (by show 0 ≤ (I139 0 39).toInt ∧ (I139 0 39).toInt ≤ 100; rw [eI139, z_up_k (by decide), eI129, z_up_n (by decide), eI119, z_up_n (by decide), eI110, z_up_n (by decide), eI99, z_up_n (by decide)]; exact lp88md.2)⟩, (by show 0 ≤ (I139 0 40).toInt ∧ (I139 0 40).toInt ≤ 6199; rw [eI139, z_up_k (by decide), eI129, z_up_n (by decide), eI119, z_up_n (by decide), eI110, z_up_n (by decide), eI99, z_up_n (by decide)]; exact lp88mg), (by show 0 ≤ (I139 0 15).toInt ∧ (I139 0 15).toInt ≤ 6100; rw [eI139, z_up_k (by decide), eI129, z_up_n (by decide), eI119, z_up_n (by decide), eI110, z_up_n (by decide), eI99, z_up_n (by decide)]; exact lp88mn), a141, a142, a143, a144, a145, a146, a147, (by have q0 : (I139 0 13) = x138 := (by rw [eI139, z_up_s]); have q1 : (I139 0 14) = (I89 0 14) := (by rw [eI139, z_up_k (by decide), eI129, z_up_n (by decide), eI119, z_up_n (by decide), eI110, z_up_n (by decide), eI99, z_up_n (by decide)]); have q2 : (I139 0 15) = (I89 0 15) := (by rw [eI139, z_up_k (by decide), eI129, z_up_n (by decide), eI119, z_up_n (by decide), eI110, z_up_n (by decide), eI99, z_up_n (by decide)]); show (I139 0 14).toInt ≤ 24 * (I139 0 13).toInt ∧ (I139 0 15).toInt ≤ 505 * (I139 0 13).toInt; rw [q0, q1, q2]; first | omega | decide), f140⟩
                · have g149 := z_f_ne rfl z_l0 c96
                  refine lv_aload_n hx hb dX12_orders_141 rfl (lv_at hl 2 rfl) ?_
                  refine lv_iload_n hx hb dX12_orders_142 rfl (lv_at hl 1 rfl) ?_
                  refine z_put (T := TX12) (N := 96) (ci := 12) (i := 0) (v := .int (I 0 14)) (I1 := z_up I89 0 14 (I 0 14)) (J1 := J90) (P1 := PM ad) hx hb hts zj_X12_orders_X12 tyX12 tyX12_ok nmX12 hown hK hW hS rfl rfl 14 (by decide) (hts (.fieldLink RX12 411 "PetrolBoardModel" "statements" "I") (me_s (me_l (me_l (List.mem_of_getElem? (i := 6) rfl))))) (fun _ h => h) rfl rfl rfl (by first | rfl | exact congrArg _ z_up_s) (fun a b h ty => z_vI h ty) dX12_orders_143 (fun H locs hz1 hW hS => ?_)
                  obtain ⟨I150, eI150⟩ : ∃ K : z_I, K = z_up I89 0 14 (I 0 14) := ⟨_, rfl⟩
                  rw [← eI150] at hW
                  have f151 := z_fr_k lp88fr (show z_wr L_X12_orders 0 14 = true by decide) eI150
                  have a152 := z_Nd_n lp88Nd (by decide) eI150
                  have a153 := z_rg_n lp88Atf (by decide) eI150
                  have a154 := z_rg_n lp88Atm (by decide) eI150
                  have a155 := z_rg_n lp88Asf (by decide) eI150
                  have a156 := z_rg_n lp88Ast (by decide) eI150
                  have a157 := z_rg_n lp88Asc (by decide) eI150
                  have a158 := z_Ex_n lp88Ex (by decide) eI150
                  refine lv_aload_n hx hb dX12_orders_146 rfl (lv_at hl 2 rfl) ?_
                  refine lv_iload hx hb dX12_orders_147 (lv_at hl 0 rfl) ?_
                  refine z_put (T := TX12) (N := 96) (ci := 12) (i := 0) (v := .int (I 0 15)) (I1 := z_up I150 0 15 (I 0 15)) (J1 := J90) (P1 := PM ad) hx hb hts zj_X12_orders_X12 tyX12 tyX12_ok nmX12 hown hK hW hS rfl rfl 15 (by decide) (hts (.fieldLink RX12 337 "PetrolBoardModel" "nodes" "I") (me_s (me_l (me_l (List.mem_of_getElem? (i := 7) rfl))))) (fun _ h => h) rfl rfl rfl (by first | rfl | exact congrArg _ z_up_s) (fun a b h ty => z_vI h ty) dX12_orders_149 (fun H locs hz1 hW hS => ?_)
                  obtain ⟨I159, eI159⟩ : ∃ K : z_I, K = z_up I150 0 15 (I 0 15) := ⟨_, rfl⟩
                  rw [← eI159] at hW
                  have f160 := z_fr_k f151 (show z_wr L_X12_orders 0 15 = true by decide) eI159
                  have a161 := z_Nd_n a152 (by decide) eI159
                  have a162 := z_rg_n a153 (by decide) eI159
                  have a163 := z_rg_n a154 (by decide) eI159
                  have a164 := z_rg_n a155 (by decide) eI159
                  have a165 := z_rg_n a156 (by decide) eI159
                  have a166 := z_rg_n a157 (by decide) eI159
                  have a167 := z_Ex_n a158 (by decide) eI159
                  refine lv_iconst (v := (-1)) hx hb dX12_orders_152 (by decide) ?_
                  exact z_iret hx hb hr hK hS (Nat.le_of_ble_eq_true rfl) (Nat.le_of_ble_eq_true rfl) hlocks dX12_orders_153 (shM, ad, I159, J90, PM ad) hW ⟨I159, J90, rfl, ⟨(by show 0 ≤ (I159 0 0).toInt ∧ (I159 0 0).toInt ≤ 719; rw [eI159, z_up_k (by decide), eI150, z_up_k (by decide)]; exact lp88ma.1), (by show 0 ≤ (I159 0 1).toInt ∧ (I159 0 1).toInt ≤ 30; rw [eI159, z_up_k (by decide), eI150, z_up_k (by decide)]; exact lp88ma.2.1), (by show 0 ≤ (I159 0 2).toInt ∧ (I159 0 2).toInt ≤ 200; rw [eI159, z_up_k (by decide), eI150, z_up_k (by decide)]; exact lp88ma.2.2)⟩, ⟨(by show 0 ≤ (I159 0 13).toInt ∧ (I159 0 13).toInt ≤ 12; rw [eI159, z_up_k (by decide), eI150, z_up_k (by decide)]; exact lp88mb.1), (by show 0 ≤ (I159 0 14).toInt ∧ (I159 0 14).toInt ≤ 288; rw [eI159, z_up_k (by decide), eI150, z_up_s]; omega)⟩, ⟨(by show 0 ≤ (I159 0 31).toInt ∧ (I159 0 31).toInt ≤ 500; rw [eI159, z_up_k (by decide), eI150, z_up_k (by decide)]; exact lp88mp.1), (by show 0 ≤ (I159 0 33).toInt ∧ (I159 0 33).toInt ≤ 500; rw [eI159, z_up_k (by decide), eI150, z_up_k (by decide)]; exact lp88mp.2.1), (by show 0 ≤ (I159 0 34).toInt ∧ (I159 0 34).toInt ≤ 500; rw [eI159, z_up_k (by decide), eI150, z_up_k (by decide)]; exact lp88mp.2.2.1), (by show 0 ≤ (I159 0 35).toInt ∧ (I159 0 35).toInt ≤ 500; rw [eI159, z_up_k (by decide), eI150, z_up_k (by decide)]; exact lp88mp.2.2.2)⟩, ⟨(by show 0 ≤ (I159 0 36).toInt ∧ (I159 0 36).toInt ≤ 4; rw [eI159, z_up_k (by decide), eI150, z_up_k (by decide)]; exact lp88mt.1), (by show 0 ≤ (I159 0 42).toInt ∧ (I159 0 42).toInt ≤ 1; rw [eI159, z_up_k (by decide), eI150, z_up_k (by decide)]; exact lp88mt.2)⟩, ⟨(by show 0 ≤ (I159 0 47).toInt ∧ (I159 0 47).toInt ≤ 119; rw [eI159, z_up_k (by decide), eI150, z_up_k (by decide)]; exact lp88md.1), (by show 0 ≤ (I159 0 39).toInt ∧ (I159 0 39).toInt ≤ 100; rw [eI159, z_up_k (by decide), eI150, z_up_k (by decide)]; exact lp88md.2)⟩, (by show 0 ≤ (I159 0 40).toInt ∧ (I159 0 40).toInt ≤ 6199; rw [eI159, z_up_k (by decide), eI150, z_up_k (by decide)]; exact lp88mg), (by show 0 ≤ (I159 0 15).toInt ∧ (I159 0 15).toInt ≤ 6100; rw [eI159, z_up_s]; omega), a161, a162, a163, a164, a165, a166, a167, (by have q0 : (I159 0 13) = (I89 0 13) := (by rw [eI159, z_up_k (by decide), eI150, z_up_k (by decide)]); have q1 : (I159 0 14) = (I 0 14) := (by rw [eI159, z_up_k (by decide), eI150, z_up_s]); have q2 : (I159 0 15) = (I 0 15) := (by rw [eI159, z_up_s]); show (I159 0 14).toInt ≤ 24 * (I159 0 13).toInt ∧ (I159 0 15).toInt ≤ 505 * (I159 0 13).toInt; rw [q0, q1, q2]; first | omega | decide), f160⟩
              · have g168 := z_f_ne rfl z_l0 c93
                refine lv_aload_n hx hb dX12_orders_81 rfl (lv_at hl 2 rfl) ?_
                have r169 : 0 ≤ (I89 0 42).toInt ∧ (I89 0 42).toInt ≤ 1 := lp88mt.2
                refine z_get (T := TX12) (N := 96) (ci := 12) (i := 0) (v := .int (I89 0 42)) hx hb hts zj_X12_orders_X12 hown hK hW rfl rfl 42 (by decide) (hts (.fieldLink RX12 294 "PetrolBoardModel" "isWrong" "Z") (me_s (me_l (me_l (List.mem_of_getElem? (i := 5) rfl))))) (fun _ h => h) rfl dX12_orders_82 ?_
                refine lv_if_ne (tgt := 134) hx hb dX12_orders_85 (by decide) (fun c170 => ?_) (fun c170 => ?_)
                · have g171 := z_f_ne rfl z_l0 c170
                  refine lv_aload_n hx hb dX12_orders_134 rfl (lv_at hl 2 rfl) ?_
                  refine z_get (T := TX12) (N := 96) (ci := 12) (i := 0) (v := .int (I89 0 42)) hx hb hts zj_X12_orders_X12 hown hK hW rfl rfl 42 (by decide) (hts (.fieldLink RX12 294 "PetrolBoardModel" "isWrong" "Z") (me_s (me_l (me_l (List.mem_of_getElem? (i := 5) rfl))))) (fun _ h => h) rfl dX12_orders_135 ?_
                  refine lv_if_eq (tgt := 154) hx hb dX12_orders_138 (by decide) (fun c172 => (by have g := z_f_eq rfl z_l0 c172; omega)) (fun c172 => ?_)
                  have g173 := z_f_ne rfl z_l0 c172
                  refine lv_aload_n hx hb dX12_orders_141 rfl (lv_at hl 2 rfl) ?_
                  refine lv_iload_n hx hb dX12_orders_142 rfl (lv_at hl 1 rfl) ?_
                  refine z_put (T := TX12) (N := 96) (ci := 12) (i := 0) (v := .int (I 0 14)) (I1 := z_up I89 0 14 (I 0 14)) (J1 := J90) (P1 := PM ad) hx hb hts zj_X12_orders_X12 tyX12 tyX12_ok nmX12 hown hK hW hS rfl rfl 14 (by decide) (hts (.fieldLink RX12 411 "PetrolBoardModel" "statements" "I") (me_s (me_l (me_l (List.mem_of_getElem? (i := 6) rfl))))) (fun _ h => h) rfl rfl rfl (by first | rfl | exact congrArg _ z_up_s) (fun a b h ty => z_vI h ty) dX12_orders_143 (fun H locs hz1 hW hS => ?_)
                  obtain ⟨I174, eI174⟩ : ∃ K : z_I, K = z_up I89 0 14 (I 0 14) := ⟨_, rfl⟩
                  rw [← eI174] at hW
                  have f175 := z_fr_k lp88fr (show z_wr L_X12_orders 0 14 = true by decide) eI174
                  have a176 := z_Nd_n lp88Nd (by decide) eI174
                  have a177 := z_rg_n lp88Atf (by decide) eI174
                  have a178 := z_rg_n lp88Atm (by decide) eI174
                  have a179 := z_rg_n lp88Asf (by decide) eI174
                  have a180 := z_rg_n lp88Ast (by decide) eI174
                  have a181 := z_rg_n lp88Asc (by decide) eI174
                  have a182 := z_Ex_n lp88Ex (by decide) eI174
                  refine lv_aload_n hx hb dX12_orders_146 rfl (lv_at hl 2 rfl) ?_
                  refine lv_iload hx hb dX12_orders_147 (lv_at hl 0 rfl) ?_
                  refine z_put (T := TX12) (N := 96) (ci := 12) (i := 0) (v := .int (I 0 15)) (I1 := z_up I174 0 15 (I 0 15)) (J1 := J90) (P1 := PM ad) hx hb hts zj_X12_orders_X12 tyX12 tyX12_ok nmX12 hown hK hW hS rfl rfl 15 (by decide) (hts (.fieldLink RX12 337 "PetrolBoardModel" "nodes" "I") (me_s (me_l (me_l (List.mem_of_getElem? (i := 7) rfl))))) (fun _ h => h) rfl rfl rfl (by first | rfl | exact congrArg _ z_up_s) (fun a b h ty => z_vI h ty) dX12_orders_149 (fun H locs hz1 hW hS => ?_)
                  obtain ⟨I183, eI183⟩ : ∃ K : z_I, K = z_up I174 0 15 (I 0 15) := ⟨_, rfl⟩
                  rw [← eI183] at hW
                  have f184 := z_fr_k f175 (show z_wr L_X12_orders 0 15 = true by decide) eI183
                  have a185 := z_Nd_n a176 (by decide) eI183
                  have a186 := z_rg_n a177 (by decide) eI183
                  have a187 := z_rg_n a178 (by decide) eI183
                  have a188 := z_rg_n a179 (by decide) eI183
                  have a189 := z_rg_n a180 (by decide) eI183
                  have a190 := z_rg_n a181 (by decide) eI183
                  have a191 := z_Ex_n a182 (by decide) eI183
                  refine lv_iconst (v := (-1)) hx hb dX12_orders_152 (by decide) ?_
                  exact z_iret hx hb hr hK hS (Nat.le_of_ble_eq_true rfl) (Nat.le_of_ble_eq_true rfl) hlocks dX12_orders_153 (shM, ad, I183, J90, PM ad) hW ⟨I183, J90, rfl, ⟨(by show 0 ≤ (I183 0 0).toInt ∧ (I183 0 0).toInt ≤ 719; rw [eI183, z_up_k (by decide), eI174, z_up_k (by decide)]; exact lp88ma.1), (by show 0 ≤ (I183 0 1).toInt ∧ (I183 0 1).toInt ≤ 30; rw [eI183, z_up_k (by decide), eI174, z_up_k (by decide)]; exact lp88ma.2.1), (by show 0 ≤ (I183 0 2).toInt ∧ (I183 0 2).toInt ≤ 200; rw [eI183, z_up_k (by decide), eI174, z_up_k (by decide)]; exact lp88ma.2.2)⟩, ⟨(by show 0 ≤ (I183 0 13).toInt ∧ (I183 0 13).toInt ≤ 12; rw [eI183, z_up_k (by decide), eI174, z_up_k (by decide)]; exact lp88mb.1), (by show 0 ≤ (I183 0 14).toInt ∧ (I183 0 14).toInt ≤ 288; rw [eI183, z_up_k (by decide), eI174, z_up_s]; omega)⟩, ⟨(by show 0 ≤ (I183 0 31).toInt ∧ (I183 0 31).toInt ≤ 500; rw [eI183, z_up_k (by decide), eI174, z_up_k (by decide)]; exact lp88mp.1), (by show 0 ≤ (I183 0 33).toInt ∧ (I183 0 33).toInt ≤ 500; rw [eI183, z_up_k (by decide), eI174, z_up_k (by decide)]; exact lp88mp.2.1), (by show 0 ≤ (I183 0 34).toInt ∧ (I183 0 34).toInt ≤ 500; rw [eI183, z_up_k (by decide), eI174, z_up_k (by decide)]; exact lp88mp.2.2.1), (by show 0 ≤ (I183 0 35).toInt ∧ (I183 0 35).toInt ≤ 500; rw [eI183, z_up_k (by decide), eI174, z_up_k (by decide)]; exact lp88mp.2.2.2)⟩, ⟨(by show 0 ≤ (I183 0 36).toInt ∧ (I183 0 36).toInt ≤ 4; rw [eI183, z_up_k (by decide), eI174, z_up_k (by decide)]; exact lp88mt.1), (by show 0 ≤ (I183 0 42).toInt ∧ (I183 0 42).toInt ≤ 1; rw [eI183, z_up_k (by decide), eI174, z_up_k (by decide)]; exact lp88mt.2)⟩, ⟨(by show 0 ≤ (I183 0 47).toInt ∧ (I183 0 47).toInt ≤ 119; rw [eI183, z_up_k (by decide), eI174, z_up_k (by decide)]; exact lp88md.1), (by show 0 ≤ (I183 0 39).toInt ∧ (I183 0 39).toInt ≤ 100; rw [eI183, z_up_k (by decide), eI174, z_up_k (by decide)]; exact lp88md.2)⟩, (by show 0 ≤ (I183 0 40).toInt ∧ (I183 0 40).toInt ≤ 6199; rw [eI183, z_up_k (by decide), eI174, z_up_k (by decide)]; exact lp88mg), (by show 0 ≤ (I183 0 15).toInt ∧ (I183 0 15).toInt ≤ 6100; rw [eI183, z_up_s]; omega), a185, a186, a187, a188, a189, a190, a191, (by have q0 : (I183 0 13) = (I89 0 13) := (by rw [eI183, z_up_k (by decide), eI174, z_up_k (by decide)]); have q1 : (I183 0 14) = (I 0 14) := (by rw [eI183, z_up_k (by decide), eI174, z_up_s]); have q2 : (I183 0 15) = (I 0 15) := (by rw [eI183, z_up_s]); show (I183 0 14).toInt ≤ 24 * (I183 0 13).toInt ∧ (I183 0 15).toInt ≤ 505 * (I183 0 13).toInt; rw [q0, q1, q2]; first | omega | decide), f184⟩
                · have g192 := z_f_eq rfl z_l0 c170
                  refine lv_aload_n hx hb dX12_orders_88 rfl (lv_at hl 2 rfl) ?_
                  have r193 : 0 ≤ (I89 0 14).toInt ∧ (I89 0 14).toInt ≤ 288 := lp88mb.2
                  refine z_get (T := TX12) (N := 96) (ci := 12) (i := 0) (v := .int (I89 0 14)) hx hb hts zj_X12_orders_X12 hown hK hW rfl rfl 14 (by decide) (hts (.fieldLink RX12 411 "PetrolBoardModel" "statements" "I") (me_s (me_l (me_l (List.mem_of_getElem? (i := 6) rfl))))) (fun _ h => h) rfl dX12_orders_89 ?_
                  refine lv_iload_n hx hb dX12_orders_92 rfl (lv_at hl 1 rfl) ?_
                  refine lv_isub hx hb dX12_orders_93 ?_
                  refine lv_topi (fun x194 ex194 => ?_)
                  have tx194 : x194.toInt = (I89 0 14).toInt - (I 0 14).toInt := z_tsub ex194 rfl rfl (by omega) (by omega)
                  refine lv_bipush (v := 24) hx hb dX12_orders_94 (by decide) ?_
                  refine lv_icmp_ne (tgt := 106) hx hb dX12_orders_96 (by decide) (fun c195 => ?_) (fun c195 => ?_)
                  · have g196 := z_f_ne rfl z_l24 c195
                    refine lv_aload_n hx hb dX12_orders_106 rfl (lv_at hl 2 rfl) ?_
                    refine lv_aload_n hx hb dX12_orders_107 rfl (lv_at hl 2 rfl) ?_
                    refine z_get (T := TX12) (N := 96) (ci := 12) (i := 0) (v := .int (I89 0 14)) hx hb hts zj_X12_orders_X12 hown hK hW rfl rfl 14 (by decide) (hts (.fieldLink RX12 411 "PetrolBoardModel" "statements" "I") (me_s (me_l (me_l (List.mem_of_getElem? (i := 6) rfl))))) (fun _ h => h) rfl dX12_orders_108 ?_
                    refine z_cv hW hS hA (va_runV (As := [.int (I89 0 14)]) (rest := []) ⟨hx, hb, hml, hown, hts⟩ (sx_X12_statement l G ad I89 J90 ⟨(by show 0 ≤ (I89 0 31).toInt ∧ (I89 0 31).toInt ≤ 500; exact lp88mp.1), (by show 0 ≤ (I89 0 33).toInt ∧ (I89 0 33).toInt ≤ 500; exact lp88mp.2.1), (by show 0 ≤ (I89 0 34).toInt ∧ (I89 0 34).toInt ≤ 500; exact lp88mp.2.2.1), (by show 0 ≤ (I89 0 35).toInt ∧ (I89 0 35).toInt ≤ 500; exact lp88mp.2.2.2)⟩ ⟨(by show 0 ≤ (I89 0 36).toInt ∧ (I89 0 36).toInt ≤ 4; exact lp88mt.1), (by show 0 ≤ (I89 0 42).toInt ∧ (I89 0 42).toInt ≤ 1; exact lp88mt.2)⟩ ⟨(by show 0 ≤ (I89 0 47).toInt ∧ (I89 0 47).toInt ≤ 119; exact lp88md.1), (by show 0 ≤ (I89 0 39).toInt ∧ (I89 0 39).toInt ≤ 100; exact lp88md.2)⟩ (by show 0 ≤ (I89 0 40).toInt ∧ (I89 0 40).toInt ≤ 6199; exact lp88mg) (by show 0 ≤ (I89 0 15).toInt ∧ (I89 0 15).toInt ≤ 6100; exact lp88mn) lp88Nd (by show 0 ≤ (I89 0 35).toInt ∧ (I89 0 35).toInt ≤ (I89 0 34).toInt ∧ (I89 0 34).toInt ≤ (I89 0 33).toInt ∧ (I89 0 33).toInt ≤ 500 ∧ ((I89 0 36).toInt = 0 ∨ (I89 0 35).toInt + 1 ≤ (I89 0 34).toInt); first | omega | decide) lp88Asf lp88Ast lp88Asc lp88Ex (I89 0 14) (by first | omega | decide) (by show 1010 * (500 - (I89 0 35).toInt) + 1000 * (I89 0 15).toInt + 20 ≤ 6100000; omega) _) (cwV 1 hts gX12_orders_X12_statement rfl rfl rfl hy_X12_statement ⟨Nat.le_of_ble_eq_true rfl, Nat.le_of_ble_eq_true rfl⟩) (z_preV (i := 0) hK hW rfl rfl) rfl rfl hl.1 rfl (lv_room (Nat.le_of_ble_eq_true rfl)) dX12_orders_111 ⟨Nat.le_of_ble_eq_true rfl, Nat.le_of_ble_eq_true rfl⟩) (fun u1 H locs hp hW hS => ?_)
                    obtain ⟨I197, J199, e9, hI197mp, hI197mt, hI197md, hI197mg, hI197mn, hI197Nd, hI197rp, hI197Asf, hI197Ast, hI197Asc, hI197Ex, fI197, hp⟩ := hp
                    rw [e9] at hW
                    have f198 := z_fr_sub (L := L_X12_orders) lp88fr fI197 (by decide)
                    have k200 : 0 ≤ (I197 0 0).toInt ∧ (I197 0 0).toInt ≤ 719 := by rw [fI197 0 0 (by decide)]; exact (by show 0 ≤ (I89 0 0).toInt ∧ (I89 0 0).toInt ≤ 719; exact lp88ma.1)
                    have k201 : 0 ≤ (I197 0 1).toInt ∧ (I197 0 1).toInt ≤ 30 := by rw [fI197 0 1 (by decide)]; exact (by show 0 ≤ (I89 0 1).toInt ∧ (I89 0 1).toInt ≤ 30; exact lp88ma.2.1)
                    have k202 : 0 ≤ (I197 0 2).toInt ∧ (I197 0 2).toInt ≤ 200 := by rw [fI197 0 2 (by decide)]; exact (by show 0 ≤ (I89 0 2).toInt ∧ (I89 0 2).toInt ≤ 200; exact lp88ma.2.2)
                    have k203 : 0 ≤ (I197 0 13).toInt ∧ (I197 0 13).toInt ≤ 12 := by rw [fI197 0 13 (by decide)]; exact (by show 0 ≤ (I89 0 13).toInt ∧ (I89 0 13).toInt ≤ 12; exact lp88mb.1)
                    have k204 : 0 ≤ (I197 0 14).toInt ∧ (I197 0 14).toInt ≤ 288 := by rw [fI197 0 14 (by decide)]; exact (by show 0 ≤ (I89 0 14).toInt ∧ (I89 0 14).toInt ≤ 288; exact lp88mb.2)
                    have k205 : 0 ≤ (I197 0 35).toInt ∧ (I197 0 35).toInt ≤ (I197 0 34).toInt ∧ (I197 0 34).toInt ≤ (I197 0 33).toInt ∧ (I197 0 33).toInt ≤ 500 ∧ ((I197 0 36).toInt = 0 ∨ (I197 0 35).toInt + 1 ≤ (I197 0 34).toInt) := hI197rp
                    have k206 : (I197 0 14).toInt = (I89 0 14).toInt := by rw [fI197 0 14 (by decide)]
                    have k207 : (I197 0 13).toInt = (I89 0 13).toInt := by rw [fI197 0 13 (by decide)]
                    have h208 := hp
                    refine lv_aload_n hx hb dX12_orders_114 rfl (lv_at hl 2 rfl) ?_
                    have r209 : 0 ≤ (I197 0 42).toInt ∧ (I197 0 42).toInt ≤ 1 := hI197mt.2
                    refine z_get (T := TX12) (N := 96) (ci := 12) (i := 0) (v := .int (I197 0 42)) hx hb hts zj_X12_orders_X12 hown hK hW rfl rfl 42 (by decide) (hts (.fieldLink RX12 294 "PetrolBoardModel" "isWrong" "Z") (me_s (me_l (me_l (List.mem_of_getElem? (i := 5) rfl))))) (fun _ h => h) rfl dX12_orders_115 ?_
                    refine lv_if_ne (tgt := 74) hx hb dX12_orders_118 (by decide) (fun c210 => ?_) (fun c210 => ?_)
                    · have g211 := z_f_ne rfl z_l0 c210
                      exact lp88ih  I197 J199 _ _ _ (by show (¬ (I197 0 42).toInt = 0 ∧ 1 ≤ (f : Int)) ∨ (26 - ((I197 0 14).toInt - (I 0 14).toInt) ≤ (f : Int) ∧ 0 ≤ ((I197 0 14).toInt - (I 0 14).toInt) ∧ ((I197 0 14).toInt - (I 0 14).toInt) ≤ 24 ∧ 1010 * (500 - (I197 0 35).toInt) + 1000 * (I197 0 15).toInt ≤ 505000 + 1000 * (I 0 15).toInt + 20 * ((I197 0 14).toInt - (I 0 14).toInt)); omega) ⟨(by show 0 ≤ (I197 0 0).toInt ∧ (I197 0 0).toInt ≤ 719; exact k200), (by show 0 ≤ (I197 0 1).toInt ∧ (I197 0 1).toInt ≤ 30; exact k201), (by show 0 ≤ (I197 0 2).toInt ∧ (I197 0 2).toInt ≤ 200; exact k202)⟩ ⟨(by show 0 ≤ (I197 0 13).toInt ∧ (I197 0 13).toInt ≤ 12; exact k203), (by show 0 ≤ (I197 0 14).toInt ∧ (I197 0 14).toInt ≤ 288; exact k204)⟩ ⟨(by show 0 ≤ (I197 0 31).toInt ∧ (I197 0 31).toInt ≤ 500; exact hI197mp.1), (by show 0 ≤ (I197 0 33).toInt ∧ (I197 0 33).toInt ≤ 500; exact hI197mp.2.1), (by show 0 ≤ (I197 0 34).toInt ∧ (I197 0 34).toInt ≤ 500; exact hI197mp.2.2.1), (by show 0 ≤ (I197 0 35).toInt ∧ (I197 0 35).toInt ≤ 500; exact hI197mp.2.2.2)⟩ ⟨(by show 0 ≤ (I197 0 36).toInt ∧ (I197 0 36).toInt ≤ 4; exact hI197mt.1), (by show 0 ≤ (I197 0 42).toInt ∧ (I197 0 42).toInt ≤ 1; exact hI197mt.2)⟩ ⟨(by show 0 ≤ (I197 0 47).toInt ∧ (I197 0 47).toInt ≤ 119; exact hI197md.1), (by show 0 ≤ (I197 0 39).toInt ∧ (I197 0 39).toInt ≤ 100; exact hI197md.2)⟩ (by show 0 ≤ (I197 0 40).toInt ∧ (I197 0 40).toInt ≤ 6199; exact hI197mg) (by show 0 ≤ (I197 0 15).toInt ∧ (I197 0 15).toInt ≤ 6100; exact hI197mn) hI197Nd (z_rg_fr lp88Atf fI197 (by decide)) (z_rg_fr lp88Atm fI197 (by decide)) hI197Asf hI197Ast hI197Asc hI197Ex (by show 0 ≤ (I197 0 35).toInt ∧ (I197 0 35).toInt ≤ (I197 0 34).toInt ∧ (I197 0 34).toInt ≤ (I197 0 33).toInt ∧ (I197 0 33).toInt ≤ 500 ∧ ((I197 0 36).toInt = 0 ∨ (I197 0 35).toInt + 1 ≤ (I197 0 34).toInt); first | omega | decide) (by show (I197 0 13).toInt = (I 0 13).toInt; omega) f198 hW hS (lv_sub hl [0, 1, 2, 3, 4] rfl)
                    · have g212 := z_f_eq rfl z_l0 c210
                      refine lv_aload_n hx hb dX12_orders_121 rfl (lv_at hl 2 rfl) ?_
                      refine lv_dup hx hb dX12_orders_122 rfl ?_
                      have r213 : 0 ≤ (I197 0 14).toInt ∧ (I197 0 14).toInt ≤ 288 := k204
                      refine z_get (T := TX12) (N := 96) (ci := 12) (i := 0) (v := .int (I197 0 14)) hx hb hts zj_X12_orders_X12 hown hK hW rfl rfl 14 (by decide) (hts (.fieldLink RX12 411 "PetrolBoardModel" "statements" "I") (me_s (me_l (me_l (List.mem_of_getElem? (i := 6) rfl))))) (fun _ h => h) rfl dX12_orders_123 ?_
                      refine lv_iconst (v := 1) hx hb dX12_orders_126 (by decide) ?_
                      refine lv_iadd hx hb dX12_orders_127 ?_
                      refine lv_topi (fun x214 ex214 => ?_)
                      have tx214 : x214.toInt = (I197 0 14).toInt + 1 := z_tadd ex214 rfl z_l1 (by omega) (by omega)
                      refine z_put (T := TX12) (N := 96) (ci := 12) (i := 0) (v := .int x214) (I1 := z_up I197 0 14 x214) (J1 := J199) (P1 := PM ad) hx hb hts zj_X12_orders_X12 tyX12 tyX12_ok nmX12 hown hK hW hS rfl rfl 14 (by decide) (hts (.fieldLink RX12 411 "PetrolBoardModel" "statements" "I") (me_s (me_l (me_l (List.mem_of_getElem? (i := 6) rfl))))) (fun _ h => h) rfl rfl rfl (by first | rfl | exact congrArg _ z_up_s) (fun a b h ty => z_vI h ty) dX12_orders_128 (fun H locs hz1 hW hS => ?_)
                      obtain ⟨I215, eI215⟩ : ∃ K : z_I, K = z_up I197 0 14 x214 := ⟨_, rfl⟩
                      rw [← eI215] at hW
                      have f216 := z_fr_k f198 (show z_wr L_X12_orders 0 14 = true by decide) eI215
                      have a217 := z_Nd_n hI197Nd (by decide) eI215
                      have a218 := z_rg_n (z_rg_fr lp88Atf fI197 (by decide)) (by decide) eI215
                      have a219 := z_rg_n (z_rg_fr lp88Atm fI197 (by decide)) (by decide) eI215
                      have a220 := z_rg_n hI197Asf (by decide) eI215
                      have a221 := z_rg_n hI197Ast (by decide) eI215
                      have a222 := z_rg_n hI197Asc (by decide) eI215
                      have a223 := z_Ex_n hI197Ex (by decide) eI215
                      refine lv_goto (tgt := 74) hx hb dX12_orders_131 (by decide) ?_
                      exact lp88ih  I215 J199 _ _ _ (by have q0 : (I215 0 42) = (I197 0 42) := (by rw [eI215, z_up_k (by decide)]); have q1 : (I215 0 14) = x214 := (by rw [eI215, z_up_s]); have q2 : (I215 0 35) = (I197 0 35) := (by rw [eI215, z_up_k (by decide)]); have q3 : (I215 0 15) = (I197 0 15) := (by rw [eI215, z_up_k (by decide)]); show (¬ (I215 0 42).toInt = 0 ∧ 1 ≤ (f : Int)) ∨ (26 - ((I215 0 14).toInt - (I 0 14).toInt) ≤ (f : Int) ∧ 0 ≤ ((I215 0 14).toInt - (I 0 14).toInt) ∧ ((I215 0 14).toInt - (I 0 14).toInt) ≤ 24 ∧ 1010 * (500 - (I215 0 35).toInt) + 1000 * (I215 0 15).toInt ≤ 505000 + 1000 * (I 0 15).toInt + 20 * ((I215 0 14).toInt - (I 0 14).toInt)); rw [q0, q1, q2, q3]; omega) ⟨(by show 0 ≤ (I215 0 0).toInt ∧ (I215 0 0).toInt ≤ 719; rw [eI215, z_up_k (by decide)]; exact k200), (by show 0 ≤ (I215 0 1).toInt ∧ (I215 0 1).toInt ≤ 30; rw [eI215, z_up_k (by decide)]; exact k201), (by show 0 ≤ (I215 0 2).toInt ∧ (I215 0 2).toInt ≤ 200; rw [eI215, z_up_k (by decide)]; exact k202)⟩ ⟨(by show 0 ≤ (I215 0 13).toInt ∧ (I215 0 13).toInt ≤ 12; rw [eI215, z_up_k (by decide)]; exact k203), (by show 0 ≤ (I215 0 14).toInt ∧ (I215 0 14).toInt ≤ 288; rw [eI215, z_up_s]; omega)⟩ ⟨(by show 0 ≤ (I215 0 31).toInt ∧ (I215 0 31).toInt ≤ 500; rw [eI215, z_up_k (by decide)]; exact hI197mp.1), (by show 0 ≤ (I215 0 33).toInt ∧ (I215 0 33).toInt ≤ 500; rw [eI215, z_up_k (by decide)]; exact hI197mp.2.1), (by show 0 ≤ (I215 0 34).toInt ∧ (I215 0 34).toInt ≤ 500; rw [eI215, z_up_k (by decide)]; exact hI197mp.2.2.1), (by show 0 ≤ (I215 0 35).toInt ∧ (I215 0 35).toInt ≤ 500; rw [eI215, z_up_k (by decide)]; exact hI197mp.2.2.2)⟩ ⟨(by show 0 ≤ (I215 0 36).toInt ∧ (I215 0 36).toInt ≤ 4; rw [eI215, z_up_k (by decide)]; exact hI197mt.1), (by show 0 ≤ (I215 0 42).toInt ∧ (I215 0 42).toInt ≤ 1; rw [eI215, z_up_k (by decide)]; exact hI197mt.2)⟩ ⟨(by show 0 ≤ (I215 0 47).toInt ∧ (I215 0 47).toInt ≤ 119; rw [eI215, z_up_k (by decide)]; exact hI197md.1), (by show 0 ≤ (I215 0 39).toInt ∧ (I215 0 39).toInt ≤ 100; rw [eI215, z_up_k (by decide)]; exact hI197md.2)⟩ (by show 0 ≤ (I215 0 40).toInt ∧ (I215 0 40).toInt ≤ 6199; rw [eI215, z_up_k (by decide)]; exact hI197mg) (by show 0 ≤ (I215 0 15).toInt ∧ (I215 0 15).toInt ≤ 6100; rw [eI215, z_up_k (by decide)]; exact hI197mn) a217 a218 a219 a220 a221 a222 a223 (by have q0 : (I215 0 35) = (I197 0 35) := (by rw [eI215, z_up_k (by decide)]); have q1 : (I215 0 34) = (I197 0 34) := (by rw [eI215, z_up_k (by decide)]); have q2 : (I215 0 33) = (I197 0 33) := (by rw [eI215, z_up_k (by decide)]); have q3 : (I215 0 36) = (I197 0 36) := (by rw [eI215, z_up_k (by decide)]); show 0 ≤ (I215 0 35).toInt ∧ (I215 0 35).toInt ≤ (I215 0 34).toInt ∧ (I215 0 34).toInt ≤ (I215 0 33).toInt ∧ (I215 0 33).toInt ≤ 500 ∧ ((I215 0 36).toInt = 0 ∨ (I215 0 35).toInt + 1 ≤ (I215 0 34).toInt); rw [q0, q1, q2, q3]; first | omega | decide) (by have q0 : (I215 0 13) = (I197 0 13) := (by rw [eI215, z_up_k (by decide)]); show (I215 0 13).toInt = (I 0 13).toInt; rw [q0]; omega) f216 hW hS (lv_sub hl [0, 1, 2, 3, 4] rfl)
                  · have g224 := z_f_eq rfl z_l24 c195
                    refine lv_aload_n hx hb dX12_orders_99 rfl (lv_at hl 2 rfl) ?_
                    refine z_cv hW hS hA (va_runV (As := []) (rest := []) ⟨hx, hb, hml, hown, hts⟩ (sx_X12_errs l G ad I89 J90 ⟨(by show 0 ≤ (I89 0 36).toInt ∧ (I89 0 36).toInt ≤ 4; exact lp88mt.1), (by show 0 ≤ (I89 0 42).toInt ∧ (I89 0 42).toInt ≤ 1; exact lp88mt.2)⟩  _) (cwV 0 hts gX12_orders_X12_errs rfl rfl rfl hy_X12_errs ⟨Nat.le_of_ble_eq_true rfl, Nat.le_of_ble_eq_true rfl⟩) (z_preV (i := 0) hK hW rfl rfl) rfl rfl hl.1 rfl (lv_room (Nat.le_of_ble_eq_true rfl)) dX12_orders_100 ⟨Nat.le_of_ble_eq_true rfl, Nat.le_of_ble_eq_true rfl⟩) (fun u1 H locs hp hW hS => ?_)
                    obtain ⟨I225, J227, e9, hI225mt, fI225, hp⟩ := hp
                    rw [e9] at hW
                    have f226 := z_fr_sub (L := L_X12_orders) lp88fr fI225 (by decide)
                    have k228 : 0 ≤ (I225 0 0).toInt ∧ (I225 0 0).toInt ≤ 719 := by rw [fI225 0 0 (by decide)]; exact (by show 0 ≤ (I89 0 0).toInt ∧ (I89 0 0).toInt ≤ 719; exact lp88ma.1)
                    have k229 : 0 ≤ (I225 0 1).toInt ∧ (I225 0 1).toInt ≤ 30 := by rw [fI225 0 1 (by decide)]; exact (by show 0 ≤ (I89 0 1).toInt ∧ (I89 0 1).toInt ≤ 30; exact lp88ma.2.1)
                    have k230 : 0 ≤ (I225 0 2).toInt ∧ (I225 0 2).toInt ≤ 200 := by rw [fI225 0 2 (by decide)]; exact (by show 0 ≤ (I89 0 2).toInt ∧ (I89 0 2).toInt ≤ 200; exact lp88ma.2.2)
                    have k231 : 0 ≤ (I225 0 13).toInt ∧ (I225 0 13).toInt ≤ 12 := by rw [fI225 0 13 (by decide)]; exact (by show 0 ≤ (I89 0 13).toInt ∧ (I89 0 13).toInt ≤ 12; exact lp88mb.1)
                    have k232 : 0 ≤ (I225 0 14).toInt ∧ (I225 0 14).toInt ≤ 288 := by rw [fI225 0 14 (by decide)]; exact (by show 0 ≤ (I89 0 14).toInt ∧ (I89 0 14).toInt ≤ 288; exact lp88mb.2)
                    have k233 : 0 ≤ (I225 0 31).toInt ∧ (I225 0 31).toInt ≤ 500 := by rw [fI225 0 31 (by decide)]; exact (by show 0 ≤ (I89 0 31).toInt ∧ (I89 0 31).toInt ≤ 500; exact lp88mp.1)
                    have k234 : 0 ≤ (I225 0 33).toInt ∧ (I225 0 33).toInt ≤ 500 := by rw [fI225 0 33 (by decide)]; exact (by show 0 ≤ (I89 0 33).toInt ∧ (I89 0 33).toInt ≤ 500; exact lp88mp.2.1)
                    have k235 : 0 ≤ (I225 0 34).toInt ∧ (I225 0 34).toInt ≤ 500 := by rw [fI225 0 34 (by decide)]; exact (by show 0 ≤ (I89 0 34).toInt ∧ (I89 0 34).toInt ≤ 500; exact lp88mp.2.2.1)
                    have k236 : 0 ≤ (I225 0 35).toInt ∧ (I225 0 35).toInt ≤ 500 := by rw [fI225 0 35 (by decide)]; exact (by show 0 ≤ (I89 0 35).toInt ∧ (I89 0 35).toInt ≤ 500; exact lp88mp.2.2.2)
                    have k237 : (I225 0 36).toInt = (I89 0 36).toInt := by rw [fI225 0 36 (by decide)]
                    have k238 : 0 ≤ (I225 0 47).toInt ∧ (I225 0 47).toInt ≤ 119 := by rw [fI225 0 47 (by decide)]; exact (by show 0 ≤ (I89 0 47).toInt ∧ (I89 0 47).toInt ≤ 119; exact lp88md.1)
                    have k239 : 0 ≤ (I225 0 39).toInt ∧ (I225 0 39).toInt ≤ 100 := by rw [fI225 0 39 (by decide)]; exact (by show 0 ≤ (I89 0 39).toInt ∧ (I89 0 39).toInt ≤ 100; exact lp88md.2)
                    have k240 : 0 ≤ (I225 0 40).toInt ∧ (I225 0 40).toInt ≤ 6199 := by rw [fI225 0 40 (by decide)]; exact (by show 0 ≤ (I89 0 40).toInt ∧ (I89 0 40).toInt ≤ 6199; exact lp88mg)
                    have k241 : 0 ≤ (I225 0 15).toInt ∧ (I225 0 15).toInt ≤ 6100 := by rw [fI225 0 15 (by decide)]; exact (by show 0 ≤ (I89 0 15).toInt ∧ (I89 0 15).toInt ≤ 6100; exact lp88mn)
                    have k242 : 0 ≤ (I225 0 35).toInt ∧ (I225 0 35).toInt ≤ (I225 0 34).toInt ∧ (I225 0 34).toInt ≤ (I225 0 33).toInt ∧ (I225 0 33).toInt ≤ 500 ∧ ((I225 0 36).toInt = 0 ∨ (I225 0 35).toInt + 1 ≤ (I225 0 34).toInt) := (by have q0 : (I225 0 35) = (I89 0 35) := (by rw [fI225 0 35 (by decide)]); have q1 : (I225 0 34) = (I89 0 34) := (by rw [fI225 0 34 (by decide)]); have q2 : (I225 0 33) = (I89 0 33) := (by rw [fI225 0 33 (by decide)]); have q3 : (I225 0 36) = (I89 0 36) := (by rw [fI225 0 36 (by decide)]); show 0 ≤ (I225 0 35).toInt ∧ (I225 0 35).toInt ≤ (I225 0 34).toInt ∧ (I225 0 34).toInt ≤ (I225 0 33).toInt ∧ (I225 0 33).toInt ≤ 500 ∧ ((I225 0 36).toInt = 0 ∨ (I225 0 35).toInt + 1 ≤ (I225 0 34).toInt); rw [q0, q1, q2, q3]; first | omega | decide)
                    have k243 : (I225 0 35).toInt = (I89 0 35).toInt := by rw [fI225 0 35 (by decide)]
                    have k244 : (I225 0 34).toInt = (I89 0 34).toInt := by rw [fI225 0 34 (by decide)]
                    have k245 : (I225 0 36).toInt = (I89 0 36).toInt := by rw [fI225 0 36 (by decide)]
                    have k246 : (I225 0 47).toInt = (I89 0 47).toInt := by rw [fI225 0 47 (by decide)]
                    have k247 : (I225 0 39).toInt = (I89 0 39).toInt := by rw [fI225 0 39 (by decide)]
                    have k248 : (I225 0 15).toInt = (I89 0 15).toInt := by rw [fI225 0 15 (by decide)]
                    have k249 : (I225 0 40).toInt = (I89 0 40).toInt := by rw [fI225 0 40 (by decide)]
                    have k250 : (I225 0 14).toInt = (I89 0 14).toInt := by rw [fI225 0 14 (by decide)]
                    have k251 : (I225 0 13).toInt = (I89 0 13).toInt := by rw [fI225 0 13 (by decide)]
                    have h252 := hp
                    refine lv_goto (tgt := 74) hx hb dX12_orders_103 (by decide) ?_
                    exact lp88ih  I225 J227 _ _ _ (by show (¬ (I225 0 42).toInt = 0 ∧ 1 ≤ (f : Int)) ∨ (26 - ((I225 0 14).toInt - (I 0 14).toInt) ≤ (f : Int) ∧ 0 ≤ ((I225 0 14).toInt - (I 0 14).toInt) ∧ ((I225 0 14).toInt - (I 0 14).toInt) ≤ 24 ∧ 1010 * (500 - (I225 0 35).toInt) + 1000 * (I225 0 15).toInt ≤ 505000 + 1000 * (I 0 15).toInt + 20 * ((I225 0 14).toInt - (I 0 14).toInt)); omega) ⟨(by show 0 ≤ (I225 0 0).toInt ∧ (I225 0 0).toInt ≤ 719; exact k228), (by show 0 ≤ (I225 0 1).toInt ∧ (I225 0 1).toInt ≤ 30; exact k229), (by show 0 ≤ (I225 0 2).toInt ∧ (I225 0 2).toInt ≤ 200; exact k230)⟩ ⟨(by show 0 ≤ (I225 0 13).toInt ∧ (I225 0 13).toInt ≤ 12; exact k231), (by show 0 ≤ (I225 0 14).toInt ∧ (I225 0 14).toInt ≤ 288; exact k232)⟩ ⟨(by show 0 ≤ (I225 0 31).toInt ∧ (I225 0 31).toInt ≤ 500; exact k233), (by show 0 ≤ (I225 0 33).toInt ∧ (I225 0 33).toInt ≤ 500; exact k234), (by show 0 ≤ (I225 0 34).toInt ∧ (I225 0 34).toInt ≤ 500; exact k235), (by show 0 ≤ (I225 0 35).toInt ∧ (I225 0 35).toInt ≤ 500; exact k236)⟩ ⟨(by show 0 ≤ (I225 0 36).toInt ∧ (I225 0 36).toInt ≤ 4; exact hI225mt.1), (by show 0 ≤ (I225 0 42).toInt ∧ (I225 0 42).toInt ≤ 1; exact hI225mt.2)⟩ ⟨(by show 0 ≤ (I225 0 47).toInt ∧ (I225 0 47).toInt ≤ 119; exact k238), (by show 0 ≤ (I225 0 39).toInt ∧ (I225 0 39).toInt ≤ 100; exact k239)⟩ (by show 0 ≤ (I225 0 40).toInt ∧ (I225 0 40).toInt ≤ 6199; exact k240) (by show 0 ≤ (I225 0 15).toInt ∧ (I225 0 15).toInt ≤ 6100; exact k241) (z_Nd_fr lp88Nd fI225 (by decide)) (z_rg_fr lp88Atf fI225 (by decide)) (z_rg_fr lp88Atm fI225 (by decide)) (z_rg_fr lp88Asf fI225 (by decide)) (z_rg_fr lp88Ast fI225 (by decide)) (z_rg_fr lp88Asc fI225 (by decide)) (z_Ex_fr lp88Ex fI225 (by decide)) (by show 0 ≤ (I225 0 35).toInt ∧ (I225 0 35).toInt ≤ (I225 0 34).toInt ∧ (I225 0 34).toInt ≤ (I225 0 33).toInt ∧ (I225 0 33).toInt ≤ 500 ∧ ((I225 0 36).toInt = 0 ∨ (I225 0 35).toInt + 1 ≤ (I225 0 34).toInt); first | omega | decide) (by show (I225 0 13).toInt = (I 0 13).toInt; omega) f226 hW hS (lv_sub hl [0, 1, 2, 3, 4] rfl)
          exact lp88 30  I64 J66 _ _ _ (by show (¬ (I64 0 42).toInt = 0 ∧ 1 ≤ ((30 : Nat) : Int)) ∨ (26 - ((I64 0 14).toInt - (I 0 14).toInt) ≤ ((30 : Nat) : Int) ∧ 0 ≤ ((I64 0 14).toInt - (I 0 14).toInt) ∧ ((I64 0 14).toInt - (I 0 14).toInt) ≤ 24 ∧ 1010 * (500 - (I64 0 35).toInt) + 1000 * (I64 0 15).toInt ≤ 505000 + 1000 * (I 0 15).toInt + 20 * ((I64 0 14).toInt - (I 0 14).toInt)); omega) ⟨(by show 0 ≤ (I64 0 0).toInt ∧ (I64 0 0).toInt ≤ 719; exact k67), (by show 0 ≤ (I64 0 1).toInt ∧ (I64 0 1).toInt ≤ 30; exact k68), (by show 0 ≤ (I64 0 2).toInt ∧ (I64 0 2).toInt ≤ 200; exact k69)⟩ ⟨(by show 0 ≤ (I64 0 13).toInt ∧ (I64 0 13).toInt ≤ 12; exact k70), (by show 0 ≤ (I64 0 14).toInt ∧ (I64 0 14).toInt ≤ 288; exact k71)⟩ ⟨(by show 0 ≤ (I64 0 31).toInt ∧ (I64 0 31).toInt ≤ 500; exact hI64mp.1), (by show 0 ≤ (I64 0 33).toInt ∧ (I64 0 33).toInt ≤ 500; exact hI64mp.2.1), (by show 0 ≤ (I64 0 34).toInt ∧ (I64 0 34).toInt ≤ 500; exact hI64mp.2.2.1), (by show 0 ≤ (I64 0 35).toInt ∧ (I64 0 35).toInt ≤ 500; exact hI64mp.2.2.2)⟩ ⟨(by show 0 ≤ (I64 0 36).toInt ∧ (I64 0 36).toInt ≤ 4; exact hI64mt.1), (by show 0 ≤ (I64 0 42).toInt ∧ (I64 0 42).toInt ≤ 1; exact hI64mt.2)⟩ ⟨(by show 0 ≤ (I64 0 47).toInt ∧ (I64 0 47).toInt ≤ 119; exact k75), (by show 0 ≤ (I64 0 39).toInt ∧ (I64 0 39).toInt ≤ 100; exact k76)⟩ (by show 0 ≤ (I64 0 40).toInt ∧ (I64 0 40).toInt ≤ 6199; exact k77) (by show 0 ≤ (I64 0 15).toInt ∧ (I64 0 15).toInt ≤ 6100; exact k78) (z_Nd_fr a55 fI64 (by decide)) (z_rg_fr a56 fI64 (by decide)) (z_rg_fr a57 fI64 (by decide)) (z_rg_fr a58 fI64 (by decide)) (z_rg_fr a59 fI64 (by decide)) (z_rg_fr a60 fI64 (by decide)) (z_Ex_fr a61 fI64 (by decide)) (by show 0 ≤ (I64 0 35).toInt ∧ (I64 0 35).toInt ≤ (I64 0 34).toInt ∧ (I64 0 34).toInt ≤ (I64 0 33).toInt ∧ (I64 0 33).toInt ≤ 500 ∧ ((I64 0 36).toInt = 0 ∨ (I64 0 35).toInt + 1 ≤ (I64 0 34).toInt); first | omega | decide) (by show (I64 0 13).toInt = (I 0 13).toInt; omega) f65 hW hS (lv_sub hl [0, 1, 2, 3, 4] rfl)
        · have g253 := z_f_eq rfl z_l12 c15
          refine lv_bipush (v := (-3)) hx hb dX12_orders_31 (by decide) ?_
          exact z_iret hx hb hr hK hS (Nat.le_of_ble_eq_true rfl) (Nat.le_of_ble_eq_true rfl) hlocks dX12_orders_33 (shM, ad, I, J, PM ad) hW ⟨I, J, rfl, ⟨(by show 0 ≤ (I 0 0).toInt ∧ (I 0 0).toInt ≤ 719; exact hma.1), (by show 0 ≤ (I 0 1).toInt ∧ (I 0 1).toInt ≤ 30; exact hma.2.1), (by show 0 ≤ (I 0 2).toInt ∧ (I 0 2).toInt ≤ 200; exact hma.2.2)⟩, ⟨(by show 0 ≤ (I 0 13).toInt ∧ (I 0 13).toInt ≤ 12; exact hmb.1), (by show 0 ≤ (I 0 14).toInt ∧ (I 0 14).toInt ≤ 288; exact hmb.2)⟩, ⟨(by show 0 ≤ (I 0 31).toInt ∧ (I 0 31).toInt ≤ 500; exact hmp.1), (by show 0 ≤ (I 0 33).toInt ∧ (I 0 33).toInt ≤ 500; exact hmp.2.1), (by show 0 ≤ (I 0 34).toInt ∧ (I 0 34).toInt ≤ 500; exact hmp.2.2.1), (by show 0 ≤ (I 0 35).toInt ∧ (I 0 35).toInt ≤ 500; exact hmp.2.2.2)⟩, ⟨(by show 0 ≤ (I 0 36).toInt ∧ (I 0 36).toInt ≤ 4; exact hmt.1), (by show 0 ≤ (I 0 42).toInt ∧ (I 0 42).toInt ≤ 1; exact hmt.2)⟩, ⟨(by show 0 ≤ (I 0 47).toInt ∧ (I 0 47).toInt ≤ 119; exact hmd.1), (by show 0 ≤ (I 0 39).toInt ∧ (I 0 39).toInt ≤ 100; exact hmd.2)⟩, (by show 0 ≤ (I 0 40).toInt ∧ (I 0 40).toInt ≤ 6199; exact hmg), (by show 0 ≤ (I 0 15).toInt ∧ (I 0 15).toInt ≤ 6100; exact hmn), hNd, hAtf, hAtm, hAsf, hAst, hAsc, hEx, (by show (I 0 14).toInt ≤ 24 * (I 0 13).toInt ∧ (I 0 15).toInt ≤ 505 * (I 0 13).toInt; first | omega | decide), z_fr_0⟩
      · refine lv_if_ne (tgt := 22) hx hb dX12_orders_16 (by decide) (fun c254 => absurd (by decide) c254) (fun c254 => ?_)
        refine lv_bipush (v := (-2)) hx hb dX12_orders_19 (by decide) ?_
        exact z_iret hx hb hr hK hS (Nat.le_of_ble_eq_true rfl) (Nat.le_of_ble_eq_true rfl) hlocks dX12_orders_21 (shM, ad, I, J, PM ad) hW ⟨I, J, rfl, ⟨(by show 0 ≤ (I 0 0).toInt ∧ (I 0 0).toInt ≤ 719; exact hma.1), (by show 0 ≤ (I 0 1).toInt ∧ (I 0 1).toInt ≤ 30; exact hma.2.1), (by show 0 ≤ (I 0 2).toInt ∧ (I 0 2).toInt ≤ 200; exact hma.2.2)⟩, ⟨(by show 0 ≤ (I 0 13).toInt ∧ (I 0 13).toInt ≤ 12; exact hmb.1), (by show 0 ≤ (I 0 14).toInt ∧ (I 0 14).toInt ≤ 288; exact hmb.2)⟩, ⟨(by show 0 ≤ (I 0 31).toInt ∧ (I 0 31).toInt ≤ 500; exact hmp.1), (by show 0 ≤ (I 0 33).toInt ∧ (I 0 33).toInt ≤ 500; exact hmp.2.1), (by show 0 ≤ (I 0 34).toInt ∧ (I 0 34).toInt ≤ 500; exact hmp.2.2.1), (by show 0 ≤ (I 0 35).toInt ∧ (I 0 35).toInt ≤ 500; exact hmp.2.2.2)⟩, ⟨(by show 0 ≤ (I 0 36).toInt ∧ (I 0 36).toInt ≤ 4; exact hmt.1), (by show 0 ≤ (I 0 42).toInt ∧ (I 0 42).toInt ≤ 1; exact hmt.2)⟩, ⟨(by show 0 ≤ (I 0 47).toInt ∧ (I 0 47).toInt ≤ 119; exact hmd.1), (by show 0 ≤ (I 0 39).toInt ∧ (I 0 39).toInt ≤ 100; exact hmd.2)⟩, (by show 0 ≤ (I 0 40).toInt ∧ (I 0 40).toInt ≤ 6199; exact hmg), (by show 0 ≤ (I 0 15).toInt ∧ (I 0 15).toInt ≤ 6100; exact hmn), hNd, hAtf, hAtm, hAsf, hAst, hAsc, hEx, (by show (I 0 14).toInt ≤ 24 * (I 0 13).toInt ∧ (I 0 15).toInt ≤ 505 * (I 0 13).toInt; first | omega | decide), z_fr_0⟩
noncomputable def L_X12_feed : z_L := [(0, 31), (25, 999)]
theorem zj_X12_feed_X12 : ∀ w ∈ wsX120, w ∈ wsX12_feed := fun w h => (List.mem_cons_of_mem _ (List.mem_append_right _ h))
set_option maxHeartbeats 8000000 in
set_option maxRecDepth 100000 in
theorem sx_X12_feed (l : Launch) (G : z_G) (ad : Nat → Nat) (I : z_I) (J : z_J) (hmp : z_imp I) (a1 : Int32) (a2 : Int32) (a3 : Int32) (a4 : Int32) (a5 : Int32) : z_M l yX12_feed wsX12_feed { frames := 1, cells := 0, slots := 0, locals := 12 } [.ref (ad 0), .int a1, .int a2, .int a3, .int a4, .int a5] G (shM, ad, I, J, PM ad) (fun r u1 => ∃ (I1 : z_I) (J1 : z_J), u1 = (shM, ad, I1, J1, PM ad) ∧ z_imp I1 ∧ z_fr L_X12_feed I1 I) 0 0 := by
  intro sz
  refine z_headQ (cc := cX12_feed) (maxL := 8) (ret := (some .int)) (by decide) rfl (Nat.le_of_ble_eq_true rfl) ?_
  intro p e s m below meth c0 ls hIn hK hsz hW hl
  obtain ⟨hx, hb, hr, hml, hown, hts, hlocks, hname⟩ := hIn
  subst hsz
  have hown : s.vm.findClass RX12 = some m.cls := hown
  have hA : ∀ q : Nat, s.heap.size ≤ q → z_A (shM, ad, I, J, PM ad) s.heap.size q := fun q h => Or.inr h
  generalize hAe : z_A (shM, ad, I, J, PM ad) s.heap.size = A at *
  have hS : va_S A s.heap s.heap [] := va_S.rf
  have hl : lv_has ls 8 [(0, .ref (ad 0)), (1, .int a1), (2, .int a2), (3, .int a3), (4, .int a4), (5, .int a5)] := hl
  refine lv_aload_n hx hb dX12_feed_0 rfl (lv_at hl 0 rfl) ?_
  have r1 : 0 ≤ (I 0 31).toInt ∧ (I 0 31).toInt ≤ 500 := hmp.1
  refine z_get (T := TX12) (N := 96) (ci := 12) (i := 0) (v := .int (I 0 31)) hx hb hts zj_X12_feed_X12 hown hK hW rfl rfl 31 (by decide) (hts (.fieldLink RX12 253 "PetrolBoardModel" "taped" "I") (me_s (me_l (List.mem_of_getElem? (i := 0) rfl)))) (fun _ h => h) rfl dX12_feed_1 ?_
  refine lv_bipush (v := 20) hx hb dX12_feed_4 (by decide) ?_
  refine lv_iadd hx hb dX12_feed_6 ?_
  refine lv_topi (fun x2 ex2 => ?_)
  have tx2 : x2.toInt = (I 0 31).toInt + 20 := z_tadd ex2 rfl z_l20 (by omega) (by omega)
  refine lv_sipush (v := 500) hx hb dX12_feed_7 (by decide) ?_
  refine lv_icmp_le (tgt := 15) hx hb dX12_feed_10 (by decide) (fun c3 => ?_) (fun c3 => ?_)
  · have g4 := z_f_le rfl z_l500 c3
    refine lv_iconst (v := 0) hx hb dX12_feed_15 (by decide) ?_
    refine lv_istore (lv' := [(6, .int 0), (0, .ref (ad 0)), (1, .int a1), (2, .int a2), (3, .int a3), (4, .int a4), (5, .int a5)]) hx hb dX12_feed_16 hl (by decide) rfl (fun ls hl => ?_)
    have lp5 : ∀ (f : Nat) (y6 : Int32) (I7 : z_I) (J8 : z_J) (H : Heap) (locs : List Loc) (ls : Array Slot), (2147483647 < y6.toInt + (f : Int)) → (0 ≤ y6.toInt) → (z_imp I7) → ((I7 0 31).toInt = (I 0 31).toInt + y6.toInt) → (z_fr L_X12_feed I7 I) → z_W G A (shM, ad, I7, J8, PM ad) H → va_S A s.heap H locs → lv_has ls 8 [(6, .int y6), (0, .ref (ad 0)), (1, .int a1), (2, .int a2), (3, .int a3), (4, .int a4), (5, .int a5)] → W p l e (headSpec wsX12_feed { frames := 1, cells := 0, slots := 0, locals := 12 }).room s m ([.ref (ad 0), .int a1, .int a2, .int a3, .int a4, .int a5] : List Value).toArray below meth c0 H locs 0 0 (MQ below (va_Qi (fun (r : Int32) (u1 : z_U) => ∃ (I1 : z_I) (J1 : z_J), u1 = (shM, ad, I1, J1, PM ad) ∧ z_imp I1 ∧ z_fr L_X12_feed I1 I) (z_B G A) A) ([.ref (ad 0), .int a1, .int a2, .int a3, .int a4, .int a5] : List Value).toArray s 0 0 A) (F0 m 18 ls []) := by
      intro f
      induction f with
      | zero => intro y6 I7 J8 H locs ls lp5m lp5l6 lp5mp lp5T lp5fr hW hS hl; exact absurd lp5m (by have := Int32.toInt_lt y6; have := Int32.le_toInt y6; omega)
      | succ f lp5ih =>
        intro y6 I7 J8 H locs ls lp5m lp5l6 lp5mp lp5T lp5fr hW hS hl
        refine lv_iload hx hb dX12_feed_18 (lv_at hl 0 rfl) ?_
        refine lv_bipush (v := 20) hx hb dX12_feed_20 (by decide) ?_
        refine lv_icmp_ge (tgt := 112) hx hb dX12_feed_22 (by decide) (fun c9 => ?_) (fun c9 => ?_)
        · have g10 := z_f_ge rfl z_l20 c9
          have b11 := Int32.toInt_lt y6
          refine lv_aload_n hx hb dX12_feed_112 rfl (lv_at hl 1 rfl) ?_
          have r12 : 0 ≤ (I7 0 31).toInt ∧ (I7 0 31).toInt ≤ 500 := lp5mp.1
          refine z_get (T := TX12) (N := 96) (ci := 12) (i := 0) (v := .int (I7 0 31)) hx hb hts zj_X12_feed_X12 hown hK hW rfl rfl 31 (by decide) (hts (.fieldLink RX12 253 "PetrolBoardModel" "taped" "I") (me_s (me_l (List.mem_of_getElem? (i := 0) rfl)))) (fun _ h => h) rfl dX12_feed_113 ?_
          exact z_iret hx hb hr hK hS (Nat.le_of_ble_eq_true rfl) (Nat.le_of_ble_eq_true rfl) hlocks dX12_feed_116 (shM, ad, I7, J8, PM ad) hW ⟨I7, J8, rfl, ⟨(by show 0 ≤ (I7 0 31).toInt ∧ (I7 0 31).toInt ≤ 500; exact lp5mp.1), (by show 0 ≤ (I7 0 33).toInt ∧ (I7 0 33).toInt ≤ 500; exact lp5mp.2.1), (by show 0 ≤ (I7 0 34).toInt ∧ (I7 0 34).toInt ≤ 500; exact lp5mp.2.2.1), (by show 0 ≤ (I7 0 35).toInt ∧ (I7 0 35).toInt ≤ 500; exact lp5mp.2.2.2)⟩, lp5fr⟩
        · have g13 := z_f_nge rfl z_l20 c9
          have b14 := Int32.toInt_lt y6
          refine lv_iload hx hb dX12_feed_25 (lv_at hl 0 rfl) ?_
          refine lv_iconst (v := 4) hx hb dX12_feed_27 (by decide) ?_
          refine lv_icmp_ge (tgt := 35) hx hb dX12_feed_28 (by decide) (fun c15 => ?_) (fun c15 => ?_)
          · have g16 := z_f_ge rfl z_l4 c15
            refine lv_iload hx hb dX12_feed_35 (lv_at hl 0 rfl) ?_
            refine lv_bipush (v := 8) hx hb dX12_feed_37 (by decide) ?_
            refine lv_icmp_ge (tgt := 46) hx hb dX12_feed_39 (by decide) (fun c17 => ?_) (fun c17 => ?_)
            · have g18 := z_f_ge rfl z_l8 c17
              refine lv_iload hx hb dX12_feed_46 (lv_at hl 0 rfl) ?_
              refine lv_bipush (v := 12) hx hb dX12_feed_48 (by decide) ?_
              refine lv_icmp_ge (tgt := 57) hx hb dX12_feed_50 (by decide) (fun c19 => ?_) (fun c19 => ?_)
              · have g20 := z_f_ge rfl z_l12 c19
                refine lv_iload hx hb dX12_feed_57 (lv_at hl 0 rfl) ?_
                refine lv_bipush (v := 16) hx hb dX12_feed_59 (by decide) ?_
                refine lv_icmp_ge (tgt := 69) hx hb dX12_feed_61 (by decide) (fun c21 => ?_) (fun c21 => ?_)
                · have g22 := z_f_ge rfl z_l16 c21
                  refine lv_iload hx hb dX12_feed_69 (lv_at hl 6 rfl) ?_
                  refine lv_istore (lv' := [(7, .int a5), (6, .int y6), (0, .ref (ad 0)), (1, .int a1), (2, .int a2), (3, .int a3), (4, .int a4), (5, .int a5)]) hx hb dX12_feed_71 hl (by decide) rfl (fun ls hl => ?_)
                  refine lv_aload_n hx hb dX12_feed_73 rfl (lv_at hl 2 rfl) ?_
                  refine z_get (T := TX12) (N := 96) (ci := 12) (i := 0) (v := .ref (ad 25)) hx hb hts zj_X12_feed_X12 hown hK hW rfl rfl 30 (by decide) (hts (.fieldLink RX12 83 "PetrolBoardModel" "tape" "[B") (me_s (me_l (List.mem_of_getElem? (i := 1) rfl)))) (fun _ h => h) rfl dX12_feed_74 ?_
                  refine lv_aload_n hx hb dX12_feed_77 rfl (lv_at hl 2 rfl) ?_
                  have r23 : 0 ≤ (I7 0 31).toInt ∧ (I7 0 31).toInt ≤ 500 := lp5mp.1
                  refine z_get (T := TX12) (N := 96) (ci := 12) (i := 0) (v := .int (I7 0 31)) hx hb hts zj_X12_feed_X12 hown hK hW rfl rfl 31 (by decide) (hts (.fieldLink RX12 253 "PetrolBoardModel" "taped" "I") (me_s (me_l (List.mem_of_getElem? (i := 0) rfl)))) (fun _ h => h) rfl dX12_feed_78 ?_
                  refine lv_iload hx hb dX12_feed_81 (lv_at hl 0 rfl) ?_
                  refine lv_bipush (v := 24) hx hb dX12_feed_83 (by decide) ?_
                  refine lv_bipush (v := 8) hx hb dX12_feed_85 (by decide) ?_
                  refine lv_iload hx hb dX12_feed_87 (lv_at hl 1 rfl) ?_
                  refine lv_iconst (v := 4) hx hb dX12_feed_89 (by decide) ?_
                  refine lv_irem hx hb dX12_feed_90 (by decide) ?_
                  refine lv_topi (fun x24 ex24 => ?_)
                  have tx24 := z_trem ex24 rfl z_l4 (by decide)
                  refine lv_imul hx hb dX12_feed_91 ?_
                  refine lv_topi (fun x25 ex25 => ?_)
                  have tx25 : x25.toInt = 8 * x24.toInt := z_tmul ex25 z_l8 rfl (by omega) (by omega)
                  refine lv_isub hx hb dX12_feed_92 ?_
                  refine lv_topi (fun x26 ex26 => ?_)
                  have tx26 : x26.toInt = 24 - x25.toInt := z_tsub ex26 z_l24 rfl (by omega) (by omega)
                  refine lv_ishr hx hb dX12_feed_93 ?_
                  refine lv_topi (fun x27 ex27 => ?_)
                  refine lv_i2b hx hb dX12_feed_94 rfl ?_
                  refine lv_topi (fun x28 ex28 => ?_)
                  refine z_bast (i := 25) hx hb hK hW hS rfl (z_ix rfl (by omega) (by omega)) dX12_feed_95 (fun H locs hz1 hW hS => ?_)
                  obtain ⟨I29, eI29⟩ : ∃ K : z_I, K = z_up I7 25 (I7 0 31).toNatClampNeg (vp_nar .byte x28) := ⟨_, rfl⟩
                  rw [← eI29] at hW
                  have f30 := z_fr_a lp5fr (show z_wa L_X12_feed 25 = true by decide) eI29
                  refine lv_aload_n hx hb dX12_feed_96 rfl (lv_at hl 2 rfl) ?_
                  refine lv_dup hx hb dX12_feed_97 rfl ?_
                  refine z_get (T := TX12) (N := 96) (ci := 12) (i := 0) (v := .int (I7 0 31)) hx hb hts zj_X12_feed_X12 hown hK hW rfl rfl 31 (by decide) (hts (.fieldLink RX12 253 "PetrolBoardModel" "taped" "I") (me_s (me_l (List.mem_of_getElem? (i := 0) rfl)))) (fun _ h => h) (congrArg Value.int (by rw [eI29, z_up_n (by decide)])) dX12_feed_98 ?_
                  refine lv_iconst (v := 1) hx hb dX12_feed_101 (by decide) ?_
                  refine lv_iadd hx hb dX12_feed_102 ?_
                  refine lv_topi (fun x31 ex31 => ?_)
                  have tx31 : x31.toInt = (I7 0 31).toInt + 1 := z_tadd ex31 rfl z_l1 (by omega) (by omega)
                  refine z_put (T := TX12) (N := 96) (ci := 12) (i := 0) (v := .int x31) (I1 := z_up I29 0 31 x31) (J1 := J8) (P1 := PM ad) hx hb hts zj_X12_feed_X12 tyX12 tyX12_ok nmX12 hown hK hW hS rfl rfl 31 (by decide) (hts (.fieldLink RX12 253 "PetrolBoardModel" "taped" "I") (me_s (me_l (List.mem_of_getElem? (i := 0) rfl)))) (fun _ h => h) rfl rfl rfl (by first | rfl | exact congrArg _ z_up_s) (fun a b h ty => z_vI h ty) dX12_feed_103 (fun H locs hz1 hW hS => ?_)
                  obtain ⟨I32, eI32⟩ : ∃ K : z_I, K = z_up I29 0 31 x31 := ⟨_, rfl⟩
                  rw [← eI32] at hW
                  have f33 := z_fr_k f30 (show z_wr L_X12_feed 0 31 = true by decide) eI32
                  obtain ⟨x34, ex34⟩ : ∃ y : Int32, y = y6 + 1 := ⟨_, rfl⟩
                  have tx34 : x34.toInt = y6.toInt + 1 := z_tadd ex34 rfl z_l1 (by omega) (by omega)
                  refine lv_iinc (v := x34) (lv' := [(6, .int x34), (7, .int a5), (0, .ref (ad 0)), (1, .int a1), (2, .int a2), (3, .int a3), (4, .int a4), (5, .int a5)]) hx hb dX12_feed_106 hl (k := 1) rfl (by rw [ex34]; rfl) (by decide) rfl (fun ls hl => ?_)
                  refine lv_goto (tgt := 18) hx hb dX12_feed_109 (by decide) ?_
                  exact lp5ih x34 I32 J8 _ _ _ (by omega) (by omega) ⟨(by show 0 ≤ (I32 0 31).toInt ∧ (I32 0 31).toInt ≤ 500; rw [eI32, z_up_s]; omega), (by show 0 ≤ (I32 0 33).toInt ∧ (I32 0 33).toInt ≤ 500; rw [eI32, z_up_k (by decide), eI29, z_up_n (by decide)]; exact lp5mp.2.1), (by show 0 ≤ (I32 0 34).toInt ∧ (I32 0 34).toInt ≤ 500; rw [eI32, z_up_k (by decide), eI29, z_up_n (by decide)]; exact lp5mp.2.2.1), (by show 0 ≤ (I32 0 35).toInt ∧ (I32 0 35).toInt ≤ 500; rw [eI32, z_up_k (by decide), eI29, z_up_n (by decide)]; exact lp5mp.2.2.2)⟩ (by have q0 : (I32 0 31) = x31 := (by rw [eI32, z_up_s]); show (I32 0 31).toInt = (I 0 31).toInt + x34.toInt; rw [q0]; omega) f33 hW hS (lv_sub hl [0, 2, 3, 4, 5, 6, 7] rfl)
                · have g35 := z_f_nge rfl z_l16 c21
                  refine lv_iload hx hb dX12_feed_64 (lv_at hl 5 rfl) ?_
                  refine lv_goto (tgt := 71) hx hb dX12_feed_66 (by decide) ?_
                  refine lv_istore (lv' := [(7, .int a4), (6, .int y6), (0, .ref (ad 0)), (1, .int a1), (2, .int a2), (3, .int a3), (4, .int a4), (5, .int a5)]) hx hb dX12_feed_71 hl (by decide) rfl (fun ls hl => ?_)
                  refine lv_aload_n hx hb dX12_feed_73 rfl (lv_at hl 2 rfl) ?_
                  refine z_get (T := TX12) (N := 96) (ci := 12) (i := 0) (v := .ref (ad 25)) hx hb hts zj_X12_feed_X12 hown hK hW rfl rfl 30 (by decide) (hts (.fieldLink RX12 83 "PetrolBoardModel" "tape" "[B") (me_s (me_l (List.mem_of_getElem? (i := 1) rfl)))) (fun _ h => h) rfl dX12_feed_74 ?_
                  refine lv_aload_n hx hb dX12_feed_77 rfl (lv_at hl 2 rfl) ?_
                  have r36 : 0 ≤ (I7 0 31).toInt ∧ (I7 0 31).toInt ≤ 500 := lp5mp.1
                  refine z_get (T := TX12) (N := 96) (ci := 12) (i := 0) (v := .int (I7 0 31)) hx hb hts zj_X12_feed_X12 hown hK hW rfl rfl 31 (by decide) (hts (.fieldLink RX12 253 "PetrolBoardModel" "taped" "I") (me_s (me_l (List.mem_of_getElem? (i := 0) rfl)))) (fun _ h => h) rfl dX12_feed_78 ?_
                  refine lv_iload hx hb dX12_feed_81 (lv_at hl 0 rfl) ?_
                  refine lv_bipush (v := 24) hx hb dX12_feed_83 (by decide) ?_
                  refine lv_bipush (v := 8) hx hb dX12_feed_85 (by decide) ?_
                  refine lv_iload hx hb dX12_feed_87 (lv_at hl 1 rfl) ?_
                  refine lv_iconst (v := 4) hx hb dX12_feed_89 (by decide) ?_
                  refine lv_irem hx hb dX12_feed_90 (by decide) ?_
                  refine lv_topi (fun x37 ex37 => ?_)
                  have tx37 := z_trem ex37 rfl z_l4 (by decide)
                  refine lv_imul hx hb dX12_feed_91 ?_
                  refine lv_topi (fun x38 ex38 => ?_)
                  have tx38 : x38.toInt = 8 * x37.toInt := z_tmul ex38 z_l8 rfl (by omega) (by omega)
                  refine lv_isub hx hb dX12_feed_92 ?_
                  refine lv_topi (fun x39 ex39 => ?_)
                  have tx39 : x39.toInt = 24 - x38.toInt := z_tsub ex39 z_l24 rfl (by omega) (by omega)
                  refine lv_ishr hx hb dX12_feed_93 ?_
                  refine lv_topi (fun x40 ex40 => ?_)
                  refine lv_i2b hx hb dX12_feed_94 rfl ?_
                  refine lv_topi (fun x41 ex41 => ?_)
                  refine z_bast (i := 25) hx hb hK hW hS rfl (z_ix rfl (by omega) (by omega)) dX12_feed_95 (fun H locs hz1 hW hS => ?_)
                  obtain ⟨I42, eI42⟩ : ∃ K : z_I, K = z_up I7 25 (I7 0 31).toNatClampNeg (vp_nar .byte x41) := ⟨_, rfl⟩
                  rw [← eI42] at hW
                  have f43 := z_fr_a lp5fr (show z_wa L_X12_feed 25 = true by decide) eI42
                  refine lv_aload_n hx hb dX12_feed_96 rfl (lv_at hl 2 rfl) ?_
                  refine lv_dup hx hb dX12_feed_97 rfl ?_
                  refine z_get (T := TX12) (N := 96) (ci := 12) (i := 0) (v := .int (I7 0 31)) hx hb hts zj_X12_feed_X12 hown hK hW rfl rfl 31 (by decide) (hts (.fieldLink RX12 253 "PetrolBoardModel" "taped" "I") (me_s (me_l (List.mem_of_getElem? (i := 0) rfl)))) (fun _ h => h) (congrArg Value.int (by rw [eI42, z_up_n (by decide)])) dX12_feed_98 ?_
                  refine lv_iconst (v := 1) hx hb dX12_feed_101 (by decide) ?_
                  refine lv_iadd hx hb dX12_feed_102 ?_
                  refine lv_topi (fun x44 ex44 => ?_)
                  have tx44 : x44.toInt = (I7 0 31).toInt + 1 := z_tadd ex44 rfl z_l1 (by omega) (by omega)
                  refine z_put (T := TX12) (N := 96) (ci := 12) (i := 0) (v := .int x44) (I1 := z_up I42 0 31 x44) (J1 := J8) (P1 := PM ad) hx hb hts zj_X12_feed_X12 tyX12 tyX12_ok nmX12 hown hK hW hS rfl rfl 31 (by decide) (hts (.fieldLink RX12 253 "PetrolBoardModel" "taped" "I") (me_s (me_l (List.mem_of_getElem? (i := 0) rfl)))) (fun _ h => h) rfl rfl rfl (by first | rfl | exact congrArg _ z_up_s) (fun a b h ty => z_vI h ty) dX12_feed_103 (fun H locs hz1 hW hS => ?_)
                  obtain ⟨I45, eI45⟩ : ∃ K : z_I, K = z_up I42 0 31 x44 := ⟨_, rfl⟩
                  rw [← eI45] at hW
                  have f46 := z_fr_k f43 (show z_wr L_X12_feed 0 31 = true by decide) eI45
                  obtain ⟨x47, ex47⟩ : ∃ y : Int32, y = y6 + 1 := ⟨_, rfl⟩
                  have tx47 : x47.toInt = y6.toInt + 1 := z_tadd ex47 rfl z_l1 (by omega) (by omega)
                  refine lv_iinc (v := x47) (lv' := [(6, .int x47), (7, .int a4), (0, .ref (ad 0)), (1, .int a1), (2, .int a2), (3, .int a3), (4, .int a4), (5, .int a5)]) hx hb dX12_feed_106 hl (k := 1) rfl (by rw [ex47]; rfl) (by decide) rfl (fun ls hl => ?_)
                  refine lv_goto (tgt := 18) hx hb dX12_feed_109 (by decide) ?_
                  exact lp5ih x47 I45 J8 _ _ _ (by omega) (by omega) ⟨(by show 0 ≤ (I45 0 31).toInt ∧ (I45 0 31).toInt ≤ 500; rw [eI45, z_up_s]; omega), (by show 0 ≤ (I45 0 33).toInt ∧ (I45 0 33).toInt ≤ 500; rw [eI45, z_up_k (by decide), eI42, z_up_n (by decide)]; exact lp5mp.2.1), (by show 0 ≤ (I45 0 34).toInt ∧ (I45 0 34).toInt ≤ 500; rw [eI45, z_up_k (by decide), eI42, z_up_n (by decide)]; exact lp5mp.2.2.1), (by show 0 ≤ (I45 0 35).toInt ∧ (I45 0 35).toInt ≤ 500; rw [eI45, z_up_k (by decide), eI42, z_up_n (by decide)]; exact lp5mp.2.2.2)⟩ (by have q0 : (I45 0 31) = x44 := (by rw [eI45, z_up_s]); show (I45 0 31).toInt = (I 0 31).toInt + x47.toInt; rw [q0]; omega) f46 hW hS (lv_sub hl [0, 2, 3, 4, 5, 6, 7] rfl)
              · have g48 := z_f_nge rfl z_l12 c19
                refine lv_iload_n hx hb dX12_feed_53 rfl (lv_at hl 4 rfl) ?_
                refine lv_goto (tgt := 71) hx hb dX12_feed_54 (by decide) ?_
                refine lv_istore (lv' := [(7, .int a3), (6, .int y6), (0, .ref (ad 0)), (1, .int a1), (2, .int a2), (3, .int a3), (4, .int a4), (5, .int a5)]) hx hb dX12_feed_71 hl (by decide) rfl (fun ls hl => ?_)
                refine lv_aload_n hx hb dX12_feed_73 rfl (lv_at hl 2 rfl) ?_
                refine z_get (T := TX12) (N := 96) (ci := 12) (i := 0) (v := .ref (ad 25)) hx hb hts zj_X12_feed_X12 hown hK hW rfl rfl 30 (by decide) (hts (.fieldLink RX12 83 "PetrolBoardModel" "tape" "[B") (me_s (me_l (List.mem_of_getElem? (i := 1) rfl)))) (fun _ h => h) rfl dX12_feed_74 ?_
                refine lv_aload_n hx hb dX12_feed_77 rfl (lv_at hl 2 rfl) ?_
                have r49 : 0 ≤ (I7 0 31).toInt ∧ (I7 0 31).toInt ≤ 500 := lp5mp.1
                refine z_get (T := TX12) (N := 96) (ci := 12) (i := 0) (v := .int (I7 0 31)) hx hb hts zj_X12_feed_X12 hown hK hW rfl rfl 31 (by decide) (hts (.fieldLink RX12 253 "PetrolBoardModel" "taped" "I") (me_s (me_l (List.mem_of_getElem? (i := 0) rfl)))) (fun _ h => h) rfl dX12_feed_78 ?_
                refine lv_iload hx hb dX12_feed_81 (lv_at hl 0 rfl) ?_
                refine lv_bipush (v := 24) hx hb dX12_feed_83 (by decide) ?_
                refine lv_bipush (v := 8) hx hb dX12_feed_85 (by decide) ?_
                refine lv_iload hx hb dX12_feed_87 (lv_at hl 1 rfl) ?_
                refine lv_iconst (v := 4) hx hb dX12_feed_89 (by decide) ?_
                refine lv_irem hx hb dX12_feed_90 (by decide) ?_
                refine lv_topi (fun x50 ex50 => ?_)
                have tx50 := z_trem ex50 rfl z_l4 (by decide)
                refine lv_imul hx hb dX12_feed_91 ?_
                refine lv_topi (fun x51 ex51 => ?_)
                have tx51 : x51.toInt = 8 * x50.toInt := z_tmul ex51 z_l8 rfl (by omega) (by omega)
                refine lv_isub hx hb dX12_feed_92 ?_
                refine lv_topi (fun x52 ex52 => ?_)
                have tx52 : x52.toInt = 24 - x51.toInt := z_tsub ex52 z_l24 rfl (by omega) (by omega)
                refine lv_ishr hx hb dX12_feed_93 ?_
                refine lv_topi (fun x53 ex53 => ?_)
                refine lv_i2b hx hb dX12_feed_94 rfl ?_
                refine lv_topi (fun x54 ex54 => ?_)
                refine z_bast (i := 25) hx hb hK hW hS rfl (z_ix rfl (by omega) (by omega)) dX12_feed_95 (fun H locs hz1 hW hS => ?_)
                obtain ⟨I55, eI55⟩ : ∃ K : z_I, K = z_up I7 25 (I7 0 31).toNatClampNeg (vp_nar .byte x54) := ⟨_, rfl⟩
                rw [← eI55] at hW
                have f56 := z_fr_a lp5fr (show z_wa L_X12_feed 25 = true by decide) eI55
                refine lv_aload_n hx hb dX12_feed_96 rfl (lv_at hl 2 rfl) ?_
                refine lv_dup hx hb dX12_feed_97 rfl ?_
                refine z_get (T := TX12) (N := 96) (ci := 12) (i := 0) (v := .int (I7 0 31)) hx hb hts zj_X12_feed_X12 hown hK hW rfl rfl 31 (by decide) (hts (.fieldLink RX12 253 "PetrolBoardModel" "taped" "I") (me_s (me_l (List.mem_of_getElem? (i := 0) rfl)))) (fun _ h => h) (congrArg Value.int (by rw [eI55, z_up_n (by decide)])) dX12_feed_98 ?_
                refine lv_iconst (v := 1) hx hb dX12_feed_101 (by decide) ?_
                refine lv_iadd hx hb dX12_feed_102 ?_
                refine lv_topi (fun x57 ex57 => ?_)
                have tx57 : x57.toInt = (I7 0 31).toInt + 1 := z_tadd ex57 rfl z_l1 (by omega) (by omega)
                refine z_put (T := TX12) (N := 96) (ci := 12) (i := 0) (v := .int x57) (I1 := z_up I55 0 31 x57) (J1 := J8) (P1 := PM ad) hx hb hts zj_X12_feed_X12 tyX12 tyX12_ok nmX12 hown hK hW hS rfl rfl 31 (by decide) (hts (.fieldLink RX12 253 "PetrolBoardModel" "taped" "I") (me_s (me_l (List.mem_of_getElem? (i := 0) rfl)))) (fun _ h => h) rfl rfl rfl (by first | rfl | exact congrArg _ z_up_s) (fun a b h ty => z_vI h ty) dX12_feed_103 (fun H locs hz1 hW hS => ?_)
                obtain ⟨I58, eI58⟩ : ∃ K : z_I, K = z_up I55 0 31 x57 := ⟨_, rfl⟩
                rw [← eI58] at hW
                have f59 := z_fr_k f56 (show z_wr L_X12_feed 0 31 = true by decide) eI58
                obtain ⟨x60, ex60⟩ : ∃ y : Int32, y = y6 + 1 := ⟨_, rfl⟩
                have tx60 : x60.toInt = y6.toInt + 1 := z_tadd ex60 rfl z_l1 (by omega) (by omega)
                refine lv_iinc (v := x60) (lv' := [(6, .int x60), (7, .int a3), (0, .ref (ad 0)), (1, .int a1), (2, .int a2), (3, .int a3), (4, .int a4), (5, .int a5)]) hx hb dX12_feed_106 hl (k := 1) rfl (by rw [ex60]; rfl) (by decide) rfl (fun ls hl => ?_)
                refine lv_goto (tgt := 18) hx hb dX12_feed_109 (by decide) ?_
                exact lp5ih x60 I58 J8 _ _ _ (by omega) (by omega) ⟨(by show 0 ≤ (I58 0 31).toInt ∧ (I58 0 31).toInt ≤ 500; rw [eI58, z_up_s]; omega), (by show 0 ≤ (I58 0 33).toInt ∧ (I58 0 33).toInt ≤ 500; rw [eI58, z_up_k (by decide), eI55, z_up_n (by decide)]; exact lp5mp.2.1), (by show 0 ≤ (I58 0 34).toInt ∧ (I58 0 34).toInt ≤ 500; rw [eI58, z_up_k (by decide), eI55, z_up_n (by decide)]; exact lp5mp.2.2.1), (by show 0 ≤ (I58 0 35).toInt ∧ (I58 0 35).toInt ≤ 500; rw [eI58, z_up_k (by decide), eI55, z_up_n (by decide)]; exact lp5mp.2.2.2)⟩ (by have q0 : (I58 0 31) = x57 := (by rw [eI58, z_up_s]); show (I58 0 31).toInt = (I 0 31).toInt + x60.toInt; rw [q0]; omega) f59 hW hS (lv_sub hl [0, 2, 3, 4, 5, 6, 7] rfl)
            · have g61 := z_f_nge rfl z_l8 c17
              refine lv_iload_n hx hb dX12_feed_42 rfl (lv_at hl 3 rfl) ?_
              refine lv_goto (tgt := 71) hx hb dX12_feed_43 (by decide) ?_
              refine lv_istore (lv' := [(7, .int a2), (6, .int y6), (0, .ref (ad 0)), (1, .int a1), (2, .int a2), (3, .int a3), (4, .int a4), (5, .int a5)]) hx hb dX12_feed_71 hl (by decide) rfl (fun ls hl => ?_)
              refine lv_aload_n hx hb dX12_feed_73 rfl (lv_at hl 2 rfl) ?_
              refine z_get (T := TX12) (N := 96) (ci := 12) (i := 0) (v := .ref (ad 25)) hx hb hts zj_X12_feed_X12 hown hK hW rfl rfl 30 (by decide) (hts (.fieldLink RX12 83 "PetrolBoardModel" "tape" "[B") (me_s (me_l (List.mem_of_getElem? (i := 1) rfl)))) (fun _ h => h) rfl dX12_feed_74 ?_
              refine lv_aload_n hx hb dX12_feed_77 rfl (lv_at hl 2 rfl) ?_
              have r62 : 0 ≤ (I7 0 31).toInt ∧ (I7 0 31).toInt ≤ 500 := lp5mp.1
              refine z_get (T := TX12) (N := 96) (ci := 12) (i := 0) (v := .int (I7 0 31)) hx hb hts zj_X12_feed_X12 hown hK hW rfl rfl 31 (by decide) (hts (.fieldLink RX12 253 "PetrolBoardModel" "taped" "I") (me_s (me_l (List.mem_of_getElem? (i := 0) rfl)))) (fun _ h => h) rfl dX12_feed_78 ?_
              refine lv_iload hx hb dX12_feed_81 (lv_at hl 0 rfl) ?_
              refine lv_bipush (v := 24) hx hb dX12_feed_83 (by decide) ?_
              refine lv_bipush (v := 8) hx hb dX12_feed_85 (by decide) ?_
              refine lv_iload hx hb dX12_feed_87 (lv_at hl 1 rfl) ?_
              refine lv_iconst (v := 4) hx hb dX12_feed_89 (by decide) ?_
              refine lv_irem hx hb dX12_feed_90 (by decide) ?_
              refine lv_topi (fun x63 ex63 => ?_)
              have tx63 := z_trem ex63 rfl z_l4 (by decide)
              refine lv_imul hx hb dX12_feed_91 ?_
              refine lv_topi (fun x64 ex64 => ?_)
              have tx64 : x64.toInt = 8 * x63.toInt := z_tmul ex64 z_l8 rfl (by omega) (by omega)
              refine lv_isub hx hb dX12_feed_92 ?_
              refine lv_topi (fun x65 ex65 => ?_)
              have tx65 : x65.toInt = 24 - x64.toInt := z_tsub ex65 z_l24 rfl (by omega) (by omega)
              refine lv_ishr hx hb dX12_feed_93 ?_
              refine lv_topi (fun x66 ex66 => ?_)
              refine lv_i2b hx hb dX12_feed_94 rfl ?_
              refine lv_topi (fun x67 ex67 => ?_)
              refine z_bast (i := 25) hx hb hK hW hS rfl (z_ix rfl (by omega) (by omega)) dX12_feed_95 (fun H locs hz1 hW hS => ?_)
              obtain ⟨I68, eI68⟩ : ∃ K : z_I, K = z_up I7 25 (I7 0 31).toNatClampNeg (vp_nar .byte x67) := ⟨_, rfl⟩
              rw [← eI68] at hW
              have f69 := z_fr_a lp5fr (show z_wa L_X12_feed 25 = true by decide) eI68
              refine lv_aload_n hx hb dX12_feed_96 rfl (lv_at hl 2 rfl) ?_
              refine lv_dup hx hb dX12_feed_97 rfl ?_
              refine z_get (T := TX12) (N := 96) (ci := 12) (i := 0) (v := .int (I7 0 31)) hx hb hts zj_X12_feed_X12 hown hK hW rfl rfl 31 (by decide) (hts (.fieldLink RX12 253 "PetrolBoardModel" "taped" "I") (me_s (me_l (List.mem_of_getElem? (i := 0) rfl)))) (fun _ h => h) (congrArg Value.int (by rw [eI68, z_up_n (by decide)])) dX12_feed_98 ?_
              refine lv_iconst (v := 1) hx hb dX12_feed_101 (by decide) ?_
              refine lv_iadd hx hb dX12_feed_102 ?_
              refine lv_topi (fun x70 ex70 => ?_)
              have tx70 : x70.toInt = (I7 0 31).toInt + 1 := z_tadd ex70 rfl z_l1 (by omega) (by omega)
              refine z_put (T := TX12) (N := 96) (ci := 12) (i := 0) (v := .int x70) (I1 := z_up I68 0 31 x70) (J1 := J8) (P1 := PM ad) hx hb hts zj_X12_feed_X12 tyX12 tyX12_ok nmX12 hown hK hW hS rfl rfl 31 (by decide) (hts (.fieldLink RX12 253 "PetrolBoardModel" "taped" "I") (me_s (me_l (List.mem_of_getElem? (i := 0) rfl)))) (fun _ h => h) rfl rfl rfl (by first | rfl | exact congrArg _ z_up_s) (fun a b h ty => z_vI h ty) dX12_feed_103 (fun H locs hz1 hW hS => ?_)
              obtain ⟨I71, eI71⟩ : ∃ K : z_I, K = z_up I68 0 31 x70 := ⟨_, rfl⟩
              rw [← eI71] at hW
              have f72 := z_fr_k f69 (show z_wr L_X12_feed 0 31 = true by decide) eI71
              obtain ⟨x73, ex73⟩ : ∃ y : Int32, y = y6 + 1 := ⟨_, rfl⟩
              have tx73 : x73.toInt = y6.toInt + 1 := z_tadd ex73 rfl z_l1 (by omega) (by omega)
              refine lv_iinc (v := x73) (lv' := [(6, .int x73), (7, .int a2), (0, .ref (ad 0)), (1, .int a1), (2, .int a2), (3, .int a3), (4, .int a4), (5, .int a5)]) hx hb dX12_feed_106 hl (k := 1) rfl (by rw [ex73]; rfl) (by decide) rfl (fun ls hl => ?_)
              refine lv_goto (tgt := 18) hx hb dX12_feed_109 (by decide) ?_
              exact lp5ih x73 I71 J8 _ _ _ (by omega) (by omega) ⟨(by show 0 ≤ (I71 0 31).toInt ∧ (I71 0 31).toInt ≤ 500; rw [eI71, z_up_s]; omega), (by show 0 ≤ (I71 0 33).toInt ∧ (I71 0 33).toInt ≤ 500; rw [eI71, z_up_k (by decide), eI68, z_up_n (by decide)]; exact lp5mp.2.1), (by show 0 ≤ (I71 0 34).toInt ∧ (I71 0 34).toInt ≤ 500; rw [eI71, z_up_k (by decide), eI68, z_up_n (by decide)]; exact lp5mp.2.2.1), (by show 0 ≤ (I71 0 35).toInt ∧ (I71 0 35).toInt ≤ 500; rw [eI71, z_up_k (by decide), eI68, z_up_n (by decide)]; exact lp5mp.2.2.2)⟩ (by have q0 : (I71 0 31) = x70 := (by rw [eI71, z_up_s]); show (I71 0 31).toInt = (I 0 31).toInt + x73.toInt; rw [q0]; omega) f72 hW hS (lv_sub hl [0, 2, 3, 4, 5, 6, 7] rfl)
          · have g74 := z_f_nge rfl z_l4 c15
            refine lv_iload_n hx hb dX12_feed_31 rfl (lv_at hl 2 rfl) ?_
            refine lv_goto (tgt := 71) hx hb dX12_feed_32 (by decide) ?_
            refine lv_istore (lv' := [(7, .int a1), (6, .int y6), (0, .ref (ad 0)), (1, .int a1), (2, .int a2), (3, .int a3), (4, .int a4), (5, .int a5)]) hx hb dX12_feed_71 hl (by decide) rfl (fun ls hl => ?_)
            refine lv_aload_n hx hb dX12_feed_73 rfl (lv_at hl 2 rfl) ?_
            refine z_get (T := TX12) (N := 96) (ci := 12) (i := 0) (v := .ref (ad 25)) hx hb hts zj_X12_feed_X12 hown hK hW rfl rfl 30 (by decide) (hts (.fieldLink RX12 83 "PetrolBoardModel" "tape" "[B") (me_s (me_l (List.mem_of_getElem? (i := 1) rfl)))) (fun _ h => h) rfl dX12_feed_74 ?_
            refine lv_aload_n hx hb dX12_feed_77 rfl (lv_at hl 2 rfl) ?_
            have r75 : 0 ≤ (I7 0 31).toInt ∧ (I7 0 31).toInt ≤ 500 := lp5mp.1
            refine z_get (T := TX12) (N := 96) (ci := 12) (i := 0) (v := .int (I7 0 31)) hx hb hts zj_X12_feed_X12 hown hK hW rfl rfl 31 (by decide) (hts (.fieldLink RX12 253 "PetrolBoardModel" "taped" "I") (me_s (me_l (List.mem_of_getElem? (i := 0) rfl)))) (fun _ h => h) rfl dX12_feed_78 ?_
            refine lv_iload hx hb dX12_feed_81 (lv_at hl 0 rfl) ?_
            refine lv_bipush (v := 24) hx hb dX12_feed_83 (by decide) ?_
            refine lv_bipush (v := 8) hx hb dX12_feed_85 (by decide) ?_
            refine lv_iload hx hb dX12_feed_87 (lv_at hl 1 rfl) ?_
            refine lv_iconst (v := 4) hx hb dX12_feed_89 (by decide) ?_
            refine lv_irem hx hb dX12_feed_90 (by decide) ?_
            refine lv_topi (fun x76 ex76 => ?_)
            have tx76 := z_trem ex76 rfl z_l4 (by decide)
            refine lv_imul hx hb dX12_feed_91 ?_
            refine lv_topi (fun x77 ex77 => ?_)
            have tx77 : x77.toInt = 8 * x76.toInt := z_tmul ex77 z_l8 rfl (by omega) (by omega)
            refine lv_isub hx hb dX12_feed_92 ?_
            refine lv_topi (fun x78 ex78 => ?_)
            have tx78 : x78.toInt = 24 - x77.toInt := z_tsub ex78 z_l24 rfl (by omega) (by omega)
            refine lv_ishr hx hb dX12_feed_93 ?_
            refine lv_topi (fun x79 ex79 => ?_)
            refine lv_i2b hx hb dX12_feed_94 rfl ?_
            refine lv_topi (fun x80 ex80 => ?_)
            refine z_bast (i := 25) hx hb hK hW hS rfl (z_ix rfl (by omega) (by omega)) dX12_feed_95 (fun H locs hz1 hW hS => ?_)
            obtain ⟨I81, eI81⟩ : ∃ K : z_I, K = z_up I7 25 (I7 0 31).toNatClampNeg (vp_nar .byte x80) := ⟨_, rfl⟩
            rw [← eI81] at hW
            have f82 := z_fr_a lp5fr (show z_wa L_X12_feed 25 = true by decide) eI81
            refine lv_aload_n hx hb dX12_feed_96 rfl (lv_at hl 2 rfl) ?_
            refine lv_dup hx hb dX12_feed_97 rfl ?_
            refine z_get (T := TX12) (N := 96) (ci := 12) (i := 0) (v := .int (I7 0 31)) hx hb hts zj_X12_feed_X12 hown hK hW rfl rfl 31 (by decide) (hts (.fieldLink RX12 253 "PetrolBoardModel" "taped" "I") (me_s (me_l (List.mem_of_getElem? (i := 0) rfl)))) (fun _ h => h) (congrArg Value.int (by rw [eI81, z_up_n (by decide)])) dX12_feed_98 ?_
            refine lv_iconst (v := 1) hx hb dX12_feed_101 (by decide) ?_
            refine lv_iadd hx hb dX12_feed_102 ?_
            refine lv_topi (fun x83 ex83 => ?_)
            have tx83 : x83.toInt = (I7 0 31).toInt + 1 := z_tadd ex83 rfl z_l1 (by omega) (by omega)
            refine z_put (T := TX12) (N := 96) (ci := 12) (i := 0) (v := .int x83) (I1 := z_up I81 0 31 x83) (J1 := J8) (P1 := PM ad) hx hb hts zj_X12_feed_X12 tyX12 tyX12_ok nmX12 hown hK hW hS rfl rfl 31 (by decide) (hts (.fieldLink RX12 253 "PetrolBoardModel" "taped" "I") (me_s (me_l (List.mem_of_getElem? (i := 0) rfl)))) (fun _ h => h) rfl rfl rfl (by first | rfl | exact congrArg _ z_up_s) (fun a b h ty => z_vI h ty) dX12_feed_103 (fun H locs hz1 hW hS => ?_)
            obtain ⟨I84, eI84⟩ : ∃ K : z_I, K = z_up I81 0 31 x83 := ⟨_, rfl⟩
            rw [← eI84] at hW
            have f85 := z_fr_k f82 (show z_wr L_X12_feed 0 31 = true by decide) eI84
            obtain ⟨x86, ex86⟩ : ∃ y : Int32, y = y6 + 1 := ⟨_, rfl⟩
            have tx86 : x86.toInt = y6.toInt + 1 := z_tadd ex86 rfl z_l1 (by omega) (by omega)
            refine lv_iinc (v := x86) (lv' := [(6, .int x86), (7, .int a1), (0, .ref (ad 0)), (1, .int a1), (2, .int a2), (3, .int a3), (4, .int a4), (5, .int a5)]) hx hb dX12_feed_106 hl (k := 1) rfl (by rw [ex86]; rfl) (by decide) rfl (fun ls hl => ?_)
            refine lv_goto (tgt := 18) hx hb dX12_feed_109 (by decide) ?_
            exact lp5ih x86 I84 J8 _ _ _ (by omega) (by omega) ⟨(by show 0 ≤ (I84 0 31).toInt ∧ (I84 0 31).toInt ≤ 500; rw [eI84, z_up_s]; omega), (by show 0 ≤ (I84 0 33).toInt ∧ (I84 0 33).toInt ≤ 500; rw [eI84, z_up_k (by decide), eI81, z_up_n (by decide)]; exact lp5mp.2.1), (by show 0 ≤ (I84 0 34).toInt ∧ (I84 0 34).toInt ≤ 500; rw [eI84, z_up_k (by decide), eI81, z_up_n (by decide)]; exact lp5mp.2.2.1), (by show 0 ≤ (I84 0 35).toInt ∧ (I84 0 35).toInt ≤ 500; rw [eI84, z_up_k (by decide), eI81, z_up_n (by decide)]; exact lp5mp.2.2.2)⟩ (by have q0 : (I84 0 31) = x83 := (by rw [eI84, z_up_s]); show (I84 0 31).toInt = (I 0 31).toInt + x86.toInt; rw [q0]; omega) f85 hW hS (lv_sub hl [0, 2, 3, 4, 5, 6, 7] rfl)
    exact lp5 4294967296 (0) I J _ _ _ (z_m0u _) (by rw [z_l0]; omega) ⟨(by show 0 ≤ (I 0 31).toInt ∧ (I 0 31).toInt ≤ 500; exact hmp.1), (by show 0 ≤ (I 0 33).toInt ∧ (I 0 33).toInt ≤ 500; exact hmp.2.1), (by show 0 ≤ (I 0 34).toInt ∧ (I 0 34).toInt ≤ 500; exact hmp.2.2.1), (by show 0 ≤ (I 0 35).toInt ∧ (I 0 35).toInt ≤ 500; exact hmp.2.2.2)⟩ (by show (I 0 31).toInt = (I 0 31).toInt + 0; omega) z_fr_0 hW hS (lv_sub hl [0, 1, 2, 3, 4, 5, 6] rfl)
  · have g87 := z_f_nle rfl z_l500 c3
    refine lv_iconst (v := (-1)) hx hb dX12_feed_13 (by decide) ?_
    exact z_iret hx hb hr hK hS (Nat.le_of_ble_eq_true rfl) (Nat.le_of_ble_eq_true rfl) hlocks dX12_feed_14 (shM, ad, I, J, PM ad) hW ⟨I, J, rfl, ⟨(by show 0 ≤ (I 0 31).toInt ∧ (I 0 31).toInt ≤ 500; exact hmp.1), (by show 0 ≤ (I 0 33).toInt ∧ (I 0 33).toInt ≤ 500; exact hmp.2.1), (by show 0 ≤ (I 0 34).toInt ∧ (I 0 34).toInt ≤ 500; exact hmp.2.2.1), (by show 0 ≤ (I 0 35).toInt ∧ (I 0 35).toInt ≤ 500; exact hmp.2.2.2)⟩, z_fr_0⟩
