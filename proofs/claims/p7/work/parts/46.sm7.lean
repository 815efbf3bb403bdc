theorem dX12_parse_0 : decode cX12_parse 0 = .ok (.aload_n 0, 1) := by decide +kernel
theorem dX12_parse_1 : decode cX12_parse 1 = .ok (.iconst 0, 1) := by decide +kernel
theorem dX12_parse_2 : decode cX12_parse 2 = .ok (.putfield 340, 3) := by decide +kernel
theorem dX12_parse_5 : decode cX12_parse 5 = .ok (.aload_n 0, 1) := by decide +kernel
theorem dX12_parse_6 : decode cX12_parse 6 = .ok (.iconst 0, 1) := by decide +kernel
theorem dX12_parse_7 : decode cX12_parse 7 = .ok (.putfield 346, 3) := by decide +kernel
theorem dX12_parse_10 : decode cX12_parse 10 = .ok (.aload_n 0, 1) := by decide +kernel
theorem dX12_parse_11 : decode cX12_parse 11 = .ok (.iload_n 1, 1) := by decide +kernel
set_option maxRecDepth 20000 in
theorem ggX12_parse_X12_begin : GoodIn wsX12_parse wsX12_begin := goodIn_sub (fa_c (me_s (me_l (me_l (List.mem_of_getElem? (i := 9) rfl)))) (fa_a (fa_c (me_s (me_l (me_l (List.mem_of_getElem? (i := 3) rfl)))) (fa_c (me_s (me_l (me_l (List.mem_of_getElem? (i := 0) rfl)))) (fa_c (me_s (me_l (me_l (List.mem_of_getElem? (i := 10) rfl)))) (fa_c (me_s (me_l (me_l (List.mem_of_getElem? (i := 11) rfl)))) (fa_c (me_s (me_l (me_l (List.mem_of_getElem? (i := 12) rfl)))) fa_n))))) (fun w h => (me_s (me_r h))))) (by decide +kernel)
set_option maxRecDepth 20000 in
theorem gX12_parse_X12_begin : GoodIn wsX12_parse (wsV RX12 349 RX12 yX12_begin wsX12_begin) := goodIn_app (goodIn_sub (fa_c (me_s (me_l (me_l (List.mem_of_getElem? (i := 5) rfl)))) (fa_c (me_s (me_l (me_l (List.mem_of_getElem? (i := 6) rfl)))) (fa_c (me_s (me_l (me_l (List.mem_of_getElem? (i := 7) rfl)))) (fa_c (me_s (me_l (me_l (List.mem_of_getElem? (i := 8) rfl)))) fa_n)))) (by decide +kernel)) ggX12_parse_X12_begin
theorem dX12_parse_12 : decode cX12_parse 12 = .ok (.invokevirtual 349, 3) := by decide +kernel
theorem dX12_parse_15 : decode cX12_parse 15 = .ok (.aload_n 0, 1) := by decide +kernel
theorem dX12_parse_16 : decode cX12_parse 16 = .ok (.getfield 340, 3) := by decide +kernel
theorem dX12_parse_19 : decode cX12_parse 19 = .ok (.ifCond .le 90, 3) := by decide +kernel
theorem dX12_parse_109 : decode cX12_parse 109 = .ok (.aload_n 0, 1) := by decide +kernel
theorem dX12_parse_110 : decode cX12_parse 110 = .ok (.getfield 343, 3) := by decide +kernel
theorem dX12_parse_113 : decode cX12_parse 113 = .ok (.ireturn, 1) := by decide +kernel
theorem dX12_parse_22 : decode cX12_parse 22 = .ok (.aload_n 0, 1) := by decide +kernel
theorem dX12_parse_23 : decode cX12_parse 23 = .ok (.getfield 294, 3) := by decide +kernel
theorem dX12_parse_26 : decode cX12_parse 26 = .ok (.ifCond .ne 83, 3) := by decide +kernel
theorem dX12_parse_29 : decode cX12_parse 29 = .ok (.aload_n 0, 1) := by decide +kernel
theorem dX12_parse_30 : decode cX12_parse 30 = .ok (.getfield 340, 3) := by decide +kernel
theorem dX12_parse_33 : decode cX12_parse 33 = .ok (.iconst 1, 1) := by decide +kernel
theorem dX12_parse_34 : decode cX12_parse 34 = .ok (.isub, 1) := by decide +kernel
theorem dX12_parse_35 : decode cX12_parse 35 = .ok (.istore_n 2, 1) := by decide +kernel
theorem dX12_parse_36 : decode cX12_parse 36 = .ok (.aload_n 0, 1) := by decide +kernel
theorem dX12_parse_37 : decode cX12_parse 37 = .ok (.getfield 91, 3) := by decide +kernel
theorem dX12_parse_40 : decode cX12_parse 40 = .ok (.iload_n 2, 1) := by decide +kernel
theorem dX12_parse_41 : decode cX12_parse 41 = .ok (.iaload, 1) := by decide +kernel
theorem dX12_parse_42 : decode cX12_parse 42 = .ok (.istore_n 3, 1) := by decide +kernel
theorem dX12_parse_43 : decode cX12_parse 43 = .ok (.iload_n 3, 1) := by decide +kernel
theorem dX12_parse_44 : decode cX12_parse 44 = .ok (.iconst 2, 1) := by decide +kernel
theorem dX12_parse_45 : decode cX12_parse 45 = .ok (.if_icmp .ge 20, 3) := by decide +kernel
theorem dX12_parse_65 : decode cX12_parse 65 = .ok (.iload_n 3, 1) := by decide +kernel
theorem dX12_parse_66 : decode cX12_parse 66 = .ok (.iconst 2, 1) := by decide +kernel
theorem dX12_parse_67 : decode cX12_parse 67 = .ok (.if_icmp .ne 11, 3) := by decide +kernel
theorem dX12_parse_78 : decode cX12_parse 78 = .ok (.iload_n 3, 1) := by decide +kernel
theorem dX12_parse_79 : decode cX12_parse 79 = .ok (.iconst 5, 1) := by decide +kernel
theorem dX12_parse_80 : decode cX12_parse 80 = .ok (.if_icmp .ge 21, 3) := by decide +kernel
theorem dX12_parse_101 : decode cX12_parse 101 = .ok (.aload_n 0, 1) := by decide +kernel
theorem dX12_parse_102 : decode cX12_parse 102 = .ok (.iload_n 2, 1) := by decide +kernel
set_option maxRecDepth 20000 in
theorem ggX12_parse_X12_test : GoodIn wsX12_parse wsX12_test := goodIn_sub (fa_c (me_s (me_l (me_r (me_r (me_r (me_r (List.mem_of_getElem? (i := 8) rfl))))))) (fa_a (fa_a (fa_c (me_s (me_l (me_l (List.mem_of_getElem? (i := 10) rfl)))) (fa_c (me_s (me_l (me_r (me_r (me_r (me_r (List.mem_of_getElem? (i := 9) rfl))))))) (fa_c (me_s (me_l (me_l (List.mem_of_getElem? (i := 1) rfl)))) (fa_c (me_s (me_l (me_l (List.mem_of_getElem? (i := 4) rfl)))) (fa_c (me_s (me_l (me_l (List.mem_of_getElem? (i := 2) rfl)))) (fa_c (me_s (me_l (me_l (List.mem_of_getElem? (i := 11) rfl)))) (fa_c (me_s (me_l (me_l (List.mem_of_getElem? (i := 12) rfl)))) (fa_c (me_s (me_l (me_r (me_r (me_r (me_l (List.mem_of_getElem? (i := 4) rfl))))))) (fa_c (me_s (me_l (me_r (me_r (me_r (me_l (List.mem_of_getElem? (i := 5) rfl))))))) (fa_c (me_s (me_l (me_r (me_r (me_r (me_l (List.mem_of_getElem? (i := 6) rfl))))))) (fa_c (me_s (me_l (me_l (List.mem_of_getElem? (i := 8) rfl)))) (fa_c (me_s (me_l (me_r (me_r (me_r (me_l (List.mem_of_getElem? (i := 7) rfl))))))) (fa_c (me_s (me_l (me_r (me_l (List.mem_of_getElem? (i := 5) rfl))))) (fa_c (me_s (me_l (me_r (me_l (List.mem_of_getElem? (i := 14) rfl))))) (fa_c (me_s (me_l (me_r (me_r (me_l (List.mem_of_getElem? (i := 19) rfl)))))) (fa_c (me_s (me_l (me_r (me_r (me_l (List.mem_of_getElem? (i := 20) rfl)))))) (fa_c (me_s (me_l (me_r (me_r (me_l (List.mem_of_getElem? (i := 21) rfl)))))) (fa_c (me_s (me_l (me_r (me_r (me_l (List.mem_of_getElem? (i := 22) rfl)))))) (fa_c (me_s (me_l (me_r (me_r (me_l (List.mem_of_getElem? (i := 23) rfl)))))) (fa_c (me_s (me_l (me_r (me_r (me_r (me_l (List.mem_of_getElem? (i := 0) rfl))))))) (fa_c (me_s (me_l (me_r (me_r (me_r (me_l (List.mem_of_getElem? (i := 1) rfl))))))) (fa_c (me_s (me_l (me_r (me_r (me_r (me_l (List.mem_of_getElem? (i := 2) rfl))))))) (fa_c (me_s (me_l (me_r (me_l (List.mem_of_getElem? (i := 12) rfl))))) (fa_c (me_s (me_l (me_r (me_r (me_r (me_l (List.mem_of_getElem? (i := 3) rfl))))))) fa_n)))))))))))))))))))))))) (fa_a (fa_c (me_s (me_l (me_r (me_l (List.mem_of_getElem? (i := 7) rfl))))) (fa_c (me_s (me_l (me_r (me_l (List.mem_of_getElem? (i := 8) rfl))))) (fa_c (me_s (me_l (me_r (me_l (List.mem_of_getElem? (i := 9) rfl))))) (fa_c (me_s (me_l (me_r (me_l (List.mem_of_getElem? (i := 10) rfl))))) (fa_c (me_s (me_l (me_r (me_l (List.mem_of_getElem? (i := 11) rfl))))) (fa_c (me_s (me_l (me_r (me_l (List.mem_of_getElem? (i := 13) rfl))))) (fa_c (me_s (me_l (me_r (me_l (List.mem_of_getElem? (i := 6) rfl))))) (fa_c (me_s (me_l (me_r (me_l (List.mem_of_getElem? (i := 15) rfl))))) (fa_c (me_s (me_l (me_r (me_l (List.mem_of_getElem? (i := 16) rfl))))) (fa_c (me_s (me_l (me_r (me_l (List.mem_of_getElem? (i := 17) rfl))))) (fa_c (me_s (me_l (me_r (me_l (List.mem_of_getElem? (i := 18) rfl))))) (fa_c (me_s (me_l (me_r (me_l (List.mem_of_getElem? (i := 19) rfl))))) (fa_c (me_s (me_l (me_r (me_l (List.mem_of_getElem? (i := 20) rfl))))) (fa_c (me_s (me_l (me_r (me_l (List.mem_of_getElem? (i := 21) rfl))))) (fa_c (me_s (me_l (me_r (me_l (List.mem_of_getElem? (i := 22) rfl))))) (fa_c (me_s (me_l (me_r (me_l (List.mem_of_getElem? (i := 23) rfl))))) (fa_c (me_s (me_l (me_r (me_r (me_l (List.mem_of_getElem? (i := 0) rfl)))))) (fa_c (me_s (me_l (me_r (me_r (me_l (List.mem_of_getElem? (i := 1) rfl)))))) (fa_c (me_s (me_l (me_r (me_r (me_l (List.mem_of_getElem? (i := 2) rfl)))))) (fa_c (me_s (me_l (me_r (me_r (me_l (List.mem_of_getElem? (i := 3) rfl)))))) (fa_c (me_s (me_l (me_r (me_r (me_l (List.mem_of_getElem? (i := 4) rfl)))))) (fa_c (me_s (me_l (me_r (me_r (me_l (List.mem_of_getElem? (i := 5) rfl)))))) (fa_c (me_s (me_l (me_r (me_r (me_l (List.mem_of_getElem? (i := 6) rfl)))))) (fa_c (me_s (me_l (me_r (me_r (me_l (List.mem_of_getElem? (i := 7) rfl)))))) fa_n)))))))))))))))))))))))) (fa_a (fa_c (me_s (me_l (me_r (me_r (me_l (List.mem_of_getElem? (i := 8) rfl)))))) (fa_c (me_s (me_l (me_l (List.mem_of_getElem? (i := 5) rfl)))) (fa_c (me_s (me_l (me_l (List.mem_of_getElem? (i := 6) rfl)))) (fa_c (me_s (me_l (me_l (List.mem_of_getElem? (i := 7) rfl)))) (fa_c (me_s (me_l (me_l (List.mem_of_getElem? (i := 9) rfl)))) (fa_c (me_s (me_l (me_l (List.mem_of_getElem? (i := 3) rfl)))) (fa_c (me_s (me_l (me_l (List.mem_of_getElem? (i := 0) rfl)))) (fa_c (me_s (me_l (me_r (me_l (List.mem_of_getElem? (i := 1) rfl))))) (fa_c (me_s (me_l (me_r (me_l (List.mem_of_getElem? (i := 2) rfl))))) (fa_c (me_s (me_l (me_r (me_l (List.mem_of_getElem? (i := 3) rfl))))) (fa_c (me_s (me_l (me_r (me_l (List.mem_of_getElem? (i := 4) rfl))))) (fa_c (me_s (me_l (me_l (List.mem_of_getElem? (i := 17) rfl)))) (fa_c (me_s (me_l (me_l (List.mem_of_getElem? (i := 18) rfl)))) (fa_c (me_s (me_l (me_l (List.mem_of_getElem? (i := 19) rfl)))) (fa_c (me_s (me_l (me_l (List.mem_of_getElem? (i := 20) rfl)))) (fa_c (me_s (me_l (me_l (List.mem_of_getElem? (i := 21) rfl)))) (fa_c (me_s (me_l (me_l (List.mem_of_getElem? (i := 22) rfl)))) (fa_c (me_s (me_l (me_l (List.mem_of_getElem? (i := 23) rfl)))) (fa_c (me_s (me_l (me_r (me_l (List.mem_of_getElem? (i := 0) rfl))))) (fa_c (me_s (me_l (me_r (me_r (me_l (List.mem_of_getElem? (i := 9) rfl)))))) (fa_c (me_s (me_l (me_r (me_r (me_l (List.mem_of_getElem? (i := 10) rfl)))))) (fa_c (me_s (me_l (me_r (me_r (me_l (List.mem_of_getElem? (i := 11) rfl)))))) (fa_c (me_s (me_l (me_r (me_r (me_l (List.mem_of_getElem? (i := 12) rfl)))))) (fa_c (me_s (me_l (me_r (me_r (me_r (me_l (List.mem_of_getElem? (i := 8) rfl))))))) fa_n)))))))))))))))))))))))) (fa_c (me_s (me_l (me_r (me_r (me_r (me_l (List.mem_of_getElem? (i := 9) rfl))))))) (fa_c (me_s (me_l (me_r (me_r (me_r (me_l (List.mem_of_getElem? (i := 10) rfl))))))) (fa_c (me_s (me_l (me_r (me_r (me_r (me_l (List.mem_of_getElem? (i := 11) rfl))))))) fa_n)))))) (fun w h => (me_s (me_r h))))) (by decide +kernel)
set_option maxRecDepth 20000 in
theorem gX12_parse_X12_test : GoodIn wsX12_parse (wsV RX12 363 RX12 yX12_test wsX12_test) := goodIn_app (goodIn_sub (fa_c (me_s (me_l (me_r (me_r (me_r (me_r (List.mem_of_getElem? (i := 5) rfl))))))) (fa_c (me_s (me_l (me_r (me_r (me_r (me_r (List.mem_of_getElem? (i := 6) rfl))))))) (fa_c (me_s (me_l (me_r (me_r (me_r (me_r (List.mem_of_getElem? (i := 7) rfl))))))) (fa_c (me_s (me_l (me_l (List.mem_of_getElem? (i := 8) rfl)))) fa_n)))) (by decide +kernel)) ggX12_parse_X12_test
theorem dX12_parse_103 : decode cX12_parse 103 = .ok (.invokevirtual 363, 3) := by decide +kernel
theorem dX12_parse_106 : decode cX12_parse 106 = .ok (.goto (-91), 3) := by decide +kernel
theorem dX12_parse_83 : decode cX12_parse 83 = .ok (.aload_n 0, 1) := by decide +kernel
theorem dX12_parse_84 : decode cX12_parse 84 = .ok (.iload_n 2, 1) := by decide +kernel
theorem dX12_parse_85 : decode cX12_parse 85 = .ok (.iload_n 3, 1) := by decide +kernel
theorem dX12_parse_86 : decode cX12_parse 86 = .ok (.iconst 3, 1) := by decide +kernel
theorem dX12_parse_87 : decode cX12_parse 87 = .ok (.if_icmp .ne 7, 3) := by decide +kernel
theorem dX12_parse_94 : decode cX12_parse 94 = .ok (.iconst 0, 1) := by decide +kernel
set_option maxRecDepth 20000 in
theorem ggX12_parse_X12_chain : GoodIn wsX12_parse wsX12_chain := goodIn_sub (fa_c (me_s (me_l (me_r (me_r (me_r (me_r (List.mem_of_getElem? (i := 2) rfl))))))) (fa_a (fa_a (fa_c (me_s (me_l (me_l (List.mem_of_getElem? (i := 10) rfl)))) (fa_c (me_s (me_l (me_l (List.mem_of_getElem? (i := 11) rfl)))) (fa_c (me_s (me_l (me_l (List.mem_of_getElem? (i := 4) rfl)))) (fa_c (me_s (me_l (me_r (me_r (me_r (me_r (List.mem_of_getElem? (i := 3) rfl))))))) (fa_c (me_s (me_l (me_r (me_r (me_r (me_r (List.mem_of_getElem? (i := 4) rfl))))))) (fa_c (me_s (me_l (me_l (List.mem_of_getElem? (i := 5) rfl)))) (fa_c (me_s (me_l (me_l (List.mem_of_getElem? (i := 6) rfl)))) (fa_c (me_s (me_l (me_l (List.mem_of_getElem? (i := 7) rfl)))) (fa_c (me_s (me_l (me_l (List.mem_of_getElem? (i := 8) rfl)))) (fa_c (me_s (me_l (me_l (List.mem_of_getElem? (i := 9) rfl)))) (fa_c (me_s (me_l (me_l (List.mem_of_getElem? (i := 3) rfl)))) (fa_c (me_s (me_l (me_l (List.mem_of_getElem? (i := 0) rfl)))) (fa_c (me_s (me_l (me_l (List.mem_of_getElem? (i := 12) rfl)))) (fa_c (me_s (me_l (me_l (List.mem_of_getElem? (i := 17) rfl)))) (fa_c (me_s (me_l (me_l (List.mem_of_getElem? (i := 18) rfl)))) (fa_c (me_s (me_l (me_l (List.mem_of_getElem? (i := 19) rfl)))) (fa_c (me_s (me_l (me_l (List.mem_of_getElem? (i := 20) rfl)))) (fa_c (me_s (me_l (me_l (List.mem_of_getElem? (i := 21) rfl)))) (fa_c (me_s (me_l (me_l (List.mem_of_getElem? (i := 22) rfl)))) (fa_c (me_s (me_l (me_l (List.mem_of_getElem? (i := 23) rfl)))) (fa_c (me_s (me_l (me_r (me_l (List.mem_of_getElem? (i := 0) rfl))))) (fa_c (me_s (me_l (me_r (me_r (me_r (me_l (List.mem_of_getElem? (i := 4) rfl))))))) (fa_c (me_s (me_l (me_r (me_r (me_r (me_l (List.mem_of_getElem? (i := 5) rfl))))))) (fa_c (me_s (me_l (me_r (me_r (me_r (me_l (List.mem_of_getElem? (i := 6) rfl))))))) fa_n)))))))))))))))))))))))) (fa_a (fa_c (me_s (me_l (me_r (me_r (me_r (me_l (List.mem_of_getElem? (i := 7) rfl))))))) (fa_c (me_s (me_l (me_r (me_l (List.mem_of_getElem? (i := 5) rfl))))) (fa_c (me_s (me_l (me_r (me_l (List.mem_of_getElem? (i := 14) rfl))))) (fa_c (me_s (me_l (me_r (me_l (List.mem_of_getElem? (i := 7) rfl))))) (fa_c (me_s (me_l (me_r (me_l (List.mem_of_getElem? (i := 8) rfl))))) (fa_c (me_s (me_l (me_r (me_l (List.mem_of_getElem? (i := 9) rfl))))) (fa_c (me_s (me_l (me_r (me_l (List.mem_of_getElem? (i := 10) rfl))))) (fa_c (me_s (me_l (me_r (me_l (List.mem_of_getElem? (i := 11) rfl))))) (fa_c (me_s (me_l (me_r (me_l (List.mem_of_getElem? (i := 12) rfl))))) (fa_c (me_s (me_l (me_r (me_l (List.mem_of_getElem? (i := 13) rfl))))) (fa_c (me_s (me_l (me_r (me_l (List.mem_of_getElem? (i := 6) rfl))))) (fa_c (me_s (me_l (me_r (me_l (List.mem_of_getElem? (i := 15) rfl))))) (fa_c (me_s (me_l (me_r (me_l (List.mem_of_getElem? (i := 16) rfl))))) (fa_c (me_s (me_l (me_r (me_l (List.mem_of_getElem? (i := 17) rfl))))) (fa_c (me_s (me_l (me_r (me_l (List.mem_of_getElem? (i := 18) rfl))))) (fa_c (me_s (me_l (me_r (me_l (List.mem_of_getElem? (i := 19) rfl))))) (fa_c (me_s (me_l (me_r (me_l (List.mem_of_getElem? (i := 20) rfl))))) (fa_c (me_s (me_l (me_r (me_l (List.mem_of_getElem? (i := 21) rfl))))) (fa_c (me_s (me_l (me_r (me_l (List.mem_of_getElem? (i := 22) rfl))))) (fa_c (me_s (me_l (me_r (me_l (List.mem_of_getElem? (i := 23) rfl))))) (fa_c (me_s (me_l (me_r (me_r (me_l (List.mem_of_getElem? (i := 0) rfl)))))) (fa_c (me_s (me_l (me_r (me_r (me_l (List.mem_of_getElem? (i := 1) rfl)))))) (fa_c (me_s (me_l (me_r (me_r (me_l (List.mem_of_getElem? (i := 2) rfl)))))) (fa_c (me_s (me_l (me_r (me_r (me_l (List.mem_of_getElem? (i := 3) rfl)))))) fa_n)))))))))))))))))))))))) (fa_c (me_s (me_l (me_r (me_r (me_l (List.mem_of_getElem? (i := 4) rfl)))))) (fa_c (me_s (me_l (me_r (me_r (me_l (List.mem_of_getElem? (i := 5) rfl)))))) (fa_c (me_s (me_l (me_r (me_r (me_l (List.mem_of_getElem? (i := 6) rfl)))))) (fa_c (me_s (me_l (me_r (me_r (me_l (List.mem_of_getElem? (i := 7) rfl)))))) (fa_c (me_s (me_l (me_r (me_r (me_l (List.mem_of_getElem? (i := 8) rfl)))))) (fa_c (me_s (me_l (me_r (me_r (me_l (List.mem_of_getElem? (i := 9) rfl)))))) (fa_c (me_s (me_l (me_r (me_r (me_l (List.mem_of_getElem? (i := 10) rfl)))))) (fa_c (me_s (me_l (me_r (me_r (me_l (List.mem_of_getElem? (i := 11) rfl)))))) (fa_c (me_s (me_l (me_r (me_r (me_l (List.mem_of_getElem? (i := 12) rfl)))))) fa_n))))))))))) (fun w h => (me_s (me_r h))))) (by decide +kernel)
set_option maxRecDepth 20000 in
theorem gX12_parse_X12_chain : GoodIn wsX12_parse (wsV RX12 360 RX12 yX12_chain wsX12_chain) := goodIn_app (goodIn_sub (fa_c (me_s (me_l (me_r (me_r (me_r (me_l (List.mem_of_getElem? (i := 23) rfl))))))) (fa_c (me_s (me_l (me_r (me_r (me_r (me_r (List.mem_of_getElem? (i := 0) rfl))))))) (fa_c (me_s (me_l (me_r (me_r (me_r (me_r (List.mem_of_getElem? (i := 1) rfl))))))) (fa_c (me_s (me_l (me_l (List.mem_of_getElem? (i := 8) rfl)))) fa_n)))) (by decide +kernel)) ggX12_parse_X12_chain
theorem dX12_parse_95 : decode cX12_parse 95 = .ok (.invokevirtual 360, 3) := by decide +kernel
theorem dX12_parse_98 : decode cX12_parse 98 = .ok (.goto 8, 3) := by decide +kernel
theorem dX12_parse_90 : decode cX12_parse 90 = .ok (.iconst 1, 1) := by decide +kernel
theorem dX12_parse_91 : decode cX12_parse 91 = .ok (.goto 4, 3) := by decide +kernel
theorem dX12_parse_70 : decode cX12_parse 70 = .ok (.aload_n 0, 1) := by decide +kernel
theorem dX12_parse_71 : decode cX12_parse 71 = .ok (.iload_n 2, 1) := by decide +kernel
set_option maxRecDepth 20000 in
theorem ggX12_parse_X12_atom : GoodIn wsX12_parse wsX12_atom := goodIn_sub (fa_c (me_s (me_l (me_r (me_r (me_l (List.mem_of_getElem? (i := 16) rfl)))))) (fa_a (fa_a (fa_c (me_s (me_l (me_l (List.mem_of_getElem? (i := 10) rfl)))) (fa_c (me_s (me_l (me_r (me_l (List.mem_of_getElem? (i := 5) rfl))))) (fa_c (me_s (me_l (me_r (me_l (List.mem_of_getElem? (i := 15) rfl))))) (fa_c (me_s (me_l (me_r (me_r (me_l (List.mem_of_getElem? (i := 17) rfl)))))) (fa_c (me_s (me_l (me_r (me_r (me_l (List.mem_of_getElem? (i := 18) rfl)))))) (fa_c (me_s (me_l (me_l (List.mem_of_getElem? (i := 12) rfl)))) (fa_c (me_s (me_l (me_l (List.mem_of_getElem? (i := 2) rfl)))) (fa_c (me_s (me_l (me_r (me_l (List.mem_of_getElem? (i := 14) rfl))))) (fa_c (me_s (me_l (me_l (List.mem_of_getElem? (i := 11) rfl)))) (fa_c (me_s (me_l (me_l (List.mem_of_getElem? (i := 4) rfl)))) (fa_c (me_s (me_l (me_l (List.mem_of_getElem? (i := 1) rfl)))) (fa_c (me_s (me_l (me_r (me_l (List.mem_of_getElem? (i := 7) rfl))))) (fa_c (me_s (me_l (me_r (me_l (List.mem_of_getElem? (i := 8) rfl))))) (fa_c (me_s (me_l (me_r (me_l (List.mem_of_getElem? (i := 9) rfl))))) (fa_c (me_s (me_l (me_l (List.mem_of_getElem? (i := 8) rfl)))) (fa_c (me_s (me_l (me_r (me_l (List.mem_of_getElem? (i := 10) rfl))))) (fa_c (me_s (me_l (me_r (me_l (List.mem_of_getElem? (i := 11) rfl))))) (fa_c (me_s (me_l (me_r (me_l (List.mem_of_getElem? (i := 12) rfl))))) (fa_c (me_s (me_l (me_r (me_l (List.mem_of_getElem? (i := 13) rfl))))) (fa_c (me_s (me_l (me_r (me_l (List.mem_of_getElem? (i := 6) rfl))))) (fa_c (me_s (me_l (me_r (me_l (List.mem_of_getElem? (i := 16) rfl))))) (fa_c (me_s (me_l (me_r (me_l (List.mem_of_getElem? (i := 17) rfl))))) (fa_c (me_s (me_l (me_r (me_l (List.mem_of_getElem? (i := 18) rfl))))) (fa_c (me_s (me_l (me_r (me_l (List.mem_of_getElem? (i := 19) rfl))))) fa_n)))))))))))))))))))))))) (fa_a (fa_c (me_s (me_l (me_r (me_l (List.mem_of_getElem? (i := 20) rfl))))) (fa_c (me_s (me_l (me_r (me_l (List.mem_of_getElem? (i := 21) rfl))))) (fa_c (me_s (me_l (me_r (me_l (List.mem_of_getElem? (i := 22) rfl))))) (fa_c (me_s (me_l (me_r (me_l (List.mem_of_getElem? (i := 23) rfl))))) (fa_c (me_s (me_l (me_r (me_r (me_l (List.mem_of_getElem? (i := 0) rfl)))))) (fa_c (me_s (me_l (me_r (me_r (me_l (List.mem_of_getElem? (i := 1) rfl)))))) (fa_c (me_s (me_l (me_r (me_r (me_l (List.mem_of_getElem? (i := 2) rfl)))))) (fa_c (me_s (me_l (me_r (me_r (me_l (List.mem_of_getElem? (i := 3) rfl)))))) (fa_c (me_s (me_l (me_r (me_r (me_l (List.mem_of_getElem? (i := 4) rfl)))))) (fa_c (me_s (me_l (me_r (me_r (me_l (List.mem_of_getElem? (i := 5) rfl)))))) (fa_c (me_s (me_l (me_r (me_r (me_l (List.mem_of_getElem? (i := 6) rfl)))))) (fa_c (me_s (me_l (me_r (me_r (me_l (List.mem_of_getElem? (i := 7) rfl)))))) (fa_c (me_s (me_l (me_r (me_r (me_l (List.mem_of_getElem? (i := 8) rfl)))))) (fa_c (me_s (me_l (me_l (List.mem_of_getElem? (i := 17) rfl)))) (fa_c (me_s (me_l (me_l (List.mem_of_getElem? (i := 18) rfl)))) (fa_c (me_s (me_l (me_l (List.mem_of_getElem? (i := 19) rfl)))) (fa_c (me_s (me_l (me_l (List.mem_of_getElem? (i := 20) rfl)))) (fa_c (me_s (me_l (me_l (List.mem_of_getElem? (i := 21) rfl)))) (fa_c (me_s (me_l (me_l (List.mem_of_getElem? (i := 22) rfl)))) (fa_c (me_s (me_l (me_l (List.mem_of_getElem? (i := 23) rfl)))) (fa_c (me_s (me_l (me_r (me_l (List.mem_of_getElem? (i := 0) rfl))))) (fa_c (me_s (me_l (me_r (me_r (me_l (List.mem_of_getElem? (i := 9) rfl)))))) (fa_c (me_s (me_l (me_r (me_r (me_l (List.mem_of_getElem? (i := 10) rfl)))))) (fa_c (me_s (me_l (me_r (me_r (me_l (List.mem_of_getElem? (i := 11) rfl)))))) fa_n)))))))))))))))))))))))) (fa_a (fa_c (me_s (me_l (me_r (me_r (me_l (List.mem_of_getElem? (i := 12) rfl)))))) (fa_c (me_s (me_l (me_l (List.mem_of_getElem? (i := 0) rfl)))) (fa_c (me_s (me_l (me_r (me_l (List.mem_of_getElem? (i := 1) rfl))))) (fa_c (me_s (me_l (me_r (me_l (List.mem_of_getElem? (i := 2) rfl))))) (fa_c (me_s (me_l (me_r (me_l (List.mem_of_getElem? (i := 3) rfl))))) (fa_c (me_s (me_l (me_r (me_l (List.mem_of_getElem? (i := 4) rfl))))) (fa_c (me_s (me_l (me_r (me_r (me_l (List.mem_of_getElem? (i := 19) rfl)))))) (fa_c (me_s (me_l (me_r (me_r (me_l (List.mem_of_getElem? (i := 20) rfl)))))) (fa_c (me_s (me_l (me_r (me_r (me_l (List.mem_of_getElem? (i := 21) rfl)))))) (fa_c (me_s (me_l (me_r (me_r (me_l (List.mem_of_getElem? (i := 22) rfl)))))) (fa_c (me_s (me_l (me_r (me_r (me_l (List.mem_of_getElem? (i := 23) rfl)))))) (fa_c (me_s (me_l (me_r (me_r (me_r (me_l (List.mem_of_getElem? (i := 0) rfl))))))) (fa_c (me_s (me_l (me_r (me_r (me_r (me_l (List.mem_of_getElem? (i := 1) rfl))))))) (fa_c (me_s (me_l (me_r (me_r (me_r (me_l (List.mem_of_getElem? (i := 2) rfl))))))) (fa_c (me_s (me_l (me_r (me_r (me_r (me_l (List.mem_of_getElem? (i := 3) rfl))))))) (fa_c (me_s (me_l (me_l (List.mem_of_getElem? (i := 5) rfl)))) (fa_c (me_s (me_l (me_l (List.mem_of_getElem? (i := 6) rfl)))) (fa_c (me_s (me_l (me_l (List.mem_of_getElem? (i := 7) rfl)))) (fa_c (me_s (me_l (me_l (List.mem_of_getElem? (i := 9) rfl)))) (fa_c (me_s (me_l (me_l (List.mem_of_getElem? (i := 3) rfl)))) (fa_c (me_s (me_l (me_r (me_r (me_r (me_l (List.mem_of_getElem? (i := 4) rfl))))))) (fa_c (me_s (me_l (me_r (me_r (me_r (me_l (List.mem_of_getElem? (i := 5) rfl))))))) (fa_c (me_s (me_l (me_r (me_r (me_r (me_l (List.mem_of_getElem? (i := 6) rfl))))))) (fa_c (me_s (me_l (me_r (me_r (me_r (me_l (List.mem_of_getElem? (i := 7) rfl))))))) fa_n)))))))))))))))))))))))) (fa_c (me_s (me_l (me_r (me_r (me_r (me_l (List.mem_of_getElem? (i := 8) rfl))))))) (fa_c (me_s (me_l (me_r (me_r (me_r (me_l (List.mem_of_getElem? (i := 9) rfl))))))) (fa_c (me_s (me_l (me_r (me_r (me_r (me_l (List.mem_of_getElem? (i := 10) rfl))))))) (fa_c (me_s (me_l (me_r (me_r (me_r (me_l (List.mem_of_getElem? (i := 11) rfl))))))) (fa_c (me_s (me_l (me_r (me_r (me_r (me_l (List.mem_of_getElem? (i := 12) rfl))))))) (fa_c (me_s (me_l (me_r (me_r (me_r (me_l (List.mem_of_getElem? (i := 13) rfl))))))) (fa_c (me_s (me_l (me_r (me_r (me_r (me_l (List.mem_of_getElem? (i := 14) rfl))))))) (fa_c (me_s (me_l (me_r (me_r (me_r (me_l (List.mem_of_getElem? (i := 15) rfl))))))) (fa_c (me_s (me_l (me_r (me_r (me_r (me_l (List.mem_of_getElem? (i := 16) rfl))))))) (fa_c (me_s (me_l (me_r (me_r (me_r (me_l (List.mem_of_getElem? (i := 17) rfl))))))) (fa_c (me_s (me_l (me_r (me_r (me_r (me_l (List.mem_of_getElem? (i := 18) rfl))))))) (fa_c (me_s (me_l (me_r (me_r (me_r (me_l (List.mem_of_getElem? (i := 19) rfl))))))) (fa_c (me_s (me_l (me_r (me_r (me_r (me_l (List.mem_of_getElem? (i := 20) rfl))))))) (fa_c (me_s (me_l (me_r (me_r (me_r (me_l (List.mem_of_getElem? (i := 21) rfl))))))) (fa_c (me_s (me_l (me_r (me_r (me_r (me_l (List.mem_of_getElem? (i := 22) rfl))))))) fa_n)))))))))))))))))) (fun w h => (me_s (me_r h))))) (by decide +kernel)
set_option maxRecDepth 20000 in
theorem gX12_parse_X12_atom : GoodIn wsX12_parse (wsV RX12 357 RX12 yX12_atom wsX12_atom) := goodIn_app (goodIn_sub (fa_c (me_s (me_l (me_r (me_r (me_l (List.mem_of_getElem? (i := 13) rfl)))))) (fa_c (me_s (me_l (me_r (me_r (me_l (List.mem_of_getElem? (i := 14) rfl)))))) (fa_c (me_s (me_l (me_r (me_r (me_l (List.mem_of_getElem? (i := 15) rfl)))))) (fa_c (me_s (me_l (me_l (List.mem_of_getElem? (i := 8) rfl)))) fa_n)))) (by decide +kernel)) ggX12_parse_X12_atom
theorem dX12_parse_72 : decode cX12_parse 72 = .ok (.invokevirtual 357, 3) := by decide +kernel
theorem dX12_parse_75 : decode cX12_parse 75 = .ok (.goto 31, 3) := by decide +kernel
theorem dX12_parse_48 : decode cX12_parse 48 = .ok (.aload_n 0, 1) := by decide +kernel
theorem dX12_parse_49 : decode cX12_parse 49 = .ok (.iload_n 2, 1) := by decide +kernel
theorem dX12_parse_50 : decode cX12_parse 50 = .ok (.iload_n 3, 1) := by decide +kernel
theorem dX12_parse_51 : decode cX12_parse 51 = .ok (.ifCond .ne 7, 3) := by decide +kernel
theorem dX12_parse_58 : decode cX12_parse 58 = .ok (.iconst 0, 1) := by decide +kernel
set_option maxRecDepth 20000 in
theorem ggX12_parse_X12_sums : GoodIn wsX12_parse wsX12_sums := goodIn_sub (fa_c (me_s (me_l (me_l (List.mem_of_getElem? (i := 16) rfl)))) (fa_a (fa_a (fa_c (me_s (me_l (me_l (List.mem_of_getElem? (i := 10) rfl)))) (fa_c (me_s (me_l (me_l (List.mem_of_getElem? (i := 11) rfl)))) (fa_c (me_s (me_l (me_l (List.mem_of_getElem? (i := 4) rfl)))) (fa_c (me_s (me_l (me_l (List.mem_of_getElem? (i := 12) rfl)))) (fa_c (me_s (me_l (me_l (List.mem_of_getElem? (i := 5) rfl)))) (fa_c (me_s (me_l (me_l (List.mem_of_getElem? (i := 6) rfl)))) (fa_c (me_s (me_l (me_l (List.mem_of_getElem? (i := 7) rfl)))) (fa_c (me_s (me_l (me_l (List.mem_of_getElem? (i := 8) rfl)))) (fa_c (me_s (me_l (me_l (List.mem_of_getElem? (i := 9) rfl)))) (fa_c (me_s (me_l (me_l (List.mem_of_getElem? (i := 3) rfl)))) (fa_c (me_s (me_l (me_l (List.mem_of_getElem? (i := 0) rfl)))) (fa_c (me_s (me_l (me_l (List.mem_of_getElem? (i := 17) rfl)))) (fa_c (me_s (me_l (me_l (List.mem_of_getElem? (i := 18) rfl)))) (fa_c (me_s (me_l (me_l (List.mem_of_getElem? (i := 19) rfl)))) (fa_c (me_s (me_l (me_l (List.mem_of_getElem? (i := 20) rfl)))) (fa_c (me_s (me_l (me_l (List.mem_of_getElem? (i := 21) rfl)))) (fa_c (me_s (me_l (me_l (List.mem_of_getElem? (i := 22) rfl)))) (fa_c (me_s (me_l (me_l (List.mem_of_getElem? (i := 23) rfl)))) (fa_c (me_s (me_l (me_r (me_l (List.mem_of_getElem? (i := 0) rfl))))) (fa_c (me_s (me_l (me_r (me_l (List.mem_of_getElem? (i := 1) rfl))))) (fa_c (me_s (me_l (me_r (me_l (List.mem_of_getElem? (i := 2) rfl))))) (fa_c (me_s (me_l (me_r (me_l (List.mem_of_getElem? (i := 3) rfl))))) (fa_c (me_s (me_l (me_r (me_l (List.mem_of_getElem? (i := 4) rfl))))) (fa_c (me_s (me_l (me_r (me_l (List.mem_of_getElem? (i := 5) rfl))))) fa_n)))))))))))))))))))))))) (fa_a (fa_c (me_s (me_l (me_r (me_l (List.mem_of_getElem? (i := 6) rfl))))) (fa_c (me_s (me_l (me_r (me_l (List.mem_of_getElem? (i := 7) rfl))))) (fa_c (me_s (me_l (me_r (me_l (List.mem_of_getElem? (i := 8) rfl))))) (fa_c (me_s (me_l (me_r (me_l (List.mem_of_getElem? (i := 9) rfl))))) (fa_c (me_s (me_l (me_r (me_l (List.mem_of_getElem? (i := 10) rfl))))) (fa_c (me_s (me_l (me_r (me_l (List.mem_of_getElem? (i := 11) rfl))))) (fa_c (me_s (me_l (me_r (me_l (List.mem_of_getElem? (i := 12) rfl))))) (fa_c (me_s (me_l (me_r (me_l (List.mem_of_getElem? (i := 13) rfl))))) (fa_c (me_s (me_l (me_r (me_l (List.mem_of_getElem? (i := 14) rfl))))) (fa_c (me_s (me_l (me_r (me_l (List.mem_of_getElem? (i := 15) rfl))))) (fa_c (me_s (me_l (me_r (me_l (List.mem_of_getElem? (i := 16) rfl))))) (fa_c (me_s (me_l (me_r (me_l (List.mem_of_getElem? (i := 17) rfl))))) (fa_c (me_s (me_l (me_r (me_l (List.mem_of_getElem? (i := 18) rfl))))) (fa_c (me_s (me_l (me_r (me_l (List.mem_of_getElem? (i := 19) rfl))))) (fa_c (me_s (me_l (me_r (me_l (List.mem_of_getElem? (i := 20) rfl))))) (fa_c (me_s (me_l (me_r (me_l (List.mem_of_getElem? (i := 21) rfl))))) (fa_c (me_s (me_l (me_r (me_l (List.mem_of_getElem? (i := 22) rfl))))) (fa_c (me_s (me_l (me_r (me_l (List.mem_of_getElem? (i := 23) rfl))))) (fa_c (me_s (me_l (me_r (me_r (me_l (List.mem_of_getElem? (i := 0) rfl)))))) (fa_c (me_s (me_l (me_r (me_r (me_l (List.mem_of_getElem? (i := 1) rfl)))))) (fa_c (me_s (me_l (me_r (me_r (me_l (List.mem_of_getElem? (i := 2) rfl)))))) (fa_c (me_s (me_l (me_r (me_r (me_l (List.mem_of_getElem? (i := 3) rfl)))))) (fa_c (me_s (me_l (me_r (me_r (me_l (List.mem_of_getElem? (i := 4) rfl)))))) (fa_c (me_s (me_l (me_r (me_r (me_l (List.mem_of_getElem? (i := 5) rfl)))))) fa_n)))))))))))))))))))))))) (fa_c (me_s (me_l (me_r (me_r (me_l (List.mem_of_getElem? (i := 6) rfl)))))) (fa_c (me_s (me_l (me_r (me_r (me_l (List.mem_of_getElem? (i := 7) rfl)))))) (fa_c (me_s (me_l (me_r (me_r (me_l (List.mem_of_getElem? (i := 8) rfl)))))) (fa_c (me_s (me_l (me_r (me_r (me_l (List.mem_of_getElem? (i := 9) rfl)))))) (fa_c (me_s (me_l (me_r (me_r (me_l (List.mem_of_getElem? (i := 10) rfl)))))) (fa_c (me_s (me_l (me_r (me_r (me_l (List.mem_of_getElem? (i := 11) rfl)))))) (fa_c (me_s (me_l (me_r (me_r (me_l (List.mem_of_getElem? (i := 12) rfl)))))) fa_n))))))))) (fun w h => (me_s (me_r h))))) (by decide +kernel)
set_option maxRecDepth 20000 in
theorem gX12_parse_X12_sums : GoodIn wsX12_parse (wsV RX12 353 RX12 yX12_sums wsX12_sums) := goodIn_app (goodIn_sub (fa_c (me_s (me_l (me_l (List.mem_of_getElem? (i := 13) rfl)))) (fa_c (me_s (me_l (me_l (List.mem_of_getElem? (i := 14) rfl)))) (fa_c (me_s (me_l (me_l (List.mem_of_getElem? (i := 15) rfl)))) (fa_c (me_s (me_l (me_l (List.mem_of_getElem? (i := 8) rfl)))) fa_n)))) (by decide +kernel)) ggX12_parse_X12_sums
theorem dX12_parse_59 : decode cX12_parse 59 = .ok (.invokevirtual 353, 3) := by decide +kernel
theorem dX12_parse_62 : decode cX12_parse 62 = .ok (.goto 44, 3) := by decide +kernel
theorem dX12_parse_54 : decode cX12_parse 54 = .ok (.iconst 1, 1) := by decide +kernel
theorem dX12_parse_55 : decode cX12_parse 55 = .ok (.goto 4, 3) := by decide +kernel
theorem dX12_statement_0 : decode cX12_statement 0 = .ok (.aload_n 0, 1) := by decide +kernel
theorem dX12_statement_1 : decode cX12_statement 1 = .ok (.getfield 55, 3) := by decide +kernel
theorem dX12_statement_4 : decode cX12_statement 4 = .ok (.iload_n 1, 1) := by decide +kernel
theorem dX12_statement_5 : decode cX12_statement 5 = .ok (.iconst 0, 1) := by decide +kernel
theorem dX12_statement_6 : decode cX12_statement 6 = .ok (.iastore, 1) := by decide +kernel
theorem dX12_statement_7 : decode cX12_statement 7 = .ok (.aload_n 0, 1) := by decide +kernel
theorem dX12_statement_8 : decode cX12_statement 8 = .ok (.getfield 58, 3) := by decide +kernel
theorem dX12_statement_11 : decode cX12_statement 11 = .ok (.iload_n 1, 1) := by decide +kernel
theorem dX12_statement_12 : decode cX12_statement 12 = .ok (.iconst (-1), 1) := by decide +kernel
theorem dX12_statement_13 : decode cX12_statement 13 = .ok (.iastore, 1) := by decide +kernel
theorem dX12_statement_14 : decode cX12_statement 14 = .ok (.aload_n 0, 1) := by decide +kernel
theorem dX12_statement_15 : decode cX12_statement 15 = .ok (.getfield 61, 3) := by decide +kernel
theorem dX12_statement_18 : decode cX12_statement 18 = .ok (.iload_n 1, 1) := by decide +kernel
theorem dX12_statement_19 : decode cX12_statement 19 = .ok (.iconst (-1), 1) := by decide +kernel
theorem dX12_statement_20 : decode cX12_statement 20 = .ok (.iastore, 1) := by decide +kernel
theorem dX12_statement_21 : decode cX12_statement 21 = .ok (.aload_n 0, 1) := by decide +kernel
theorem dX12_statement_22 : decode cX12_statement 22 = .ok (.getfield 64, 3) := by decide +kernel
theorem dX12_statement_25 : decode cX12_statement 25 = .ok (.iload_n 1, 1) := by decide +kernel
theorem dX12_statement_26 : decode cX12_statement 26 = .ok (.aload_n 0, 1) := by decide +kernel
theorem dX12_statement_27 : decode cX12_statement 27 = .ok (.getfield 337, 3) := by decide +kernel
theorem dX12_statement_30 : decode cX12_statement 30 = .ok (.iastore, 1) := by decide +kernel
theorem dX12_statement_31 : decode cX12_statement 31 = .ok (.aload_n 0, 1) := by decide +kernel
theorem dX12_statement_32 : decode cX12_statement 32 = .ok (.getfield 281, 3) := by decide +kernel
theorem dX12_statement_35 : decode cX12_statement 35 = .ok (.iconst 1, 1) := by decide +kernel
theorem dX12_statement_36 : decode cX12_statement 36 = .ok (.if_icmp .ne 14, 3) := by decide +kernel
theorem dX12_statement_50 : decode cX12_statement 50 = .ok (.iconst (-1), 1) := by decide +kernel
theorem dX12_statement_51 : decode cX12_statement 51 = .ok (.istore_n 2, 1) := by decide +kernel
theorem dX12_statement_52 : decode cX12_statement 52 = .ok (.aload_n 0, 1) := by decide +kernel
theorem dX12_statement_53 : decode cX12_statement 53 = .ok (.getfield 52, 3) := by decide +kernel
theorem dX12_statement_56 : decode cX12_statement 56 = .ok (.iload_n 1, 1) := by decide +kernel
theorem dX12_statement_57 : decode cX12_statement 57 = .ok (.iload_n 2, 1) := by decide +kernel
theorem dX12_statement_58 : decode cX12_statement 58 = .ok (.iastore, 1) := by decide +kernel
theorem dX12_statement_59 : decode cX12_statement 59 = .ok (.iload_n 2, 1) := by decide +kernel
theorem dX12_statement_60 : decode cX12_statement 60 = .ok (.ifCond .ge 8, 3) := by decide +kernel
theorem dX12_statement_63 : decode cX12_statement 63 = .ok (.aload_n 0, 1) := by decide +kernel
set_option maxRecDepth 20000 in
theorem ggX12_statement_X12_errs : GoodIn wsX12_statement wsX12_errs := goodIn_sub (fa_c (me_s (me_l (me_r (me_l (List.mem_of_getElem? (i := 4) rfl))))) (fa_a (fa_c (me_s (me_l (me_l (List.mem_of_getElem? (i := 8) rfl)))) (fa_c (me_s (me_l (me_r (me_l (List.mem_of_getElem? (i := 5) rfl))))) (fa_c (me_s (me_l (me_r (me_l (List.mem_of_getElem? (i := 6) rfl))))) fa_n))) (fun w h => (me_s (me_r h))))) (by decide +kernel)
set_option maxRecDepth 20000 in
theorem gX12_statement_X12_errs : GoodIn wsX12_statement (wsV RX12 304 RX12 yX12_errs wsX12_errs) := goodIn_app (goodIn_sub (fa_c (me_s (me_l (me_r (me_l (List.mem_of_getElem? (i := 1) rfl))))) (fa_c (me_s (me_l (me_r (me_l (List.mem_of_getElem? (i := 2) rfl))))) (fa_c (me_s (me_l (me_r (me_l (List.mem_of_getElem? (i := 3) rfl))))) (fa_c (me_s (me_l (me_l (List.mem_of_getElem? (i := 15) rfl)))) fa_n)))) (by decide +kernel)) ggX12_statement_X12_errs
theorem dX12_statement_64 : decode cX12_statement 64 = .ok (.invokevirtual 304, 3) := by decide +kernel
theorem dX12_statement_67 : decode cX12_statement 67 = .ok (.return_, 1) := by decide +kernel
theorem dX12_statement_39 : decode cX12_statement 39 = .ok (.aload_n 0, 1) := by decide +kernel
theorem dX12_statement_40 : decode cX12_statement 40 = .ok (.aload_n 0, 1) := by decide +kernel
theorem dX12_statement_41 : decode cX12_statement 41 = .ok (.getfield 271, 3) := by decide +kernel
set_option maxRecDepth 20000 in
theorem ggX12_statement_X12_ruleOf : GoodIn wsX12_statement wsX12_ruleOf := goodIn_sub (fa_c (me_s (me_l (me_l (List.mem_of_getElem? (i := 16) rfl)))) (fa_c (me_s (me_l (me_l (List.mem_of_getElem? (i := 17) rfl)))) (fa_c (me_s (me_l (me_l (List.mem_of_getElem? (i := 18) rfl)))) (fa_c (me_s (me_l (me_l (List.mem_of_getElem? (i := 19) rfl)))) (fa_c (me_s (me_l (me_l (List.mem_of_getElem? (i := 20) rfl)))) (fa_c (me_s (me_l (me_l (List.mem_of_getElem? (i := 21) rfl)))) (fa_c (me_s (me_l (me_l (List.mem_of_getElem? (i := 22) rfl)))) (fa_c (me_s (me_l (me_l (List.mem_of_getElem? (i := 23) rfl)))) (fa_c (me_s (me_l (me_r (me_l (List.mem_of_getElem? (i := 0) rfl))))) fa_n))))))))) (by decide +kernel)
set_option maxRecDepth 20000 in
theorem gX12_statement_X12_ruleOf : GoodIn wsX12_statement (wsV RX12 396 RX12 yX12_ruleOf wsX12_ruleOf) := goodIn_app (goodIn_sub (fa_c (me_s (me_l (me_l (List.mem_of_getElem? (i := 12) rfl)))) (fa_c (me_s (me_l (me_l (List.mem_of_getElem? (i := 13) rfl)))) (fa_c (me_s (me_l (me_l (List.mem_of_getElem? (i := 14) rfl)))) (fa_c (me_s (me_l (me_l (List.mem_of_getElem? (i := 15) rfl)))) fa_n)))) (by decide +kernel)) ggX12_statement_X12_ruleOf
theorem dX12_statement_44 : decode cX12_statement 44 = .ok (.invokevirtual 396, 3) := by decide +kernel
theorem dX12_statement_47 : decode cX12_statement 47 = .ok (.goto 4, 3) := by decide +kernel
theorem dX12_statement_68 : decode cX12_statement 68 = .ok (.aload_n 0, 1) := by decide +kernel
set_option maxRecDepth 20000 in
theorem ggX12_statement_X12_next : GoodIn wsX12_statement wsX12_next := goodIn_sub (fa_c (me_s (me_l (me_r (me_l (List.mem_of_getElem? (i := 10) rfl))))) (fa_a (fa_a (fa_c (me_s (me_l (me_r (me_l (List.mem_of_getElem? (i := 11) rfl))))) (fa_c (me_s (me_l (me_r (me_l (List.mem_of_getElem? (i := 5) rfl))))) (fa_c (me_s (me_l (me_r (me_l (List.mem_of_getElem? (i := 12) rfl))))) (fa_c (me_s (me_l (me_l (List.mem_of_getElem? (i := 6) rfl)))) (fa_c (me_s (me_l (me_r (me_l (List.mem_of_getElem? (i := 13) rfl))))) (fa_c (me_s (me_l (me_l (List.mem_of_getElem? (i := 10) rfl)))) (fa_c (me_s (me_l (me_l (List.mem_of_getElem? (i := 5) rfl)))) (fa_c (me_s (me_l (me_r (me_l (List.mem_of_getElem? (i := 14) rfl))))) (fa_c (me_s (me_l (me_r (me_l (List.mem_of_getElem? (i := 15) rfl))))) (fa_c (me_s (me_l (me_r (me_l (List.mem_of_getElem? (i := 16) rfl))))) (fa_c (me_s (me_l (me_r (me_l (List.mem_of_getElem? (i := 17) rfl))))) (fa_c (me_s (me_l (me_r (me_l (List.mem_of_getElem? (i := 18) rfl))))) (fa_c (me_s (me_l (me_l (List.mem_of_getElem? (i := 15) rfl)))) (fa_c (me_s (me_l (me_r (me_l (List.mem_of_getElem? (i := 19) rfl))))) (fa_c (me_s (me_l (me_r (me_l (List.mem_of_getElem? (i := 20) rfl))))) (fa_c (me_s (me_l (me_r (me_l (List.mem_of_getElem? (i := 21) rfl))))) (fa_c (me_s (me_l (me_r (me_l (List.mem_of_getElem? (i := 22) rfl))))) (fa_c (me_s (me_l (me_r (me_l (List.mem_of_getElem? (i := 23) rfl))))) (fa_c (me_s (me_l (me_r (me_r (me_l (List.mem_of_getElem? (i := 0) rfl)))))) (fa_c (me_s (me_l (me_r (me_r (me_l (List.mem_of_getElem? (i := 1) rfl)))))) (fa_c (me_s (me_l (me_r (me_r (me_l (List.mem_of_getElem? (i := 2) rfl)))))) (fa_c (me_s (me_l (me_r (me_r (me_l (List.mem_of_getElem? (i := 3) rfl)))))) (fa_c (me_s (me_l (me_r (me_r (me_l (List.mem_of_getElem? (i := 4) rfl)))))) (fa_c (me_s (me_l (me_r (me_r (me_l (List.mem_of_getElem? (i := 5) rfl)))))) fa_n)))))))))))))))))))))))) (fa_c (me_s (me_l (me_r (me_r (me_l (List.mem_of_getElem? (i := 6) rfl)))))) fa_n)) (fun w h => (me_s (me_r h))))) (by decide +kernel)
set_option maxRecDepth 20000 in
theorem gX12_statement_X12_next : GoodIn wsX12_statement (wsV RX12 301 RX12 yX12_next wsX12_next) := goodIn_app (goodIn_sub (fa_c (me_s (me_l (me_r (me_l (List.mem_of_getElem? (i := 7) rfl))))) (fa_c (me_s (me_l (me_r (me_l (List.mem_of_getElem? (i := 8) rfl))))) (fa_c (me_s (me_l (me_r (me_l (List.mem_of_getElem? (i := 9) rfl))))) (fa_c (me_s (me_l (me_l (List.mem_of_getElem? (i := 15) rfl)))) fa_n)))) (by decide +kernel)) ggX12_statement_X12_next
theorem dX12_statement_69 : decode cX12_statement 69 = .ok (.invokevirtual 301, 3) := by decide +kernel
theorem dX12_statement_72 : decode cX12_statement 72 = .ok (.iload_n 2, 1) := by decide +kernel
theorem dX12_statement_73 : decode cX12_statement 73 = .ok (.iconst 2, 1) := by decide +kernel
theorem dX12_statement_74 : decode cX12_statement 74 = .ok (.if_icmp .ge 49, 3) := by decide +kernel
theorem dX12_statement_123 : decode cX12_statement 123 = .ok (.iload_n 2, 1) := by decide +kernel
theorem dX12_statement_124 : decode cX12_statement 124 = .ok (.iconst 2, 1) := by decide +kernel
theorem dX12_statement_125 : decode cX12_statement 125 = .ok (.if_icmp .ne 17, 3) := by decide +kernel
theorem dX12_statement_142 : decode cX12_statement 142 = .ok (.aload_n 0, 1) := by decide +kernel
theorem dX12_statement_143 : decode cX12_statement 143 = .ok (.getfield 281, 3) := by decide +kernel
theorem dX12_statement_146 : decode cX12_statement 146 = .ok (.iconst 2, 1) := by decide +kernel
theorem dX12_statement_147 : decode cX12_statement 147 = .ok (.if_icmp .ne 32, 3) := by decide +kernel
theorem dX12_statement_179 : decode cX12_statement 179 = .ok (.aload_n 0, 1) := by decide +kernel
theorem dX12_statement_180 : decode cX12_statement 180 = .ok (.invokevirtual 304, 3) := by decide +kernel
theorem dX12_statement_183 : decode cX12_statement 183 = .ok (.aload_n 0, 1) := by decide +kernel
theorem dX12_statement_184 : decode cX12_statement 184 = .ok (.getfield 67, 3) := by decide +kernel
theorem dX12_statement_187 : decode cX12_statement 187 = .ok (.iload_n 1, 1) := by decide +kernel
theorem dX12_statement_188 : decode cX12_statement 188 = .ok (.aload_n 0, 1) := by decide +kernel
theorem dX12_statement_189 : decode cX12_statement 189 = .ok (.getfield 337, 3) := by decide +kernel
theorem dX12_statement_192 : decode cX12_statement 192 = .ok (.iastore, 1) := by decide +kernel
theorem dX12_statement_193 : decode cX12_statement 193 = .ok (.aload_n 0, 1) := by decide +kernel
theorem dX12_statement_194 : decode cX12_statement 194 = .ok (.getfield 294, 3) := by decide +kernel
theorem dX12_statement_197 : decode cX12_statement 197 = .ok (.ifCond .ne 9, 3) := by decide +kernel
theorem dX12_statement_206 : decode cX12_statement 206 = .ok (.return_, 1) := by decide +kernel
theorem dX12_statement_200 : decode cX12_statement 200 = .ok (.aload_n 0, 1) := by decide +kernel
theorem dX12_statement_201 : decode cX12_statement 201 = .ok (.bipush 59, 2) := by decide +kernel
set_option maxRecDepth 20000 in
theorem ggX12_statement_X12_must : GoodIn wsX12_statement wsX12_must := goodIn_sub (fa_c (me_s (me_l (me_r (me_r (me_r (me_r (me_l (List.mem_of_getElem? (i := 10) rfl)))))))) (fa_a (fa_a (fa_c (me_s (me_l (me_r (me_r (me_r (me_l (List.mem_of_getElem? (i := 9) rfl))))))) (fa_c (me_s (me_l (me_r (me_r (me_r (me_l (List.mem_of_getElem? (i := 10) rfl))))))) (fa_c (me_s (me_l (me_r (me_r (me_r (me_l (List.mem_of_getElem? (i := 11) rfl))))))) (fa_c (me_s (me_l (me_l (List.mem_of_getElem? (i := 15) rfl)))) (fa_c (me_s (me_l (me_r (me_r (me_r (me_l (List.mem_of_getElem? (i := 12) rfl))))))) (fa_c (me_s (me_l (me_l (List.mem_of_getElem? (i := 5) rfl)))) (fa_c (me_s (me_l (me_r (me_l (List.mem_of_getElem? (i := 13) rfl))))) (fa_c (me_s (me_l (me_r (me_l (List.mem_of_getElem? (i := 7) rfl))))) (fa_c (me_s (me_l (me_r (me_l (List.mem_of_getElem? (i := 8) rfl))))) (fa_c (me_s (me_l (me_r (me_l (List.mem_of_getElem? (i := 9) rfl))))) (fa_c (me_s (me_l (me_r (me_l (List.mem_of_getElem? (i := 10) rfl))))) (fa_c (me_s (me_l (me_r (me_l (List.mem_of_getElem? (i := 11) rfl))))) (fa_c (me_s (me_l (me_r (me_l (List.mem_of_getElem? (i := 5) rfl))))) (fa_c (me_s (me_l (me_r (me_l (List.mem_of_getElem? (i := 12) rfl))))) (fa_c (me_s (me_l (me_l (List.mem_of_getElem? (i := 6) rfl)))) (fa_c (me_s (me_l (me_l (List.mem_of_getElem? (i := 10) rfl)))) (fa_c (me_s (me_l (me_r (me_l (List.mem_of_getElem? (i := 14) rfl))))) (fa_c (me_s (me_l (me_r (me_l (List.mem_of_getElem? (i := 15) rfl))))) (fa_c (me_s (me_l (me_r (me_l (List.mem_of_getElem? (i := 16) rfl))))) (fa_c (me_s (me_l (me_r (me_l (List.mem_of_getElem? (i := 17) rfl))))) (fa_c (me_s (me_l (me_r (me_l (List.mem_of_getElem? (i := 18) rfl))))) (fa_c (me_s (me_l (me_r (me_l (List.mem_of_getElem? (i := 19) rfl))))) (fa_c (me_s (me_l (me_r (me_l (List.mem_of_getElem? (i := 20) rfl))))) (fa_c (me_s (me_l (me_r (me_l (List.mem_of_getElem? (i := 21) rfl))))) fa_n)))))))))))))))))))))))) (fa_c (me_s (me_l (me_r (me_l (List.mem_of_getElem? (i := 22) rfl))))) (fa_c (me_s (me_l (me_r (me_l (List.mem_of_getElem? (i := 23) rfl))))) (fa_c (me_s (me_l (me_r (me_r (me_l (List.mem_of_getElem? (i := 0) rfl)))))) (fa_c (me_s (me_l (me_r (me_r (me_l (List.mem_of_getElem? (i := 1) rfl)))))) (fa_c (me_s (me_l (me_r (me_r (me_l (List.mem_of_getElem? (i := 2) rfl)))))) (fa_c (me_s (me_l (me_r (me_r (me_l (List.mem_of_getElem? (i := 3) rfl)))))) (fa_c (me_s (me_l (me_r (me_r (me_l (List.mem_of_getElem? (i := 4) rfl)))))) (fa_c (me_s (me_l (me_r (me_r (me_l (List.mem_of_getElem? (i := 5) rfl)))))) (fa_c (me_s (me_l (me_r (me_r (me_l (List.mem_of_getElem? (i := 6) rfl)))))) (fa_c (me_s (me_l (me_r (me_l (List.mem_of_getElem? (i := 1) rfl))))) (fa_c (me_s (me_l (me_r (me_l (List.mem_of_getElem? (i := 2) rfl))))) (fa_c (me_s (me_l (me_r (me_l (List.mem_of_getElem? (i := 3) rfl))))) (fa_c (me_s (me_l (me_r (me_l (List.mem_of_getElem? (i := 4) rfl))))) (fa_c (me_s (me_l (me_l (List.mem_of_getElem? (i := 8) rfl)))) (fa_c (me_s (me_l (me_r (me_l (List.mem_of_getElem? (i := 6) rfl))))) fa_n)))))))))))))))) (fun w h => (me_s (me_r h))))) (by decide +kernel)
set_option maxRecDepth 20000 in
theorem gX12_statement_X12_must : GoodIn wsX12_statement (wsV RX12 383 RX12 yX12_must wsX12_must) := goodIn_app (goodIn_sub (fa_c (me_s (me_l (me_r (me_r (me_r (me_r (me_l (List.mem_of_getElem? (i := 7) rfl)))))))) (fa_c (me_s (me_l (me_r (me_r (me_r (me_r (me_l (List.mem_of_getElem? (i := 8) rfl)))))))) (fa_c (me_s (me_l (me_r (me_r (me_r (me_r (me_l (List.mem_of_getElem? (i := 9) rfl)))))))) (fa_c (me_s (me_l (me_l (List.mem_of_getElem? (i := 15) rfl)))) fa_n)))) (by decide +kernel)) ggX12_statement_X12_must
theorem dX12_statement_203 : decode cX12_statement 203 = .ok (.invokevirtual 383, 3) := by decide +kernel
theorem dX12_statement_150 : decode cX12_statement 150 = .ok (.aload_n 0, 1) := by decide +kernel
theorem dX12_statement_151 : decode cX12_statement 151 = .ok (.getfield 278, 3) := by decide +kernel
theorem dX12_statement_154 : decode cX12_statement 154 = .ok (.ifCond .gt 8, 3) := by decide +kernel
theorem dX12_statement_162 : decode cX12_statement 162 = .ok (.aload_n 0, 1) := by decide +kernel
theorem dX12_statement_163 : decode cX12_statement 163 = .ok (.getfield 55, 3) := by decide +kernel
theorem dX12_statement_166 : decode cX12_statement 166 = .ok (.iload_n 1, 1) := by decide +kernel
theorem dX12_statement_167 : decode cX12_statement 167 = .ok (.aload_n 0, 1) := by decide +kernel
theorem dX12_statement_168 : decode cX12_statement 168 = .ok (.getfield 278, 3) := by decide +kernel
theorem dX12_statement_171 : decode cX12_statement 171 = .ok (.iastore, 1) := by decide +kernel
theorem dX12_statement_172 : decode cX12_statement 172 = .ok (.aload_n 0, 1) := by decide +kernel
theorem dX12_statement_173 : decode cX12_statement 173 = .ok (.invokevirtual 301, 3) := by decide +kernel
theorem dX12_statement_176 : decode cX12_statement 176 = .ok (.goto 7, 3) := by decide +kernel
theorem dX12_statement_157 : decode cX12_statement 157 = .ok (.iload_n 2, 1) := by decide +kernel
theorem dX12_statement_158 : decode cX12_statement 158 = .ok (.iconst 3, 1) := by decide +kernel
theorem dX12_statement_159 : decode cX12_statement 159 = .ok (.if_icmp .le 20, 3) := by decide +kernel
theorem dX12_statement_128 : decode cX12_statement 128 = .ok (.aload_n 0, 1) := by decide +kernel
theorem dX12_statement_129 : decode cX12_statement 129 = .ok (.getfield 61, 3) := by decide +kernel
theorem dX12_statement_132 : decode cX12_statement 132 = .ok (.iload_n 1, 1) := by decide +kernel
theorem dX12_statement_133 : decode cX12_statement 133 = .ok (.aload_n 0, 1) := by decide +kernel
theorem dX12_statement_134 : decode cX12_statement 134 = .ok (.iconst 3, 1) := by decide +kernel
theorem dX12_statement_135 : decode cX12_statement 135 = .ok (.invokevirtual 399, 3) := by decide +kernel
theorem dX12_statement_138 : decode cX12_statement 138 = .ok (.iastore, 1) := by decide +kernel
theorem dX12_statement_139 : decode cX12_statement 139 = .ok (.goto 44, 3) := by decide +kernel
theorem dX12_statement_77 : decode cX12_statement 77 = .ok (.aload_n 0, 1) := by decide +kernel
theorem dX12_statement_78 : decode cX12_statement 78 = .ok (.getfield 58, 3) := by decide +kernel
theorem dX12_statement_81 : decode cX12_statement 81 = .ok (.iload_n 1, 1) := by decide +kernel
theorem dX12_statement_82 : decode cX12_statement 82 = .ok (.aload_n 0, 1) := by decide +kernel
theorem dX12_statement_83 : decode cX12_statement 83 = .ok (.iconst 0, 1) := by decide +kernel
theorem dX12_statement_84 : decode cX12_statement 84 = .ok (.invokevirtual 399, 3) := by decide +kernel
theorem dX12_statement_87 : decode cX12_statement 87 = .ok (.iastore, 1) := by decide +kernel
theorem dX12_statement_88 : decode cX12_statement 88 = .ok (.aload_n 0, 1) := by decide +kernel
theorem dX12_statement_89 : decode cX12_statement 89 = .ok (.getfield 294, 3) := by decide +kernel
theorem dX12_statement_92 : decode cX12_statement 92 = .ok (.ifCond .ne 91, 3) := by decide +kernel
theorem dX12_statement_95 : decode cX12_statement 95 = .ok (.aload_n 0, 1) := by decide +kernel
theorem dX12_statement_96 : decode cX12_statement 96 = .ok (.ldc2_w 403, 3) := by decide +kernel
set_option maxRecDepth 20000 in
theorem ggX12_statement_X12_isWord : GoodIn wsX12_statement wsX12_isWord := goodIn_sub (fa_c (me_s (me_l (me_r (me_r (me_r (me_r (me_l (List.mem_of_getElem? (i := 6) rfl)))))))) (fa_a (fa_c (me_s (me_l (me_l (List.mem_of_getElem? (i := 5) rfl)))) (fa_c (me_s (me_l (me_l (List.mem_of_getElem? (i := 6) rfl)))) fa_n)) (fun w h => (me_s (me_r h))))) (by decide +kernel)
set_option maxRecDepth 20000 in
theorem gX12_statement_X12_isWord : GoodIn wsX12_statement (wsV RX12 377 RX12 yX12_isWord wsX12_isWord) := goodIn_app (goodIn_sub (fa_c (me_s (me_l (me_r (me_r (me_r (me_r (me_l (List.mem_of_getElem? (i := 3) rfl)))))))) (fa_c (me_s (me_l (me_r (me_r (me_r (me_r (me_l (List.mem_of_getElem? (i := 4) rfl)))))))) (fa_c (me_s (me_l (me_r (me_r (me_r (me_r (me_l (List.mem_of_getElem? (i := 5) rfl)))))))) (fa_c (me_s (me_l (me_l (List.mem_of_getElem? (i := 15) rfl)))) fa_n)))) (by decide +kernel)) ggX12_statement_X12_isWord
theorem dX12_statement_99 : decode cX12_statement 99 = .ok (.invokevirtual 377, 3) := by decide +kernel
theorem dX12_statement_102 : decode cX12_statement 102 = .ok (.ifCond .eq 81, 3) := by decide +kernel
theorem dX12_statement_105 : decode cX12_statement 105 = .ok (.aload_n 0, 1) := by decide +kernel
theorem dX12_statement_106 : decode cX12_statement 106 = .ok (.invokevirtual 301, 3) := by decide +kernel
theorem dX12_statement_109 : decode cX12_statement 109 = .ok (.aload_n 0, 1) := by decide +kernel
theorem dX12_statement_110 : decode cX12_statement 110 = .ok (.getfield 61, 3) := by decide +kernel
theorem dX12_statement_113 : decode cX12_statement 113 = .ok (.iload_n 1, 1) := by decide +kernel
theorem dX12_statement_114 : decode cX12_statement 114 = .ok (.aload_n 0, 1) := by decide +kernel
theorem dX12_statement_115 : decode cX12_statement 115 = .ok (.iconst 3, 1) := by decide +kernel
theorem dX12_statement_116 : decode cX12_statement 116 = .ok (.invokevirtual 399, 3) := by decide +kernel
theorem dX12_statement_119 : decode cX12_statement 119 = .ok (.iastore, 1) := by decide +kernel
theorem dX12_statement_120 : decode cX12_statement 120 = .ok (.goto 63, 3) := by decide +kernel
theorem dX12_orders_0 : decode cX12_orders 0 = .ok (.iload_n 1, 1) := by decide +kernel
theorem dX12_orders_1 : decode cX12_orders 1 = .ok (.ifCond .lt 18, 3) := by decide +kernel
theorem dX12_orders_19 : decode cX12_orders 19 = .ok (.bipush (-2), 2) := by decide +kernel
theorem dX12_orders_21 : decode cX12_orders 21 = .ok (.ireturn, 1) := by decide +kernel
theorem dX12_orders_4 : decode cX12_orders 4 = .ok (.iload_n 1, 1) := by decide +kernel
theorem dX12_orders_5 : decode cX12_orders 5 = .ok (.aload_n 0, 1) := by decide +kernel
theorem dX12_orders_6 : decode cX12_orders 6 = .ok (.getfield 253, 3) := by decide +kernel
theorem dX12_orders_9 : decode cX12_orders 9 = .ok (.if_icmp .gt 10, 3) := by decide +kernel
theorem dX12_orders_12 : decode cX12_orders 12 = .ok (.iload_n 2, 1) := by decide +kernel
set_option maxRecDepth 20000 in
theorem ggX12_orders_X12_isMonth : GoodIn wsX12_orders wsX12_isMonth := goodIn_sub (fa_c (me_s (me_l (me_l (List.mem_of_getElem? (i := 17) rfl)))) fa_n) (by decide +kernel)
set_option maxRecDepth 20000 in
theorem gX12_orders_X12_isMonth : GoodIn wsX12_orders (va_wsS RX12 405 yX12_isMonth wsX12_isMonth) := goodIn_app (goodIn_sub (fa_c (me_s (me_l (me_l (List.mem_of_getElem? (i := 14) rfl)))) (fa_c (me_s (me_l (me_l (List.mem_of_getElem? (i := 15) rfl)))) (fa_c (me_s (me_l (me_l (List.mem_of_getElem? (i := 16) rfl)))) fa_n))) (by decide +kernel)) ggX12_orders_X12_isMonth
theorem dX12_orders_13 : decode cX12_orders 13 = .ok (.invokestatic 405, 3) := by decide +kernel
theorem dX12_orders_16 : decode cX12_orders 16 = .ok (.ifCond .ne 6, 3) := by decide +kernel
theorem dX12_orders_22 : decode cX12_orders 22 = .ok (.aload_n 0, 1) := by decide +kernel
theorem dX12_orders_23 : decode cX12_orders 23 = .ok (.getfield 408, 3) := by decide +kernel
theorem dX12_orders_26 : decode cX12_orders 26 = .ok (.bipush 12, 2) := by decide +kernel
theorem dX12_orders_28 : decode cX12_orders 28 = .ok (.if_icmp .ne 6, 3) := by decide +kernel
theorem dX12_orders_34 : decode cX12_orders 34 = .ok (.aload_n 0, 1) := by decide +kernel
theorem dX12_orders_35 : decode cX12_orders 35 = .ok (.iload_n 1, 1) := by decide +kernel
theorem dX12_orders_36 : decode cX12_orders 36 = .ok (.putfield 259, 3) := by decide +kernel
theorem dX12_orders_39 : decode cX12_orders 39 = .ok (.aload_n 0, 1) := by decide +kernel
theorem dX12_orders_40 : decode cX12_orders 40 = .ok (.iconst 0, 1) := by decide +kernel
theorem dX12_orders_41 : decode cX12_orders 41 = .ok (.putfield 253, 3) := by decide +kernel
theorem dX12_orders_44 : decode cX12_orders 44 = .ok (.aload_n 0, 1) := by decide +kernel
theorem dX12_orders_45 : decode cX12_orders 45 = .ok (.iconst 0, 1) := by decide +kernel
theorem dX12_orders_46 : decode cX12_orders 46 = .ok (.putfield 256, 3) := by decide +kernel
theorem dX12_orders_49 : decode cX12_orders 49 = .ok (.aload_n 0, 1) := by decide +kernel
theorem dX12_orders_50 : decode cX12_orders 50 = .ok (.iconst (-1), 1) := by decide +kernel
theorem dX12_orders_51 : decode cX12_orders 51 = .ok (.putfield 87, 3) := by decide +kernel
theorem dX12_orders_54 : decode cX12_orders 54 = .ok (.aload_n 0, 1) := by decide +kernel
theorem dX12_orders_55 : decode cX12_orders 55 = .ok (.iconst 0, 1) := by decide +kernel
theorem dX12_orders_56 : decode cX12_orders 56 = .ok (.putfield 294, 3) := by decide +kernel
theorem dX12_orders_59 : decode cX12_orders 59 = .ok (.aload_n 0, 1) := by decide +kernel
theorem dX12_orders_60 : decode cX12_orders 60 = .ok (.getfield 411, 3) := by decide +kernel
theorem dX12_orders_63 : decode cX12_orders 63 = .ok (.istore_n 3, 1) := by decide +kernel
theorem dX12_orders_64 : decode cX12_orders 64 = .ok (.aload_n 0, 1) := by decide +kernel
theorem dX12_orders_65 : decode cX12_orders 65 = .ok (.getfield 337, 3) := by decide +kernel
theorem dX12_orders_68 : decode cX12_orders 68 = .ok (.istore 4, 2) := by decide +kernel
theorem dX12_orders_70 : decode cX12_orders 70 = .ok (.aload_n 0, 1) := by decide +kernel
set_option maxRecDepth 20000 in
theorem ggX12_orders_X12_next : GoodIn wsX12_orders wsX12_next := goodIn_sub (fa_c (me_s (me_l (me_l (List.mem_of_getElem? (i := 21) rfl)))) (fa_a (fa_a (fa_c (me_s (me_l (me_l (List.mem_of_getElem? (i := 3) rfl)))) (fa_c (me_s (me_l (me_l (List.mem_of_getElem? (i := 22) rfl)))) (fa_c (me_s (me_l (me_l (List.mem_of_getElem? (i := 23) rfl)))) (fa_c (me_s (me_l (me_r (me_l (List.mem_of_getElem? (i := 0) rfl))))) (fa_c (me_s (me_l (me_r (me_l (List.mem_of_getElem? (i := 1) rfl))))) (fa_c (me_s (me_l (me_r (me_l (List.mem_of_getElem? (i := 2) rfl))))) (fa_c (me_s (me_l (me_l (List.mem_of_getElem? (i := 8) rfl)))) (fa_c (me_s (me_l (me_r (me_l (List.mem_of_getElem? (i := 3) rfl))))) (fa_c (me_s (me_l (me_r (me_l (List.mem_of_getElem? (i := 4) rfl))))) (fa_c (me_s (me_l (me_r (me_l (List.mem_of_getElem? (i := 5) rfl))))) (fa_c (me_s (me_l (me_r (me_l (List.mem_of_getElem? (i := 6) rfl))))) (fa_c (me_s (me_l (me_r (me_l (List.mem_of_getElem? (i := 7) rfl))))) (fa_c (me_s (me_l (me_l (List.mem_of_getElem? (i := 16) rfl)))) (fa_c (me_s (me_l (me_r (me_l (List.mem_of_getElem? (i := 8) rfl))))) (fa_c (me_s (me_l (me_l (List.mem_of_getElem? (i := 2) rfl)))) (fa_c (me_s (me_l (me_r (me_l (List.mem_of_getElem? (i := 9) rfl))))) (fa_c (me_s (me_l (me_r (me_l (List.mem_of_getElem? (i := 10) rfl))))) (fa_c (me_s (me_l (me_r (me_l (List.mem_of_getElem? (i := 11) rfl))))) (fa_c (me_s (me_l (me_r (me_l (List.mem_of_getElem? (i := 12) rfl))))) (fa_c (me_s (me_l (me_r (me_l (List.mem_of_getElem? (i := 13) rfl))))) (fa_c (me_s (me_l (me_r (me_l (List.mem_of_getElem? (i := 14) rfl))))) (fa_c (me_s (me_l (me_r (me_l (List.mem_of_getElem? (i := 15) rfl))))) (fa_c (me_s (me_l (me_r (me_l (List.mem_of_getElem? (i := 16) rfl))))) (fa_c (me_s (me_l (me_r (me_l (List.mem_of_getElem? (i := 17) rfl))))) fa_n)))))))))))))))))))))))) (fa_c (me_s (me_l (me_r (me_l (List.mem_of_getElem? (i := 18) rfl))))) fa_n)) (fun w h => (me_s (me_r h))))) (by decide +kernel)
set_option maxRecDepth 20000 in
theorem gX12_orders_X12_next : GoodIn wsX12_orders (wsV RX12 301 RX12 yX12_next wsX12_next) := goodIn_app (goodIn_sub (fa_c (me_s (me_l (me_l (List.mem_of_getElem? (i := 18) rfl)))) (fa_c (me_s (me_l (me_l (List.mem_of_getElem? (i := 19) rfl)))) (fa_c (me_s (me_l (me_l (List.mem_of_getElem? (i := 20) rfl)))) (fa_c (me_s (me_l (me_l (List.mem_of_getElem? (i := 16) rfl)))) fa_n)))) (by decide +kernel)) ggX12_orders_X12_next
theorem dX12_orders_71 : decode cX12_orders 71 = .ok (.invokevirtual 301, 3) := by decide +kernel
theorem dX12_orders_74 : decode cX12_orders 74 = .ok (.aload_n 0, 1) := by decide +kernel
theorem dX12_orders_75 : decode cX12_orders 75 = .ok (.getfield 281, 3) := by decide +kernel
theorem dX12_orders_78 : decode cX12_orders 78 = .ok (.ifCond .eq 56, 3) := by decide +kernel
theorem dX12_orders_134 : decode cX12_orders 134 = .ok (.aload_n 0, 1) := by decide +kernel
theorem dX12_orders_135 : decode cX12_orders 135 = .ok (.getfield 294, 3) := by decide +kernel
theorem dX12_orders_138 : decode cX12_orders 138 = .ok (.ifCond .eq 16, 3) := by decide +kernel
theorem dX12_orders_154 : decode cX12_orders 154 = .ok (.aload_n 0, 1) := by decide +kernel
theorem dX12_orders_155 : decode cX12_orders 155 = .ok (.getfield 40, 3) := by decide +kernel
theorem dX12_orders_158 : decode cX12_orders 158 = .ok (.aload_n 0, 1) := by decide +kernel
theorem dX12_orders_159 : decode cX12_orders 159 = .ok (.getfield 408, 3) := by decide +kernel
theorem dX12_orders_162 : decode cX12_orders 162 = .ok (.iload_n 3, 1) := by decide +kernel
theorem dX12_orders_163 : decode cX12_orders 163 = .ok (.iastore, 1) := by decide +kernel
theorem dX12_orders_164 : decode cX12_orders 164 = .ok (.aload_n 0, 1) := by decide +kernel
theorem dX12_orders_165 : decode cX12_orders 165 = .ok (.getfield 43, 3) := by decide +kernel
theorem dX12_orders_168 : decode cX12_orders 168 = .ok (.aload_n 0, 1) := by decide +kernel
theorem dX12_orders_169 : decode cX12_orders 169 = .ok (.getfield 408, 3) := by decide +kernel
theorem dX12_orders_172 : decode cX12_orders 172 = .ok (.aload_n 0, 1) := by decide +kernel
theorem dX12_orders_173 : decode cX12_orders 173 = .ok (.getfield 411, 3) := by decide +kernel
theorem dX12_orders_176 : decode cX12_orders 176 = .ok (.iload_n 3, 1) := by decide +kernel
theorem dX12_orders_177 : decode cX12_orders 177 = .ok (.isub, 1) := by decide +kernel
theorem dX12_orders_178 : decode cX12_orders 178 = .ok (.iastore, 1) := by decide +kernel
theorem dX12_orders_179 : decode cX12_orders 179 = .ok (.aload_n 0, 1) := by decide +kernel
theorem dX12_orders_180 : decode cX12_orders 180 = .ok (.getfield 46, 3) := by decide +kernel
theorem dX12_orders_183 : decode cX12_orders 183 = .ok (.aload_n 0, 1) := by decide +kernel
theorem dX12_orders_184 : decode cX12_orders 184 = .ok (.getfield 408, 3) := by decide +kernel
theorem dX12_orders_187 : decode cX12_orders 187 = .ok (.iload_n 2, 1) := by decide +kernel
theorem dX12_orders_188 : decode cX12_orders 188 = .ok (.iastore, 1) := by decide +kernel
theorem dX12_orders_189 : decode cX12_orders 189 = .ok (.aload_n 0, 1) := by decide +kernel
theorem dX12_orders_190 : decode cX12_orders 190 = .ok (.getfield 49, 3) := by decide +kernel
theorem dX12_orders_193 : decode cX12_orders 193 = .ok (.aload_n 0, 1) := by decide +kernel
theorem dX12_orders_194 : decode cX12_orders 194 = .ok (.getfield 408, 3) := by decide +kernel
theorem dX12_orders_197 : decode cX12_orders 197 = .ok (.aload_n 0, 1) := by decide +kernel
theorem dX12_orders_198 : decode cX12_orders 198 = .ok (.getfield 232, 3) := by decide +kernel
theorem dX12_orders_201 : decode cX12_orders 201 = .ok (.iastore, 1) := by decide +kernel
theorem dX12_orders_202 : decode cX12_orders 202 = .ok (.aload_n 0, 1) := by decide +kernel
theorem dX12_orders_203 : decode cX12_orders 203 = .ok (.dup, 1) := by decide +kernel
theorem dX12_orders_204 : decode cX12_orders 204 = .ok (.getfield 408, 3) := by decide +kernel
theorem dX12_orders_207 : decode cX12_orders 207 = .ok (.iconst 1, 1) := by decide +kernel
theorem dX12_orders_208 : decode cX12_orders 208 = .ok (.iadd, 1) := by decide +kernel
theorem dX12_orders_209 : decode cX12_orders 209 = .ok (.putfield 408, 3) := by decide +kernel
theorem dX12_orders_212 : decode cX12_orders 212 = .ok (.aload_n 0, 1) := by decide +kernel
theorem dX12_orders_213 : decode cX12_orders 213 = .ok (.getfield 408, 3) := by decide +kernel
theorem dX12_orders_216 : decode cX12_orders 216 = .ok (.iconst 1, 1) := by decide +kernel
theorem dX12_orders_217 : decode cX12_orders 217 = .ok (.isub, 1) := by decide +kernel
theorem dX12_orders_218 : decode cX12_orders 218 = .ok (.ireturn, 1) := by decide +kernel
theorem dX12_orders_141 : decode cX12_orders 141 = .ok (.aload_n 0, 1) := by decide +kernel
theorem dX12_orders_142 : decode cX12_orders 142 = .ok (.iload_n 3, 1) := by decide +kernel
theorem dX12_orders_143 : decode cX12_orders 143 = .ok (.putfield 411, 3) := by decide +kernel
theorem dX12_orders_146 : decode cX12_orders 146 = .ok (.aload_n 0, 1) := by decide +kernel
theorem dX12_orders_147 : decode cX12_orders 147 = .ok (.iload 4, 2) := by decide +kernel
theorem dX12_orders_149 : decode cX12_orders 149 = .ok (.putfield 337, 3) := by decide +kernel
theorem dX12_orders_152 : decode cX12_orders 152 = .ok (.iconst (-1), 1) := by decide +kernel
theorem dX12_orders_153 : decode cX12_orders 153 = .ok (.ireturn, 1) := by decide +kernel
theorem dX12_orders_81 : decode cX12_orders 81 = .ok (.aload_n 0, 1) := by decide +kernel
theorem dX12_orders_82 : decode cX12_orders 82 = .ok (.getfield 294, 3) := by decide +kernel
theorem dX12_orders_85 : decode cX12_orders 85 = .ok (.ifCond .ne 49, 3) := by decide +kernel
theorem dX12_orders_88 : decode cX12_orders 88 = .ok (.aload_n 0, 1) := by decide +kernel
theorem dX12_orders_89 : decode cX12_orders 89 = .ok (.getfield 411, 3) := by decide +kernel
theorem dX12_orders_92 : decode cX12_orders 92 = .ok (.iload_n 3, 1) := by decide +kernel
theorem dX12_orders_93 : decode cX12_orders 93 = .ok (.isub, 1) := by decide +kernel
theorem dX12_orders_94 : decode cX12_orders 94 = .ok (.bipush 24, 2) := by decide +kernel
theorem dX12_orders_96 : decode cX12_orders 96 = .ok (.if_icmp .ne 10, 3) := by decide +kernel
theorem dX12_orders_106 : decode cX12_orders 106 = .ok (.aload_n 0, 1) := by decide +kernel
theorem dX12_orders_107 : decode cX12_orders 107 = .ok (.aload_n 0, 1) := by decide +kernel
theorem dX12_orders_108 : decode cX12_orders 108 = .ok (.getfield 411, 3) := by decide +kernel
theorem dX12_orders_111 : decode cX12_orders 111 = .ok (.invokevirtual 414, 3) := by decide +kernel
theorem dX12_orders_114 : decode cX12_orders 114 = .ok (.aload_n 0, 1) := by decide +kernel
theorem dX12_orders_115 : decode cX12_orders 115 = .ok (.getfield 294, 3) := by decide +kernel
theorem dX12_orders_118 : decode cX12_orders 118 = .ok (.ifCond .ne (-44), 3) := by decide +kernel
theorem dX12_orders_121 : decode cX12_orders 121 = .ok (.aload_n 0, 1) := by decide +kernel
theorem dX12_orders_122 : decode cX12_orders 122 = .ok (.dup, 1) := by decide +kernel
theorem dX12_orders_123 : decode cX12_orders 123 = .ok (.getfield 411, 3) := by decide +kernel
theorem dX12_orders_126 : decode cX12_orders 126 = .ok (.iconst 1, 1) := by decide +kernel
theorem dX12_orders_127 : decode cX12_orders 127 = .ok (.iadd, 1) := by decide +kernel
theorem dX12_orders_128 : decode cX12_orders 128 = .ok (.putfield 411, 3) := by decide +kernel
theorem dX12_orders_131 : decode cX12_orders 131 = .ok (.goto (-57), 3) := by decide +kernel
theorem dX12_orders_99 : decode cX12_orders 99 = .ok (.aload_n 0, 1) := by decide +kernel
set_option maxRecDepth 20000 in
theorem ggX12_orders_X12_errs : GoodIn wsX12_orders wsX12_errs := goodIn_sub (fa_c (me_s (me_l (me_r (me_l (List.mem_of_getElem? (i := 22) rfl))))) (fa_a (fa_c (me_s (me_l (me_l (List.mem_of_getElem? (i := 5) rfl)))) (fa_c (me_s (me_l (me_l (List.mem_of_getElem? (i := 22) rfl)))) (fa_c (me_s (me_l (me_l (List.mem_of_getElem? (i := 4) rfl)))) fa_n))) (fun w h => (me_s (me_r h))))) (by decide +kernel)
set_option maxRecDepth 20000 in
theorem gX12_orders_X12_errs : GoodIn wsX12_orders (wsV RX12 304 RX12 yX12_errs wsX12_errs) := goodIn_app (goodIn_sub (fa_c (me_s (me_l (me_r (me_l (List.mem_of_getElem? (i := 19) rfl))))) (fa_c (me_s (me_l (me_r (me_l (List.mem_of_getElem? (i := 20) rfl))))) (fa_c (me_s (me_l (me_r (me_l (List.mem_of_getElem? (i := 21) rfl))))) (fa_c (me_s (me_l (me_l (List.mem_of_getElem? (i := 16) rfl)))) fa_n)))) (by decide +kernel)) ggX12_orders_X12_errs
theorem dX12_orders_100 : decode cX12_orders 100 = .ok (.invokevirtual 304, 3) := by decide +kernel
theorem dX12_orders_103 : decode cX12_orders 103 = .ok (.goto (-29), 3) := by decide +kernel
theorem dX12_orders_31 : decode cX12_orders 31 = .ok (.bipush (-3), 2) := by decide +kernel
theorem dX12_orders_33 : decode cX12_orders 33 = .ok (.ireturn, 1) := by decide +kernel
theorem dX12_feed_0 : decode cX12_feed 0 = .ok (.aload_n 0, 1) := by decide +kernel
theorem dX12_feed_1 : decode cX12_feed 1 = .ok (.getfield 253, 3) := by decide +kernel
theorem dX12_feed_4 : decode cX12_feed 4 = .ok (.bipush 20, 2) := by decide +kernel
theorem dX12_feed_6 : decode cX12_feed 6 = .ok (.iadd, 1) := by decide +kernel
theorem dX12_feed_7 : decode cX12_feed 7 = .ok (.sipush 500, 3) := by decide +kernel
theorem dX12_feed_10 : decode cX12_feed 10 = .ok (.if_icmp .le 5, 3) := by decide +kernel
theorem dX12_feed_15 : decode cX12_feed 15 = .ok (.iconst 0, 1) := by decide +kernel
theorem dX12_feed_16 : decode cX12_feed 16 = .ok (.istore 6, 2) := by decide +kernel
theorem dX12_feed_18 : decode cX12_feed 18 = .ok (.iload 6, 2) := by decide +kernel
theorem dX12_feed_20 : decode cX12_feed 20 = .ok (.bipush 20, 2) := by decide +kernel
theorem dX12_feed_22 : decode cX12_feed 22 = .ok (.if_icmp .ge 90, 3) := by decide +kernel
theorem dX12_feed_112 : decode cX12_feed 112 = .ok (.aload_n 0, 1) := by decide +kernel
theorem dX12_feed_113 : decode cX12_feed 113 = .ok (.getfield 253, 3) := by decide +kernel
theorem dX12_feed_116 : decode cX12_feed 116 = .ok (.ireturn, 1) := by decide +kernel
theorem dX12_feed_25 : decode cX12_feed 25 = .ok (.iload 6, 2) := by decide +kernel
theorem dX12_feed_27 : decode cX12_feed 27 = .ok (.iconst 4, 1) := by decide +kernel
theorem dX12_feed_28 : decode cX12_feed 28 = .ok (.if_icmp .ge 7, 3) := by decide +kernel
theorem dX12_feed_35 : decode cX12_feed 35 = .ok (.iload 6, 2) := by decide +kernel
theorem dX12_feed_37 : decode cX12_feed 37 = .ok (.bipush 8, 2) := by decide +kernel
theorem dX12_feed_39 : decode cX12_feed 39 = .ok (.if_icmp .ge 7, 3) := by decide +kernel
theorem dX12_feed_46 : decode cX12_feed 46 = .ok (.iload 6, 2) := by decide +kernel
theorem dX12_feed_48 : decode cX12_feed 48 = .ok (.bipush 12, 2) := by decide +kernel
theorem dX12_feed_50 : decode cX12_feed 50 = .ok (.if_icmp .ge 7, 3) := by decide +kernel
theorem dX12_feed_57 : decode cX12_feed 57 = .ok (.iload 6, 2) := by decide +kernel
theorem dX12_feed_59 : decode cX12_feed 59 = .ok (.bipush 16, 2) := by decide +kernel
theorem dX12_feed_61 : decode cX12_feed 61 = .ok (.if_icmp .ge 8, 3) := by decide +kernel
theorem dX12_feed_69 : decode cX12_feed 69 = .ok (.iload 5, 2) := by decide +kernel
theorem dX12_feed_71 : decode cX12_feed 71 = .ok (.istore 7, 2) := by decide +kernel
theorem dX12_feed_73 : decode cX12_feed 73 = .ok (.aload_n 0, 1) := by decide +kernel
theorem dX12_feed_74 : decode cX12_feed 74 = .ok (.getfield 83, 3) := by decide +kernel
theorem dX12_feed_77 : decode cX12_feed 77 = .ok (.aload_n 0, 1) := by decide +kernel
theorem dX12_feed_78 : decode cX12_feed 78 = .ok (.getfield 253, 3) := by decide +kernel
theorem dX12_feed_81 : decode cX12_feed 81 = .ok (.iload 7, 2) := by decide +kernel
theorem dX12_feed_83 : decode cX12_feed 83 = .ok (.bipush 24, 2) := by decide +kernel
theorem dX12_feed_85 : decode cX12_feed 85 = .ok (.bipush 8, 2) := by decide +kernel
theorem dX12_feed_87 : decode cX12_feed 87 = .ok (.iload 6, 2) := by decide +kernel
theorem dX12_feed_89 : decode cX12_feed 89 = .ok (.iconst 4, 1) := by decide +kernel
theorem dX12_feed_90 : decode cX12_feed 90 = .ok (.irem, 1) := by decide +kernel
theorem dX12_feed_91 : decode cX12_feed 91 = .ok (.imul, 1) := by decide +kernel
theorem dX12_feed_92 : decode cX12_feed 92 = .ok (.isub, 1) := by decide +kernel
theorem dX12_feed_93 : decode cX12_feed 93 = .ok (.ishr, 1) := by decide +kernel
theorem dX12_feed_94 : decode cX12_feed 94 = .ok (.i2b, 1) := by decide +kernel
theorem dX12_feed_95 : decode cX12_feed 95 = .ok (.bastore, 1) := by decide +kernel
theorem dX12_feed_96 : decode cX12_feed 96 = .ok (.aload_n 0, 1) := by decide +kernel
theorem dX12_feed_97 : decode cX12_feed 97 = .ok (.dup, 1) := by decide +kernel
theorem dX12_feed_98 : decode cX12_feed 98 = .ok (.getfield 253, 3) := by decide +kernel
theorem dX12_feed_101 : decode cX12_feed 101 = .ok (.iconst 1, 1) := by decide +kernel
theorem dX12_feed_102 : decode cX12_feed 102 = .ok (.iadd, 1) := by decide +kernel
theorem dX12_feed_103 : decode cX12_feed 103 = .ok (.putfield 253, 3) := by decide +kernel
theorem dX12_feed_106 : decode cX12_feed 106 = .ok (.iinc 6 1, 3) := by decide +kernel
theorem dX12_feed_109 : decode cX12_feed 109 = .ok (.goto (-91), 3) := by decide +kernel
theorem dX12_feed_64 : decode cX12_feed 64 = .ok (.iload 4, 2) := by decide +kernel
theorem dX12_feed_66 : decode cX12_feed 66 = .ok (.goto 5, 3) := by decide +kernel
theorem dX12_feed_53 : decode cX12_feed 53 = .ok (.iload_n 3, 1) := by decide +kernel
theorem dX12_feed_54 : decode cX12_feed 54 = .ok (.goto 17, 3) := by decide +kernel
theorem dX12_feed_42 : decode cX12_feed 42 = .ok (.iload_n 2, 1) := by decide +kernel
theorem dX12_feed_43 : decode cX12_feed 43 = .ok (.goto 28, 3) := by decide +kernel
theorem dX12_feed_31 : decode cX12_feed 31 = .ok (.iload_n 1, 1) := by decide +kernel
theorem dX12_feed_32 : decode cX12_feed 32 = .ok (.goto 39, 3) := by decide +kernel
theorem dX12_feed_13 : decode cX12_feed 13 = .ok (.iconst (-1), 1) := by decide +kernel
theorem dX12_feed_14 : decode cX12_feed 14 = .ok (.ireturn, 1) := by decide +kernel

noncomputable def z_iro (I : z_I) : Prop := (I 0 14).toInt ≤ 24 * (I 0 13).toInt ∧ (I 0 15).toInt ≤ 505 * (I 0 13).toInt
theorem z_tw {I : z_I} {n : Nat} {B : Int} {x : Int32} (h : z_PS I n B) (hx : x.toInt = (I 0 47).toInt - 1) (hd : 0 < (I 0 47).toInt) : 0 ≤ (I 26 x.toNatClampNeg).toInt ∧ (I 26 x.toNatClampNeg).toInt ≤ 5 := by
  have h1 := z_top (z_pst h hx hd)
  have h2 := h1.2.2.2.2.2.2.2.2.2.2.2
  unfold z_fv at h2
  omega
theorem zj_X12_parse_X12 : ∀ w ∈ wsX120, w ∈ wsX12_parse := fun w h => (List.mem_cons_of_mem _ (List.mem_append_right _ h))
theorem zj_X12_statement_X12 : ∀ w ∈ wsX120, w ∈ wsX12_statement := fun w h => (List.mem_cons_of_mem _ (List.mem_append_right _ h))
theorem zj_X12_orders_X12 : ∀ w ∈ wsX120, w ∈ wsX12_orders := fun w h => (List.mem_cons_of_mem _ (List.mem_append_right _ h))
theorem zj_X12_feed_X12 : ∀ w ∈ wsX120, w ∈ wsX12_feed := fun w h => (List.mem_cons_of_mem _ (List.mem_append_right _ h))