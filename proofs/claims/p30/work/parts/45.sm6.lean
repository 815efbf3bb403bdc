theorem dX12_sums_0 : decode cX12_sums 0 = .ok (.aload_n 0, 1) := z_dd_42 (by decide +kernel)
theorem dX12_sums_1 : decode cX12_sums 1 = .ok (.getfield 94, 3) := z_dd_180 (by decide +kernel)
theorem dX12_sums_4 : decode cX12_sums 4 = .ok (.iload_n 1, 1) := z_dd_27 (by decide +kernel)
theorem dX12_sums_5 : decode cX12_sums 5 = .ok (.iaload, 1) := z_dd_46 (by decide +kernel)
theorem dX12_sums_6 : decode cX12_sums 6 = .ok (.ifCond .ne 24, 3) := z_dd_154 (by decide +kernel)
theorem dX12_sums_30 : decode cX12_sums 30 = .ok (.aload_n 0, 1) := z_dd_42 (by decide +kernel)
theorem dX12_sums_31 : decode cX12_sums 31 = .ok (.getfield 97, 3) := z_dd_180 (by decide +kernel)
theorem dX12_sums_34 : decode cX12_sums 34 = .ok (.iload_n 1, 1) := z_dd_27 (by decide +kernel)
theorem dX12_sums_35 : decode cX12_sums 35 = .ok (.aload_n 0, 1) := z_dd_42 (by decide +kernel)
theorem dX12_sums_36 : decode cX12_sums 36 = .ok (.getfield 97, 3) := z_dd_180 (by decide +kernel)
theorem dX12_sums_39 : decode cX12_sums 39 = .ok (.iload_n 1, 1) := z_dd_27 (by decide +kernel)
theorem dX12_sums_40 : decode cX12_sums 40 = .ok (.iaload, 1) := z_dd_46 (by decide +kernel)
theorem dX12_sums_41 : decode cX12_sums 41 = .ok (.ifCond .ge 10, 3) := z_dd_156 (by decide +kernel)
theorem dX12_sums_51 : decode cX12_sums 51 = .ok (.aload_n 0, 1) := z_dd_42 (by decide +kernel)
theorem dX12_sums_52 : decode cX12_sums 52 = .ok (.aload_n 0, 1) := z_dd_42 (by decide +kernel)
theorem dX12_sums_53 : decode cX12_sums 53 = .ok (.getfield 100, 3) := z_dd_180 (by decide +kernel)
theorem dX12_sums_56 : decode cX12_sums 56 = .ok (.iload_n 1, 1) := z_dd_27 (by decide +kernel)
theorem dX12_sums_57 : decode cX12_sums 57 = .ok (.iaload, 1) := z_dd_46 (by decide +kernel)
theorem dX12_sums_58 : decode cX12_sums 58 = .ok (.aload_n 0, 1) := z_dd_42 (by decide +kernel)
theorem dX12_sums_59 : decode cX12_sums 59 = .ok (.getfield 97, 3) := z_dd_180 (by decide +kernel)
theorem dX12_sums_62 : decode cX12_sums 62 = .ok (.iload_n 1, 1) := z_dd_27 (by decide +kernel)
theorem dX12_sums_63 : decode cX12_sums 63 = .ok (.iaload, 1) := z_dd_46 (by decide +kernel)
theorem dX12_sums_64 : decode cX12_sums 64 = .ok (.aload_n 0, 1) := z_dd_42 (by decide +kernel)
theorem dX12_sums_65 : decode cX12_sums 65 = .ok (.getfield 343, 3) := z_dd_180 (by decide +kernel)
set_option maxRecDepth 20000 in
theorem ggX12_sums_X12_node : GoodIn wsX12_sums wsX12_node := goodIn_sub (fa_c (me_s (me_l (me_l (List.mem_of_getElem? (i := 14) rfl)))) (fa_a (fa_c (me_s (me_l (me_l (List.mem_of_getElem? (i := 15) rfl)))) (fa_c (me_s (me_l (me_l (List.mem_of_getElem? (i := 16) rfl)))) (fa_c (me_s (me_l (me_l (List.mem_of_getElem? (i := 17) rfl)))) (fa_c (me_s (me_l (me_l (List.mem_of_getElem? (i := 18) rfl)))) fa_n)))) (fun w h => (me_s (me_r h))))) (by decide +kernel)
set_option maxRecDepth 20000 in
theorem gX12_sums_X12_node : GoodIn wsX12_sums (wsV RX12 366 RX12 yX12_node wsX12_node) := goodIn_app (goodIn_sub (fa_c (me_s (me_l (me_l (List.mem_of_getElem? (i := 11) rfl)))) (fa_c (me_s (me_l (me_l (List.mem_of_getElem? (i := 12) rfl)))) (fa_c (me_s (me_l (me_l (List.mem_of_getElem? (i := 13) rfl)))) (fa_c (me_s (me_l (me_l (List.mem_of_getElem? (i := 7) rfl)))) fa_n)))) (by decide +kernel)) ggX12_sums_X12_node
theorem dX12_sums_68 : decode cX12_sums 68 = .ok (.invokevirtual 366, 3) := z_dd_182 (by decide +kernel)
theorem dX12_sums_71 : decode cX12_sums 71 = .ok (.iastore, 1) := z_dd_79 (by decide +kernel)
theorem dX12_sums_72 : decode cX12_sums 72 = .ok (.iload_n 2, 1) := z_dd_28 (by decide +kernel)
theorem dX12_sums_73 : decode cX12_sums 73 = .ok (.ifCond .eq 33, 3) := z_dd_153 (by decide +kernel)
theorem dX12_sums_76 : decode cX12_sums 76 = .ok (.aload_n 0, 1) := z_dd_42 (by decide +kernel)
theorem dX12_sums_77 : decode cX12_sums 77 = .ok (.bipush 43, 2) := z_dd_16 (by decide +kernel)
set_option maxRecDepth 20000 in
theorem ggX12_sums_X12_isSign : GoodIn wsX12_sums wsX12_isSign := goodIn_sub (fa_c (me_s (me_l (me_l (List.mem_of_getElem? (i := 22) rfl)))) (fa_a (fa_c (me_s (me_l (me_l (List.mem_of_getElem? (i := 23) rfl)))) (fa_c (me_s (me_l (me_r (me_l (List.mem_of_getElem? (i := 0) rfl))))) fa_n)) (fun w h => (me_s (me_r h))))) (by decide +kernel)
set_option maxRecDepth 20000 in
theorem gX12_sums_X12_isSign : GoodIn wsX12_sums (wsV RX12 298 RX12 yX12_isSign wsX12_isSign) := goodIn_app (goodIn_sub (fa_c (me_s (me_l (me_l (List.mem_of_getElem? (i := 19) rfl)))) (fa_c (me_s (me_l (me_l (List.mem_of_getElem? (i := 20) rfl)))) (fa_c (me_s (me_l (me_l (List.mem_of_getElem? (i := 21) rfl)))) (fa_c (me_s (me_l (me_l (List.mem_of_getElem? (i := 7) rfl)))) fa_n)))) (by decide +kernel)) ggX12_sums_X12_isSign
theorem dX12_sums_79 : decode cX12_sums 79 = .ok (.invokevirtual 298, 3) := z_dd_182 (by decide +kernel)
theorem dX12_sums_82 : decode cX12_sums 82 = .ok (.ifCond .eq 7, 3) := z_dd_153 (by decide +kernel)
theorem dX12_sums_85 : decode cX12_sums 85 = .ok (.iconst 2, 1) := z_dd_5 (by decide +kernel)
theorem dX12_sums_86 : decode cX12_sums 86 = .ok (.goto 47, 3) := z_dd_167 (by decide +kernel)
theorem dX12_sums_133 : decode cX12_sums 133 = .ok (.istore_n 3, 1) := z_dd_62 (by decide +kernel)
theorem dX12_sums_134 : decode cX12_sums 134 = .ok (.iload_n 3, 1) := z_dd_29 (by decide +kernel)
theorem dX12_sums_135 : decode cX12_sums 135 = .ok (.ifCond .le 30, 3) := z_dd_158 (by decide +kernel)
theorem dX12_sums_138 : decode cX12_sums 138 = .ok (.aload_n 0, 1) := z_dd_42 (by decide +kernel)
set_option maxRecDepth 20000 in
theorem ggX12_sums_X12_next : GoodIn wsX12_sums wsX12_next := goodIn_sub (fa_c (me_s (me_l (me_r (me_l (List.mem_of_getElem? (i := 4) rfl))))) (fa_a (fa_a (fa_c (me_s (me_l (me_r (me_l (List.mem_of_getElem? (i := 5) rfl))))) (fa_c (me_s (me_l (me_r (me_l (List.mem_of_getElem? (i := 6) rfl))))) (fa_c (me_s (me_l (me_r (me_l (List.mem_of_getElem? (i := 7) rfl))))) (fa_c (me_s (me_l (me_r (me_l (List.mem_of_getElem? (i := 8) rfl))))) (fa_c (me_s (me_l (me_r (me_l (List.mem_of_getElem? (i := 0) rfl))))) (fa_c (me_s (me_l (me_r (me_l (List.mem_of_getElem? (i := 9) rfl))))) (fa_c (me_s (me_l (me_l (List.mem_of_getElem? (i := 23) rfl)))) (fa_c (me_s (me_l (me_r (me_l (List.mem_of_getElem? (i := 10) rfl))))) (fa_c (me_s (me_l (me_r (me_l (List.mem_of_getElem? (i := 11) rfl))))) (fa_c (me_s (me_l (me_r (me_l (List.mem_of_getElem? (i := 12) rfl))))) (fa_c (me_s (me_l (me_r (me_l (List.mem_of_getElem? (i := 13) rfl))))) (fa_c (me_s (me_l (me_r (me_l (List.mem_of_getElem? (i := 14) rfl))))) (fa_c (me_s (me_l (me_l (List.mem_of_getElem? (i := 7) rfl)))) (fa_c (me_s (me_l (me_r (me_l (List.mem_of_getElem? (i := 15) rfl))))) (fa_c (me_s (me_l (me_r (me_l (List.mem_of_getElem? (i := 16) rfl))))) (fa_c (me_s (me_l (me_r (me_l (List.mem_of_getElem? (i := 17) rfl))))) (fa_c (me_s (me_l (me_r (me_l (List.mem_of_getElem? (i := 18) rfl))))) (fa_c (me_s (me_l (me_r (me_l (List.mem_of_getElem? (i := 19) rfl))))) (fa_c (me_s (me_l (me_r (me_l (List.mem_of_getElem? (i := 20) rfl))))) (fa_c (me_s (me_l (me_r (me_l (List.mem_of_getElem? (i := 21) rfl))))) (fa_c (me_s (me_l (me_r (me_l (List.mem_of_getElem? (i := 22) rfl))))) (fa_c (me_s (me_l (me_r (me_l (List.mem_of_getElem? (i := 23) rfl))))) (fa_c (me_s (me_l (me_r (me_r (List.mem_of_getElem? (i := 0) rfl))))) (fa_c (me_s (me_l (me_r (me_r (List.mem_of_getElem? (i := 1) rfl))))) fa_n)))))))))))))))))))))))) (fa_c (me_s (me_l (me_r (me_r (List.mem_of_getElem? (i := 2) rfl))))) fa_n)) (fun w h => (me_s (me_r h))))) (by decide +kernel)
set_option maxRecDepth 20000 in
theorem gX12_sums_X12_next : GoodIn wsX12_sums (wsV RX12 301 RX12 yX12_next wsX12_next) := goodIn_app (goodIn_sub (fa_c (me_s (me_l (me_r (me_l (List.mem_of_getElem? (i := 1) rfl))))) (fa_c (me_s (me_l (me_r (me_l (List.mem_of_getElem? (i := 2) rfl))))) (fa_c (me_s (me_l (me_r (me_l (List.mem_of_getElem? (i := 3) rfl))))) (fa_c (me_s (me_l (me_l (List.mem_of_getElem? (i := 7) rfl)))) fa_n)))) (by decide +kernel)) ggX12_sums_X12_next
theorem dX12_sums_139 : decode cX12_sums 139 = .ok (.invokevirtual 301, 3) := z_dd_182 (by decide +kernel)
theorem dX12_sums_142 : decode cX12_sums 142 = .ok (.aload_n 0, 1) := z_dd_42 (by decide +kernel)
theorem dX12_sums_143 : decode cX12_sums 143 = .ok (.getfield 100, 3) := z_dd_180 (by decide +kernel)
theorem dX12_sums_146 : decode cX12_sums 146 = .ok (.iload_n 1, 1) := z_dd_27 (by decide +kernel)
theorem dX12_sums_147 : decode cX12_sums 147 = .ok (.iload_n 3, 1) := z_dd_29 (by decide +kernel)
theorem dX12_sums_148 : decode cX12_sums 148 = .ok (.iastore, 1) := z_dd_79 (by decide +kernel)
theorem dX12_sums_149 : decode cX12_sums 149 = .ok (.aload_n 0, 1) := z_dd_42 (by decide +kernel)
theorem dX12_sums_150 : decode cX12_sums 150 = .ok (.iload_n 2, 1) := z_dd_28 (by decide +kernel)
theorem dX12_sums_151 : decode cX12_sums 151 = .ok (.ifCond .eq 7, 3) := z_dd_153 (by decide +kernel)
theorem dX12_sums_154 : decode cX12_sums 154 = .ok (.iconst 1, 1) := z_dd_4 (by decide +kernel)
theorem dX12_sums_155 : decode cX12_sums 155 = .ok (.goto 4, 3) := z_dd_167 (by decide +kernel)
set_option maxRecDepth 20000 in
theorem ggX12_sums_X12_begin : GoodIn wsX12_sums wsX12_begin := goodIn_sub (fa_c (me_s (me_l (me_l (List.mem_of_getElem? (i := 8) rfl)))) (fa_a (fa_c (me_s (me_l (me_l (List.mem_of_getElem? (i := 9) rfl)))) (fa_c (me_s (me_l (me_l (List.mem_of_getElem? (i := 10) rfl)))) (fa_c (me_s (me_l (me_l (List.mem_of_getElem? (i := 0) rfl)))) (fa_c (me_s (me_l (me_l (List.mem_of_getElem? (i := 1) rfl)))) (fa_c (me_s (me_l (me_l (List.mem_of_getElem? (i := 3) rfl)))) fa_n))))) (fun w h => (me_s (me_r h))))) (by decide +kernel)
set_option maxRecDepth 20000 in
theorem gX12_sums_X12_begin : GoodIn wsX12_sums (wsV RX12 349 RX12 yX12_begin wsX12_begin) := goodIn_app (goodIn_sub (fa_c (me_s (me_l (me_l (List.mem_of_getElem? (i := 4) rfl)))) (fa_c (me_s (me_l (me_l (List.mem_of_getElem? (i := 5) rfl)))) (fa_c (me_s (me_l (me_l (List.mem_of_getElem? (i := 6) rfl)))) (fa_c (me_s (me_l (me_l (List.mem_of_getElem? (i := 7) rfl)))) fa_n)))) (by decide +kernel)) ggX12_sums_X12_begin
theorem dX12_sums_159 : decode cX12_sums 159 = .ok (.invokevirtual 349, 3) := z_dd_182 (by decide +kernel)
theorem dX12_sums_162 : decode cX12_sums 162 = .ok (.goto 13, 3) := z_dd_167 (by decide +kernel)
theorem dX12_sums_175 : decode cX12_sums 175 = .ok (.return_, 1) := z_dd_177 (by decide +kernel)
theorem dX12_sums_89 : decode cX12_sums 89 = .ok (.aload_n 0, 1) := z_dd_42 (by decide +kernel)
theorem dX12_sums_90 : decode cX12_sums 90 = .ok (.bipush 45, 2) := z_dd_16 (by decide +kernel)
theorem dX12_sums_92 : decode cX12_sums 92 = .ok (.invokevirtual 298, 3) := z_dd_182 (by decide +kernel)
theorem dX12_sums_95 : decode cX12_sums 95 = .ok (.ifCond .eq 7, 3) := z_dd_153 (by decide +kernel)
theorem dX12_sums_98 : decode cX12_sums 98 = .ok (.iconst 3, 1) := z_dd_6 (by decide +kernel)
theorem dX12_sums_99 : decode cX12_sums 99 = .ok (.goto 34, 3) := z_dd_167 (by decide +kernel)
theorem dX12_sums_102 : decode cX12_sums 102 = .ok (.iconst 0, 1) := z_dd_3 (by decide +kernel)
theorem dX12_sums_103 : decode cX12_sums 103 = .ok (.goto 30, 3) := z_dd_167 (by decide +kernel)
theorem dX12_sums_165 : decode cX12_sums 165 = .ok (.aload_n 0, 1) := z_dd_42 (by decide +kernel)
theorem dX12_sums_166 : decode cX12_sums 166 = .ok (.aload_n 0, 1) := z_dd_42 (by decide +kernel)
theorem dX12_sums_167 : decode cX12_sums 167 = .ok (.getfield 97, 3) := z_dd_180 (by decide +kernel)
theorem dX12_sums_170 : decode cX12_sums 170 = .ok (.iload_n 1, 1) := z_dd_27 (by decide +kernel)
theorem dX12_sums_171 : decode cX12_sums 171 = .ok (.iaload, 1) := z_dd_46 (by decide +kernel)
set_option maxRecDepth 20000 in
theorem ggX12_sums_X12_ends : GoodIn wsX12_sums wsX12_ends := goodIn_sub (fa_c (me_s (me_l (me_r (me_r (List.mem_of_getElem? (i := 6) rfl))))) (fa_a (fa_c (me_s (me_l (me_l (List.mem_of_getElem? (i := 2) rfl)))) (fa_c (me_s (me_l (me_l (List.mem_of_getElem? (i := 10) rfl)))) fa_n)) (fun w h => (me_s (me_r h))))) (by decide +kernel)
set_option maxRecDepth 20000 in
theorem gX12_sums_X12_ends : GoodIn wsX12_sums (wsV RX12 369 RX12 yX12_ends wsX12_ends) := goodIn_app (goodIn_sub (fa_c (me_s (me_l (me_r (me_r (List.mem_of_getElem? (i := 3) rfl))))) (fa_c (me_s (me_l (me_r (me_r (List.mem_of_getElem? (i := 4) rfl))))) (fa_c (me_s (me_l (me_r (me_r (List.mem_of_getElem? (i := 5) rfl))))) (fa_c (me_s (me_l (me_l (List.mem_of_getElem? (i := 7) rfl)))) fa_n)))) (by decide +kernel)) ggX12_sums_X12_ends
theorem dX12_sums_172 : decode cX12_sums 172 = .ok (.invokevirtual 369, 3) := z_dd_182 (by decide +kernel)
theorem dX12_sums_44 : decode cX12_sums 44 = .ok (.aload_n 0, 1) := z_dd_42 (by decide +kernel)
theorem dX12_sums_45 : decode cX12_sums 45 = .ok (.getfield 343, 3) := z_dd_180 (by decide +kernel)
theorem dX12_sums_48 : decode cX12_sums 48 = .ok (.goto 23, 3) := z_dd_167 (by decide +kernel)
theorem dX12_sums_9 : decode cX12_sums 9 = .ok (.aload_n 0, 1) := z_dd_42 (by decide +kernel)
theorem dX12_sums_10 : decode cX12_sums 10 = .ok (.getfield 94, 3) := z_dd_180 (by decide +kernel)
theorem dX12_sums_13 : decode cX12_sums 13 = .ok (.iload_n 1, 1) := z_dd_27 (by decide +kernel)
theorem dX12_sums_14 : decode cX12_sums 14 = .ok (.iconst 1, 1) := z_dd_4 (by decide +kernel)
theorem dX12_sums_15 : decode cX12_sums 15 = .ok (.iastore, 1) := z_dd_79 (by decide +kernel)
theorem dX12_sums_16 : decode cX12_sums 16 = .ok (.aload_n 0, 1) := z_dd_42 (by decide +kernel)
theorem dX12_sums_17 : decode cX12_sums 17 = .ok (.iload_n 2, 1) := z_dd_28 (by decide +kernel)
theorem dX12_sums_18 : decode cX12_sums 18 = .ok (.ifCond .eq 7, 3) := z_dd_153 (by decide +kernel)
theorem dX12_sums_21 : decode cX12_sums 21 = .ok (.iconst 1, 1) := z_dd_4 (by decide +kernel)
theorem dX12_sums_22 : decode cX12_sums 22 = .ok (.goto 4, 3) := z_dd_167 (by decide +kernel)
theorem dX12_sums_26 : decode cX12_sums 26 = .ok (.invokevirtual 349, 3) := z_dd_182 (by decide +kernel)
theorem dX12_sums_29 : decode cX12_sums 29 = .ok (.return_, 1) := z_dd_177 (by decide +kernel)
theorem dX12_sums_106 : decode cX12_sums 106 = .ok (.aload_n 0, 1) := z_dd_42 (by decide +kernel)
theorem dX12_sums_107 : decode cX12_sums 107 = .ok (.bipush 42, 2) := z_dd_16 (by decide +kernel)
theorem dX12_sums_109 : decode cX12_sums 109 = .ok (.invokevirtual 298, 3) := z_dd_182 (by decide +kernel)
theorem dX12_sums_112 : decode cX12_sums 112 = .ok (.ifCond .eq 7, 3) := z_dd_153 (by decide +kernel)
theorem dX12_sums_115 : decode cX12_sums 115 = .ok (.iconst 4, 1) := z_dd_7 (by decide +kernel)
theorem dX12_sums_116 : decode cX12_sums 116 = .ok (.goto 17, 3) := z_dd_167 (by decide +kernel)
theorem dX12_sums_158 : decode cX12_sums 158 = .ok (.iconst 2, 1) := z_dd_5 (by decide +kernel)
theorem dX12_sums_119 : decode cX12_sums 119 = .ok (.aload_n 0, 1) := z_dd_42 (by decide +kernel)
theorem dX12_sums_120 : decode cX12_sums 120 = .ok (.bipush 47, 2) := z_dd_16 (by decide +kernel)
theorem dX12_sums_122 : decode cX12_sums 122 = .ok (.invokevirtual 298, 3) := z_dd_182 (by decide +kernel)
theorem dX12_sums_125 : decode cX12_sums 125 = .ok (.ifCond .eq 7, 3) := z_dd_153 (by decide +kernel)
theorem dX12_sums_128 : decode cX12_sums 128 = .ok (.iconst 5, 1) := z_dd_8 (by decide +kernel)
theorem dX12_sums_129 : decode cX12_sums 129 = .ok (.goto 4, 3) := z_dd_167 (by decide +kernel)
theorem dX12_sums_132 : decode cX12_sums 132 = .ok (.iconst 0, 1) := z_dd_3 (by decide +kernel)
theorem dX12_sums_25 : decode cX12_sums 25 = .ok (.iconst 2, 1) := z_dd_5 (by decide +kernel)
theorem dX12_atom_0 : decode cX12_atom 0 = .ok (.aload_n 0, 1) := z_dd_42 (by decide +kernel)
theorem dX12_atom_1 : decode cX12_atom 1 = .ok (.getfield 94, 3) := z_dd_180 (by decide +kernel)
theorem dX12_atom_4 : decode cX12_atom 4 = .ok (.iload_n 1, 1) := z_dd_27 (by decide +kernel)
theorem dX12_atom_5 : decode cX12_atom 5 = .ok (.iaload, 1) := z_dd_46 (by decide +kernel)
theorem dX12_atom_6 : decode cX12_atom 6 = .ok (.ifCond .ne 192, 3) := z_dd_154 (by decide +kernel)
theorem dX12_atom_198 : decode cX12_atom 198 = .ok (.aload_n 0, 1) := z_dd_42 (by decide +kernel)
theorem dX12_atom_199 : decode cX12_atom 199 = .ok (.getfield 94, 3) := z_dd_180 (by decide +kernel)
theorem dX12_atom_202 : decode cX12_atom 202 = .ok (.iload_n 1, 1) := z_dd_27 (by decide +kernel)
theorem dX12_atom_203 : decode cX12_atom 203 = .ok (.iaload, 1) := z_dd_46 (by decide +kernel)
theorem dX12_atom_204 : decode cX12_atom 204 = .ok (.iconst 2, 1) := z_dd_5 (by decide +kernel)
theorem dX12_atom_205 : decode cX12_atom 205 = .ok (.if_icmp .ne 41, 3) := z_dd_160 (by decide +kernel)
theorem dX12_atom_246 : decode cX12_atom 246 = .ok (.aload_n 0, 1) := z_dd_42 (by decide +kernel)
theorem dX12_atom_247 : decode cX12_atom 247 = .ok (.bipush 41, 2) := z_dd_16 (by decide +kernel)
set_option maxRecDepth 20000 in
theorem ggX12_atom_X12_must : GoodIn wsX12_atom wsX12_must := goodIn_sub (fa_c (me_s (me_l (me_r (me_r (me_r (List.mem_of_getElem? (i := 3) rfl)))))) (fa_a (fa_a (fa_c (me_s (me_l (me_r (me_r (me_l (List.mem_of_getElem? (i := 2) rfl)))))) (fa_c (me_s (me_l (me_r (me_r (me_l (List.mem_of_getElem? (i := 3) rfl)))))) (fa_c (me_s (me_l (me_r (me_r (me_l (List.mem_of_getElem? (i := 4) rfl)))))) (fa_c (me_s (me_l (me_l (List.mem_of_getElem? (i := 14) rfl)))) (fa_c (me_s (me_l (me_r (me_r (me_l (List.mem_of_getElem? (i := 5) rfl)))))) (fa_c (me_s (me_l (me_l (List.mem_of_getElem? (i := 1) rfl)))) (fa_c (me_s (me_l (me_l (List.mem_of_getElem? (i := 19) rfl)))) (fa_c (me_s (me_l (me_l (List.mem_of_getElem? (i := 11) rfl)))) (fa_c (me_s (me_l (me_l (List.mem_of_getElem? (i := 12) rfl)))) (fa_c (me_s (me_l (me_l (List.mem_of_getElem? (i := 13) rfl)))) (fa_c (me_s (me_l (me_l (List.mem_of_getElem? (i := 15) rfl)))) (fa_c (me_s (me_l (me_l (List.mem_of_getElem? (i := 16) rfl)))) (fa_c (me_s (me_l (me_l (List.mem_of_getElem? (i := 17) rfl)))) (fa_c (me_s (me_l (me_l (List.mem_of_getElem? (i := 18) rfl)))) (fa_c (me_s (me_l (me_l (List.mem_of_getElem? (i := 7) rfl)))) (fa_c (me_s (me_l (me_l (List.mem_of_getElem? (i := 2) rfl)))) (fa_c (me_s (me_l (me_l (List.mem_of_getElem? (i := 20) rfl)))) (fa_c (me_s (me_l (me_l (List.mem_of_getElem? (i := 21) rfl)))) (fa_c (me_s (me_l (me_l (List.mem_of_getElem? (i := 22) rfl)))) (fa_c (me_s (me_l (me_l (List.mem_of_getElem? (i := 23) rfl)))) (fa_c (me_s (me_l (me_r (me_l (List.mem_of_getElem? (i := 0) rfl))))) (fa_c (me_s (me_l (me_r (me_l (List.mem_of_getElem? (i := 1) rfl))))) (fa_c (me_s (me_l (me_r (me_l (List.mem_of_getElem? (i := 2) rfl))))) (fa_c (me_s (me_l (me_r (me_l (List.mem_of_getElem? (i := 3) rfl))))) fa_n)))))))))))))))))))))))) (fa_c (me_s (me_l (me_r (me_l (List.mem_of_getElem? (i := 4) rfl))))) (fa_c (me_s (me_l (me_r (me_l (List.mem_of_getElem? (i := 5) rfl))))) (fa_c (me_s (me_l (me_r (me_l (List.mem_of_getElem? (i := 6) rfl))))) (fa_c (me_s (me_l (me_r (me_l (List.mem_of_getElem? (i := 7) rfl))))) (fa_c (me_s (me_l (me_r (me_l (List.mem_of_getElem? (i := 8) rfl))))) (fa_c (me_s (me_l (me_r (me_l (List.mem_of_getElem? (i := 9) rfl))))) (fa_c (me_s (me_l (me_r (me_l (List.mem_of_getElem? (i := 10) rfl))))) (fa_c (me_s (me_l (me_r (me_l (List.mem_of_getElem? (i := 11) rfl))))) (fa_c (me_s (me_l (me_r (me_l (List.mem_of_getElem? (i := 12) rfl))))) (fa_c (me_s (me_l (me_r (me_r (me_l (List.mem_of_getElem? (i := 10) rfl)))))) (fa_c (me_s (me_l (me_r (me_r (me_l (List.mem_of_getElem? (i := 11) rfl)))))) (fa_c (me_s (me_l (me_r (me_r (me_l (List.mem_of_getElem? (i := 12) rfl)))))) (fa_c (me_s (me_l (me_r (me_r (me_l (List.mem_of_getElem? (i := 13) rfl)))))) (fa_c (me_s (me_l (me_l (List.mem_of_getElem? (i := 6) rfl)))) (fa_c (me_s (me_l (me_r (me_r (me_l (List.mem_of_getElem? (i := 14) rfl)))))) fa_n)))))))))))))))) (fun w h => (me_s (me_r h))))) (by decide +kernel)
set_option maxRecDepth 20000 in
theorem gX12_atom_X12_must : GoodIn wsX12_atom (wsV RX12 383 RX12 yX12_must wsX12_must) := goodIn_app (goodIn_sub (fa_c (me_s (me_l (me_r (me_r (me_r (List.mem_of_getElem? (i := 0) rfl)))))) (fa_c (me_s (me_l (me_r (me_r (me_r (List.mem_of_getElem? (i := 1) rfl)))))) (fa_c (me_s (me_l (me_r (me_r (me_r (List.mem_of_getElem? (i := 2) rfl)))))) (fa_c (me_s (me_l (me_l (List.mem_of_getElem? (i := 14) rfl)))) fa_n)))) (by decide +kernel)) ggX12_atom_X12_must
theorem dX12_atom_249 : decode cX12_atom 249 = .ok (.invokevirtual 383, 3) := z_dd_182 (by decide +kernel)
theorem dX12_atom_252 : decode cX12_atom 252 = .ok (.aload_n 0, 1) := z_dd_42 (by decide +kernel)
theorem dX12_atom_253 : decode cX12_atom 253 = .ok (.dup, 1) := z_dd_89 (by decide +kernel)
theorem dX12_atom_254 : decode cX12_atom 254 = .ok (.getfield 346, 3) := z_dd_180 (by decide +kernel)
theorem dX12_atom_257 : decode cX12_atom 257 = .ok (.iconst 1, 1) := z_dd_4 (by decide +kernel)
theorem dX12_atom_258 : decode cX12_atom 258 = .ok (.isub, 1) := z_dd_100 (by decide +kernel)
theorem dX12_atom_259 : decode cX12_atom 259 = .ok (.putfield 346, 3) := z_dd_181 (by decide +kernel)
theorem dX12_atom_262 : decode cX12_atom 262 = .ok (.aload_n 0, 1) := z_dd_42 (by decide +kernel)
theorem dX12_atom_263 : decode cX12_atom 263 = .ok (.getfield 294, 3) := z_dd_180 (by decide +kernel)
theorem dX12_atom_266 : decode cX12_atom 266 = .ok (.ifCond .eq 4, 3) := z_dd_153 (by decide +kernel)
theorem dX12_atom_270 : decode cX12_atom 270 = .ok (.aload_n 0, 1) := z_dd_42 (by decide +kernel)
theorem dX12_atom_271 : decode cX12_atom 271 = .ok (.aload_n 0, 1) := z_dd_42 (by decide +kernel)
theorem dX12_atom_272 : decode cX12_atom 272 = .ok (.getfield 94, 3) := z_dd_180 (by decide +kernel)
theorem dX12_atom_275 : decode cX12_atom 275 = .ok (.iload_n 1, 1) := z_dd_27 (by decide +kernel)
theorem dX12_atom_276 : decode cX12_atom 276 = .ok (.iaload, 1) := z_dd_46 (by decide +kernel)
theorem dX12_atom_277 : decode cX12_atom 277 = .ok (.iconst 1, 1) := z_dd_4 (by decide +kernel)
theorem dX12_atom_278 : decode cX12_atom 278 = .ok (.if_icmp .ne 10, 3) := z_dd_160 (by decide +kernel)
theorem dX12_atom_288 : decode cX12_atom 288 = .ok (.aload_n 0, 1) := z_dd_42 (by decide +kernel)
theorem dX12_atom_289 : decode cX12_atom 289 = .ok (.aload_n 0, 1) := z_dd_42 (by decide +kernel)
theorem dX12_atom_290 : decode cX12_atom 290 = .ok (.getfield 100, 3) := z_dd_180 (by decide +kernel)
theorem dX12_atom_293 : decode cX12_atom 293 = .ok (.iload_n 1, 1) := z_dd_27 (by decide +kernel)
theorem dX12_atom_294 : decode cX12_atom 294 = .ok (.iaload, 1) := z_dd_46 (by decide +kernel)
theorem dX12_atom_295 : decode cX12_atom 295 = .ok (.aload_n 0, 1) := z_dd_42 (by decide +kernel)
theorem dX12_atom_296 : decode cX12_atom 296 = .ok (.getfield 97, 3) := z_dd_180 (by decide +kernel)
theorem dX12_atom_299 : decode cX12_atom 299 = .ok (.iload_n 1, 1) := z_dd_27 (by decide +kernel)
theorem dX12_atom_300 : decode cX12_atom 300 = .ok (.iaload, 1) := z_dd_46 (by decide +kernel)
theorem dX12_atom_301 : decode cX12_atom 301 = .ok (.aload_n 0, 1) := z_dd_42 (by decide +kernel)
theorem dX12_atom_302 : decode cX12_atom 302 = .ok (.getfield 343, 3) := z_dd_180 (by decide +kernel)
set_option maxRecDepth 20000 in
theorem ggX12_atom_X12_node : GoodIn wsX12_atom wsX12_node := goodIn_sub (fa_c (me_s (me_l (me_r (me_l (List.mem_of_getElem? (i := 16) rfl))))) (fa_a (fa_c (me_s (me_l (me_r (me_l (List.mem_of_getElem? (i := 17) rfl))))) (fa_c (me_s (me_l (me_r (me_l (List.mem_of_getElem? (i := 18) rfl))))) (fa_c (me_s (me_l (me_r (me_l (List.mem_of_getElem? (i := 19) rfl))))) (fa_c (me_s (me_l (me_r (me_l (List.mem_of_getElem? (i := 20) rfl))))) fa_n)))) (fun w h => (me_s (me_r h))))) (by decide +kernel)
set_option maxRecDepth 20000 in
theorem gX12_atom_X12_node : GoodIn wsX12_atom (wsV RX12 366 RX12 yX12_node wsX12_node) := goodIn_app (goodIn_sub (fa_c (me_s (me_l (me_r (me_l (List.mem_of_getElem? (i := 13) rfl))))) (fa_c (me_s (me_l (me_r (me_l (List.mem_of_getElem? (i := 14) rfl))))) (fa_c (me_s (me_l (me_r (me_l (List.mem_of_getElem? (i := 15) rfl))))) (fa_c (me_s (me_l (me_l (List.mem_of_getElem? (i := 14) rfl)))) fa_n)))) (by decide +kernel)) ggX12_atom_X12_node
theorem dX12_atom_305 : decode cX12_atom 305 = .ok (.invokevirtual 366, 3) := z_dd_182 (by decide +kernel)
set_option maxRecDepth 20000 in
theorem ggX12_atom_X12_ends : GoodIn wsX12_atom wsX12_ends := goodIn_sub (fa_c (me_s (me_l (me_r (me_r (me_l (List.mem_of_getElem? (i := 0) rfl)))))) (fa_a (fa_c (me_s (me_l (me_l (List.mem_of_getElem? (i := 9) rfl)))) (fa_c (me_s (me_l (me_r (me_r (me_l (List.mem_of_getElem? (i := 1) rfl)))))) fa_n)) (fun w h => (me_s (me_r h))))) (by decide +kernel)
set_option maxRecDepth 20000 in
theorem gX12_atom_X12_ends : GoodIn wsX12_atom (wsV RX12 369 RX12 yX12_ends wsX12_ends) := goodIn_app (goodIn_sub (fa_c (me_s (me_l (me_r (me_l (List.mem_of_getElem? (i := 21) rfl))))) (fa_c (me_s (me_l (me_r (me_l (List.mem_of_getElem? (i := 22) rfl))))) (fa_c (me_s (me_l (me_r (me_l (List.mem_of_getElem? (i := 23) rfl))))) (fa_c (me_s (me_l (me_l (List.mem_of_getElem? (i := 14) rfl)))) fa_n)))) (by decide +kernel)) ggX12_atom_X12_ends
theorem dX12_atom_308 : decode cX12_atom 308 = .ok (.invokevirtual 369, 3) := z_dd_182 (by decide +kernel)
theorem dX12_atom_311 : decode cX12_atom 311 = .ok (.return_, 1) := z_dd_177 (by decide +kernel)
theorem dX12_atom_281 : decode cX12_atom 281 = .ok (.aload_n 0, 1) := z_dd_42 (by decide +kernel)
theorem dX12_atom_282 : decode cX12_atom 282 = .ok (.getfield 343, 3) := z_dd_180 (by decide +kernel)
theorem dX12_atom_285 : decode cX12_atom 285 = .ok (.goto 23, 3) := z_dd_167 (by decide +kernel)
theorem dX12_atom_269 : decode cX12_atom 269 = .ok (.return_, 1) := z_dd_177 (by decide +kernel)
theorem dX12_atom_208 : decode cX12_atom 208 = .ok (.aload_n 0, 1) := z_dd_42 (by decide +kernel)
theorem dX12_atom_209 : decode cX12_atom 209 = .ok (.getfield 97, 3) := z_dd_180 (by decide +kernel)
theorem dX12_atom_212 : decode cX12_atom 212 = .ok (.iload_n 1, 1) := z_dd_27 (by decide +kernel)
theorem dX12_atom_213 : decode cX12_atom 213 = .ok (.aload_n 0, 1) := z_dd_42 (by decide +kernel)
theorem dX12_atom_214 : decode cX12_atom 214 = .ok (.getfield 343, 3) := z_dd_180 (by decide +kernel)
theorem dX12_atom_217 : decode cX12_atom 217 = .ok (.iastore, 1) := z_dd_79 (by decide +kernel)
theorem dX12_atom_218 : decode cX12_atom 218 = .ok (.aload_n 0, 1) := z_dd_42 (by decide +kernel)
theorem dX12_atom_219 : decode cX12_atom 219 = .ok (.bipush 44, 2) := z_dd_16 (by decide +kernel)
theorem dX12_atom_221 : decode cX12_atom 221 = .ok (.invokevirtual 383, 3) := z_dd_182 (by decide +kernel)
theorem dX12_atom_224 : decode cX12_atom 224 = .ok (.aload_n 0, 1) := z_dd_42 (by decide +kernel)
theorem dX12_atom_225 : decode cX12_atom 225 = .ok (.getfield 94, 3) := z_dd_180 (by decide +kernel)
theorem dX12_atom_228 : decode cX12_atom 228 = .ok (.iload_n 1, 1) := z_dd_27 (by decide +kernel)
theorem dX12_atom_229 : decode cX12_atom 229 = .ok (.iconst 3, 1) := z_dd_6 (by decide +kernel)
theorem dX12_atom_230 : decode cX12_atom 230 = .ok (.iastore, 1) := z_dd_79 (by decide +kernel)
theorem dX12_atom_231 : decode cX12_atom 231 = .ok (.aload_n 0, 1) := z_dd_42 (by decide +kernel)
theorem dX12_atom_232 : decode cX12_atom 232 = .ok (.getfield 294, 3) := z_dd_180 (by decide +kernel)
theorem dX12_atom_235 : decode cX12_atom 235 = .ok (.ifCond .ne 76, 3) := z_dd_154 (by decide +kernel)
theorem dX12_atom_238 : decode cX12_atom 238 = .ok (.aload_n 0, 1) := z_dd_42 (by decide +kernel)
theorem dX12_atom_239 : decode cX12_atom 239 = .ok (.iconst 0, 1) := z_dd_3 (by decide +kernel)
set_option maxRecDepth 20000 in
theorem ggX12_atom_X12_begin : GoodIn wsX12_atom wsX12_begin := goodIn_sub (fa_c (me_s (me_l (me_r (me_r (me_l (List.mem_of_getElem? (i := 18) rfl)))))) (fa_a (fa_c (me_s (me_l (me_r (me_r (me_l (List.mem_of_getElem? (i := 19) rfl)))))) (fa_c (me_s (me_l (me_r (me_r (me_l (List.mem_of_getElem? (i := 1) rfl)))))) (fa_c (me_s (me_l (me_l (List.mem_of_getElem? (i := 0) rfl)))) (fa_c (me_s (me_l (me_l (List.mem_of_getElem? (i := 8) rfl)))) (fa_c (me_s (me_l (me_l (List.mem_of_getElem? (i := 5) rfl)))) fa_n))))) (fun w h => (me_s (me_r h))))) (by decide +kernel)
set_option maxRecDepth 20000 in
theorem gX12_atom_X12_begin : GoodIn wsX12_atom (wsV RX12 349 RX12 yX12_begin wsX12_begin) := goodIn_app (goodIn_sub (fa_c (me_s (me_l (me_r (me_r (me_l (List.mem_of_getElem? (i := 15) rfl)))))) (fa_c (me_s (me_l (me_r (me_r (me_l (List.mem_of_getElem? (i := 16) rfl)))))) (fa_c (me_s (me_l (me_r (me_r (me_l (List.mem_of_getElem? (i := 17) rfl)))))) (fa_c (me_s (me_l (me_l (List.mem_of_getElem? (i := 14) rfl)))) fa_n)))) (by decide +kernel)) ggX12_atom_X12_begin
theorem dX12_atom_240 : decode cX12_atom 240 = .ok (.invokevirtual 349, 3) := z_dd_182 (by decide +kernel)
theorem dX12_atom_243 : decode cX12_atom 243 = .ok (.goto 68, 3) := z_dd_167 (by decide +kernel)
theorem dX12_atom_9 : decode cX12_atom 9 = .ok (.aload_n 0, 1) := z_dd_42 (by decide +kernel)
theorem dX12_atom_10 : decode cX12_atom 10 = .ok (.getfield 281, 3) := z_dd_180 (by decide +kernel)
theorem dX12_atom_13 : decode cX12_atom 13 = .ok (.iconst 2, 1) := z_dd_5 (by decide +kernel)
theorem dX12_atom_14 : decode cX12_atom 14 = .ok (.if_icmp .ne 26, 3) := z_dd_160 (by decide +kernel)
theorem dX12_atom_40 : decode cX12_atom 40 = .ok (.aload_n 0, 1) := z_dd_42 (by decide +kernel)
theorem dX12_atom_41 : decode cX12_atom 41 = .ok (.bipush 40, 2) := z_dd_16 (by decide +kernel)
set_option maxRecDepth 20000 in
theorem ggX12_atom_X12_isSign : GoodIn wsX12_atom wsX12_isSign := goodIn_sub (fa_c (me_s (me_l (me_r (me_r (me_l (List.mem_of_getElem? (i := 5) rfl)))))) (fa_a (fa_c (me_s (me_l (me_l (List.mem_of_getElem? (i := 1) rfl)))) (fa_c (me_s (me_l (me_l (List.mem_of_getElem? (i := 19) rfl)))) fa_n)) (fun w h => (me_s (me_r h))))) (by decide +kernel)
set_option maxRecDepth 20000 in
theorem gX12_atom_X12_isSign : GoodIn wsX12_atom (wsV RX12 298 RX12 yX12_isSign wsX12_isSign) := goodIn_app (goodIn_sub (fa_c (me_s (me_l (me_r (me_r (me_l (List.mem_of_getElem? (i := 2) rfl)))))) (fa_c (me_s (me_l (me_r (me_r (me_l (List.mem_of_getElem? (i := 3) rfl)))))) (fa_c (me_s (me_l (me_r (me_r (me_l (List.mem_of_getElem? (i := 4) rfl)))))) (fa_c (me_s (me_l (me_l (List.mem_of_getElem? (i := 14) rfl)))) fa_n)))) (by decide +kernel)) ggX12_atom_X12_isSign
theorem dX12_atom_43 : decode cX12_atom 43 = .ok (.invokevirtual 298, 3) := z_dd_182 (by decide +kernel)
theorem dX12_atom_46 : decode cX12_atom 46 = .ok (.ifCond .eq 22, 3) := z_dd_153 (by decide +kernel)
theorem dX12_atom_49 : decode cX12_atom 49 = .ok (.aload_n 0, 1) := z_dd_42 (by decide +kernel)
set_option maxRecDepth 20000 in
theorem ggX12_atom_X12_opens : GoodIn wsX12_atom wsX12_opens := goodIn_sub (fa_c (me_s (me_l (me_r (me_r (me_l (List.mem_of_getElem? (i := 9) rfl)))))) (fa_a (fa_a (fa_c (me_s (me_l (me_l (List.mem_of_getElem? (i := 10) rfl)))) (fa_c (me_s (me_l (me_r (me_r (me_l (List.mem_of_getElem? (i := 10) rfl)))))) (fa_c (me_s (me_l (me_r (me_r (me_l (List.mem_of_getElem? (i := 11) rfl)))))) (fa_c (me_s (me_l (me_r (me_r (me_l (List.mem_of_getElem? (i := 12) rfl)))))) (fa_c (me_s (me_l (me_l (List.mem_of_getElem? (i := 14) rfl)))) (fa_c (me_s (me_l (me_r (me_r (me_l (List.mem_of_getElem? (i := 13) rfl)))))) (fa_c (me_s (me_l (me_l (List.mem_of_getElem? (i := 6) rfl)))) (fa_c (me_s (me_l (me_l (List.mem_of_getElem? (i := 17) rfl)))) (fa_c (me_s (me_l (me_r (me_r (me_l (List.mem_of_getElem? (i := 14) rfl)))))) (fa_c (me_s (me_l (me_l (List.mem_of_getElem? (i := 11) rfl)))) (fa_c (me_s (me_l (me_l (List.mem_of_getElem? (i := 12) rfl)))) (fa_c (me_s (me_l (me_l (List.mem_of_getElem? (i := 13) rfl)))) (fa_c (me_s (me_l (me_l (List.mem_of_getElem? (i := 15) rfl)))) (fa_c (me_s (me_l (me_l (List.mem_of_getElem? (i := 16) rfl)))) (fa_c (me_s (me_l (me_l (List.mem_of_getElem? (i := 18) rfl)))) (fa_c (me_s (me_l (me_l (List.mem_of_getElem? (i := 7) rfl)))) (fa_c (me_s (me_l (me_l (List.mem_of_getElem? (i := 19) rfl)))) (fa_c (me_s (me_l (me_l (List.mem_of_getElem? (i := 2) rfl)))) (fa_c (me_s (me_l (me_l (List.mem_of_getElem? (i := 1) rfl)))) (fa_c (me_s (me_l (me_l (List.mem_of_getElem? (i := 20) rfl)))) (fa_c (me_s (me_l (me_l (List.mem_of_getElem? (i := 21) rfl)))) (fa_c (me_s (me_l (me_l (List.mem_of_getElem? (i := 22) rfl)))) (fa_c (me_s (me_l (me_l (List.mem_of_getElem? (i := 23) rfl)))) (fa_c (me_s (me_l (me_r (me_l (List.mem_of_getElem? (i := 0) rfl))))) fa_n)))))))))))))))))))))))) (fa_c (me_s (me_l (me_r (me_l (List.mem_of_getElem? (i := 1) rfl))))) (fa_c (me_s (me_l (me_r (me_l (List.mem_of_getElem? (i := 2) rfl))))) (fa_c (me_s (me_l (me_r (me_l (List.mem_of_getElem? (i := 3) rfl))))) (fa_c (me_s (me_l (me_r (me_l (List.mem_of_getElem? (i := 4) rfl))))) (fa_c (me_s (me_l (me_r (me_l (List.mem_of_getElem? (i := 5) rfl))))) (fa_c (me_s (me_l (me_r (me_l (List.mem_of_getElem? (i := 6) rfl))))) (fa_c (me_s (me_l (me_r (me_l (List.mem_of_getElem? (i := 7) rfl))))) (fa_c (me_s (me_l (me_r (me_l (List.mem_of_getElem? (i := 8) rfl))))) (fa_c (me_s (me_l (me_r (me_l (List.mem_of_getElem? (i := 9) rfl))))) (fa_c (me_s (me_l (me_r (me_l (List.mem_of_getElem? (i := 10) rfl))))) (fa_c (me_s (me_l (me_r (me_l (List.mem_of_getElem? (i := 11) rfl))))) (fa_c (me_s (me_l (me_r (me_l (List.mem_of_getElem? (i := 12) rfl))))) fa_n))))))))))))) (fun w h => (me_s (me_r h))))) (by decide +kernel)
set_option maxRecDepth 20000 in
theorem gX12_atom_X12_opens : GoodIn wsX12_atom (wsV RX12 372 RX12 yX12_opens wsX12_opens) := goodIn_app (goodIn_sub (fa_c (me_s (me_l (me_r (me_r (me_l (List.mem_of_getElem? (i := 6) rfl)))))) (fa_c (me_s (me_l (me_r (me_r (me_l (List.mem_of_getElem? (i := 7) rfl)))))) (fa_c (me_s (me_l (me_r (me_r (me_l (List.mem_of_getElem? (i := 8) rfl)))))) (fa_c (me_s (me_l (me_l (List.mem_of_getElem? (i := 14) rfl)))) fa_n)))) (by decide +kernel)) ggX12_atom_X12_opens
theorem dX12_atom_50 : decode cX12_atom 50 = .ok (.invokevirtual 372, 3) := z_dd_182 (by decide +kernel)
theorem dX12_atom_53 : decode cX12_atom 53 = .ok (.aload_n 0, 1) := z_dd_42 (by decide +kernel)
theorem dX12_atom_54 : decode cX12_atom 54 = .ok (.getfield 94, 3) := z_dd_180 (by decide +kernel)
theorem dX12_atom_57 : decode cX12_atom 57 = .ok (.iload_n 1, 1) := z_dd_27 (by decide +kernel)
theorem dX12_atom_58 : decode cX12_atom 58 = .ok (.iconst 1, 1) := z_dd_4 (by decide +kernel)
theorem dX12_atom_59 : decode cX12_atom 59 = .ok (.iastore, 1) := z_dd_79 (by decide +kernel)
theorem dX12_atom_60 : decode cX12_atom 60 = .ok (.aload_n 0, 1) := z_dd_42 (by decide +kernel)
theorem dX12_atom_61 : decode cX12_atom 61 = .ok (.iconst 0, 1) := z_dd_3 (by decide +kernel)
theorem dX12_atom_62 : decode cX12_atom 62 = .ok (.invokevirtual 349, 3) := z_dd_182 (by decide +kernel)
theorem dX12_atom_65 : decode cX12_atom 65 = .ok (.goto 246, 3) := z_dd_167 (by decide +kernel)
theorem dX12_atom_68 : decode cX12_atom 68 = .ok (.aload_n 0, 1) := z_dd_42 (by decide +kernel)
theorem dX12_atom_69 : decode cX12_atom 69 = .ok (.ldc2_w 375, 3) := z_dd_20 (by decide +kernel)
set_option maxRecDepth 20000 in
theorem ggX12_atom_X12_isWord : GoodIn wsX12_atom wsX12_isWord := goodIn_sub (fa_c (me_s (me_l (me_r (me_r (me_l (List.mem_of_getElem? (i := 23) rfl)))))) (fa_a (fa_c (me_s (me_l (me_l (List.mem_of_getElem? (i := 1) rfl)))) (fa_c (me_s (me_l (me_l (List.mem_of_getElem? (i := 7) rfl)))) fa_n)) (fun w h => (me_s (me_r h))))) (by decide +kernel)
set_option maxRecDepth 20000 in
theorem gX12_atom_X12_isWord : GoodIn wsX12_atom (wsV RX12 377 RX12 yX12_isWord wsX12_isWord) := goodIn_app (goodIn_sub (fa_c (me_s (me_l (me_r (me_r (me_l (List.mem_of_getElem? (i := 20) rfl)))))) (fa_c (me_s (me_l (me_r (me_r (me_l (List.mem_of_getElem? (i := 21) rfl)))))) (fa_c (me_s (me_l (me_r (me_r (me_l (List.mem_of_getElem? (i := 22) rfl)))))) (fa_c (me_s (me_l (me_l (List.mem_of_getElem? (i := 14) rfl)))) fa_n)))) (by decide +kernel)) ggX12_atom_X12_isWord
theorem dX12_atom_72 : decode cX12_atom 72 = .ok (.invokevirtual 377, 3) := z_dd_182 (by decide +kernel)
theorem dX12_atom_75 : decode cX12_atom 75 = .ok (.ifCond .ne 13, 3) := z_dd_154 (by decide +kernel)
theorem dX12_atom_88 : decode cX12_atom 88 = .ok (.aload_n 0, 1) := z_dd_42 (by decide +kernel)
theorem dX12_atom_89 : decode cX12_atom 89 = .ok (.getfield 100, 3) := z_dd_180 (by decide +kernel)
theorem dX12_atom_92 : decode cX12_atom 92 = .ok (.iload_n 1, 1) := z_dd_27 (by decide +kernel)
theorem dX12_atom_93 : decode cX12_atom 93 = .ok (.aload_n 0, 1) := z_dd_42 (by decide +kernel)
theorem dX12_atom_94 : decode cX12_atom 94 = .ok (.ldc2_w 375, 3) := z_dd_20 (by decide +kernel)
theorem dX12_atom_97 : decode cX12_atom 97 = .ok (.invokevirtual 377, 3) := z_dd_182 (by decide +kernel)
theorem dX12_atom_100 : decode cX12_atom 100 = .ok (.ifCond .eq 8, 3) := z_dd_153 (by decide +kernel)
theorem dX12_atom_103 : decode cX12_atom 103 = .ok (.bipush 6, 2) := z_dd_16 (by decide +kernel)
theorem dX12_atom_105 : decode cX12_atom 105 = .ok (.goto 5, 3) := z_dd_167 (by decide +kernel)
theorem dX12_atom_110 : decode cX12_atom 110 = .ok (.iastore, 1) := z_dd_79 (by decide +kernel)
theorem dX12_atom_111 : decode cX12_atom 111 = .ok (.aload_n 0, 1) := z_dd_42 (by decide +kernel)
theorem dX12_atom_112 : decode cX12_atom 112 = .ok (.invokevirtual 372, 3) := z_dd_182 (by decide +kernel)
theorem dX12_atom_115 : decode cX12_atom 115 = .ok (.aload_n 0, 1) := z_dd_42 (by decide +kernel)
theorem dX12_atom_116 : decode cX12_atom 116 = .ok (.getfield 294, 3) := z_dd_180 (by decide +kernel)
theorem dX12_atom_119 : decode cX12_atom 119 = .ok (.ifCond .ne 9, 3) := z_dd_154 (by decide +kernel)
theorem dX12_atom_128 : decode cX12_atom 128 = .ok (.aload_n 0, 1) := z_dd_42 (by decide +kernel)
theorem dX12_atom_129 : decode cX12_atom 129 = .ok (.getfield 94, 3) := z_dd_180 (by decide +kernel)
theorem dX12_atom_132 : decode cX12_atom 132 = .ok (.iload_n 1, 1) := z_dd_27 (by decide +kernel)
theorem dX12_atom_133 : decode cX12_atom 133 = .ok (.iconst 2, 1) := z_dd_5 (by decide +kernel)
theorem dX12_atom_134 : decode cX12_atom 134 = .ok (.iastore, 1) := z_dd_79 (by decide +kernel)
theorem dX12_atom_135 : decode cX12_atom 135 = .ok (.aload_n 0, 1) := z_dd_42 (by decide +kernel)
theorem dX12_atom_136 : decode cX12_atom 136 = .ok (.getfield 294, 3) := z_dd_180 (by decide +kernel)
theorem dX12_atom_139 : decode cX12_atom 139 = .ok (.ifCond .ne 172, 3) := z_dd_154 (by decide +kernel)
theorem dX12_atom_122 : decode cX12_atom 122 = .ok (.aload_n 0, 1) := z_dd_42 (by decide +kernel)
theorem dX12_atom_123 : decode cX12_atom 123 = .ok (.bipush 40, 2) := z_dd_16 (by decide +kernel)
theorem dX12_atom_125 : decode cX12_atom 125 = .ok (.invokevirtual 383, 3) := z_dd_182 (by decide +kernel)
theorem dX12_atom_142 : decode cX12_atom 142 = .ok (.aload_n 0, 1) := z_dd_42 (by decide +kernel)
theorem dX12_atom_143 : decode cX12_atom 143 = .ok (.iconst 0, 1) := z_dd_3 (by decide +kernel)
theorem dX12_atom_144 : decode cX12_atom 144 = .ok (.invokevirtual 349, 3) := z_dd_182 (by decide +kernel)
theorem dX12_atom_147 : decode cX12_atom 147 = .ok (.goto 164, 3) := z_dd_167 (by decide +kernel)
theorem dX12_atom_108 : decode cX12_atom 108 = .ok (.bipush 7, 2) := z_dd_16 (by decide +kernel)
theorem dX12_atom_78 : decode cX12_atom 78 = .ok (.aload_n 0, 1) := z_dd_42 (by decide +kernel)
theorem dX12_atom_79 : decode cX12_atom 79 = .ok (.ldc2_w 381, 3) := z_dd_20 (by decide +kernel)
theorem dX12_atom_82 : decode cX12_atom 82 = .ok (.invokevirtual 377, 3) := z_dd_182 (by decide +kernel)
theorem dX12_atom_85 : decode cX12_atom 85 = .ok (.ifCond .eq 65, 3) := z_dd_153 (by decide +kernel)
theorem dX12_atom_150 : decode cX12_atom 150 = .ok (.aload_n 0, 1) := z_dd_42 (by decide +kernel)
theorem dX12_atom_151 : decode cX12_atom 151 = .ok (.getfield 281, 3) := z_dd_180 (by decide +kernel)
theorem dX12_atom_154 : decode cX12_atom 154 = .ok (.iconst 1, 1) := z_dd_4 (by decide +kernel)
theorem dX12_atom_155 : decode cX12_atom 155 = .ok (.if_icmp .ne 14, 3) := z_dd_160 (by decide +kernel)
theorem dX12_atom_169 : decode cX12_atom 169 = .ok (.iconst (-1), 1) := z_dd_2 (by decide +kernel)
theorem dX12_atom_170 : decode cX12_atom 170 = .ok (.istore_n 2, 1) := z_dd_61 (by decide +kernel)
theorem dX12_atom_171 : decode cX12_atom 171 = .ok (.iload_n 2, 1) := z_dd_28 (by decide +kernel)
theorem dX12_atom_172 : decode cX12_atom 172 = .ok (.ifCond .ge 8, 3) := z_dd_156 (by decide +kernel)
theorem dX12_atom_175 : decode cX12_atom 175 = .ok (.aload_n 0, 1) := z_dd_42 (by decide +kernel)
set_option maxRecDepth 20000 in
theorem ggX12_atom_X12_errs : GoodIn wsX12_atom wsX12_errs := goodIn_sub (fa_c (me_s (me_l (me_r (me_r (me_l (List.mem_of_getElem? (i := 13) rfl)))))) (fa_a (fa_c (me_s (me_l (me_l (List.mem_of_getElem? (i := 6) rfl)))) (fa_c (me_s (me_l (me_l (List.mem_of_getElem? (i := 17) rfl)))) (fa_c (me_s (me_l (me_r (me_r (me_l (List.mem_of_getElem? (i := 14) rfl)))))) fa_n))) (fun w h => (me_s (me_r h))))) (by decide +kernel)
set_option maxRecDepth 20000 in
theorem gX12_atom_X12_errs : GoodIn wsX12_atom (wsV RX12 304 RX12 yX12_errs wsX12_errs) := goodIn_app (goodIn_sub (fa_c (me_s (me_l (me_r (me_r (me_l (List.mem_of_getElem? (i := 10) rfl)))))) (fa_c (me_s (me_l (me_r (me_r (me_l (List.mem_of_getElem? (i := 11) rfl)))))) (fa_c (me_s (me_l (me_r (me_r (me_l (List.mem_of_getElem? (i := 12) rfl)))))) (fa_c (me_s (me_l (me_l (List.mem_of_getElem? (i := 14) rfl)))) fa_n)))) (by decide +kernel)) ggX12_atom_X12_errs
theorem dX12_atom_176 : decode cX12_atom 176 = .ok (.invokevirtual 304, 3) := z_dd_182 (by decide +kernel)
theorem dX12_atom_179 : decode cX12_atom 179 = .ok (.return_, 1) := z_dd_177 (by decide +kernel)
theorem dX12_atom_158 : decode cX12_atom 158 = .ok (.aload_n 0, 1) := z_dd_42 (by decide +kernel)
theorem dX12_atom_159 : decode cX12_atom 159 = .ok (.aload_n 0, 1) := z_dd_42 (by decide +kernel)
theorem dX12_atom_160 : decode cX12_atom 160 = .ok (.getfield 271, 3) := z_dd_180 (by decide +kernel)
set_option maxRecDepth 20000 in
theorem ggX12_atom_X12_nameOf : GoodIn wsX12_atom wsX12_nameOf := goodIn_sub (fa_c (me_s (me_l (me_r (me_r (me_r (List.mem_of_getElem? (i := 7) rfl)))))) (fa_c (me_s (me_l (me_r (me_r (me_r (List.mem_of_getElem? (i := 8) rfl)))))) (fa_c (me_s (me_l (me_r (me_r (me_r (List.mem_of_getElem? (i := 9) rfl)))))) (fa_c (me_s (me_l (me_r (me_r (me_r (List.mem_of_getElem? (i := 10) rfl)))))) (fa_c (me_s (me_l (me_r (me_r (me_r (List.mem_of_getElem? (i := 11) rfl)))))) (fa_c (me_s (me_l (me_r (me_r (me_r (List.mem_of_getElem? (i := 12) rfl)))))) (fa_c (me_s (me_l (me_r (me_r (me_r (List.mem_of_getElem? (i := 13) rfl)))))) (fa_c (me_s (me_l (me_r (me_r (me_r (List.mem_of_getElem? (i := 14) rfl)))))) fa_n)))))))) (by decide +kernel)
set_option maxRecDepth 20000 in
theorem gX12_atom_X12_nameOf : GoodIn wsX12_atom (wsV RX12 386 RX12 yX12_nameOf wsX12_nameOf) := goodIn_app (goodIn_sub (fa_c (me_s (me_l (me_r (me_r (me_r (List.mem_of_getElem? (i := 4) rfl)))))) (fa_c (me_s (me_l (me_r (me_r (me_r (List.mem_of_getElem? (i := 5) rfl)))))) (fa_c (me_s (me_l (me_r (me_r (me_r (List.mem_of_getElem? (i := 6) rfl)))))) (fa_c (me_s (me_l (me_l (List.mem_of_getElem? (i := 14) rfl)))) fa_n)))) (by decide +kernel)) ggX12_atom_X12_nameOf
theorem dX12_atom_163 : decode cX12_atom 163 = .ok (.invokevirtual 386, 3) := z_dd_182 (by decide +kernel)
theorem dX12_atom_166 : decode cX12_atom 166 = .ok (.goto 4, 3) := z_dd_167 (by decide +kernel)
theorem dX12_atom_180 : decode cX12_atom 180 = .ok (.aload_n 0, 1) := z_dd_42 (by decide +kernel)
set_option maxRecDepth 20000 in
theorem ggX12_atom_X12_next : GoodIn wsX12_atom wsX12_next := goodIn_sub (fa_c (me_s (me_l (me_l (List.mem_of_getElem? (i := 15) rfl)))) (fa_a (fa_a (fa_c (me_s (me_l (me_l (List.mem_of_getElem? (i := 16) rfl)))) (fa_c (me_s (me_l (me_l (List.mem_of_getElem? (i := 17) rfl)))) (fa_c (me_s (me_l (me_l (List.mem_of_getElem? (i := 18) rfl)))) (fa_c (me_s (me_l (me_l (List.mem_of_getElem? (i := 7) rfl)))) (fa_c (me_s (me_l (me_l (List.mem_of_getElem? (i := 19) rfl)))) (fa_c (me_s (me_l (me_l (List.mem_of_getElem? (i := 2) rfl)))) (fa_c (me_s (me_l (me_l (List.mem_of_getElem? (i := 1) rfl)))) (fa_c (me_s (me_l (me_l (List.mem_of_getElem? (i := 20) rfl)))) (fa_c (me_s (me_l (me_l (List.mem_of_getElem? (i := 21) rfl)))) (fa_c (me_s (me_l (me_l (List.mem_of_getElem? (i := 22) rfl)))) (fa_c (me_s (me_l (me_l (List.mem_of_getElem? (i := 23) rfl)))) (fa_c (me_s (me_l (me_r (me_l (List.mem_of_getElem? (i := 0) rfl))))) (fa_c (me_s (me_l (me_l (List.mem_of_getElem? (i := 14) rfl)))) (fa_c (me_s (me_l (me_r (me_l (List.mem_of_getElem? (i := 1) rfl))))) (fa_c (me_s (me_l (me_r (me_l (List.mem_of_getElem? (i := 2) rfl))))) (fa_c (me_s (me_l (me_r (me_l (List.mem_of_getElem? (i := 3) rfl))))) (fa_c (me_s (me_l (me_r (me_l (List.mem_of_getElem? (i := 4) rfl))))) (fa_c (me_s (me_l (me_r (me_l (List.mem_of_getElem? (i := 5) rfl))))) (fa_c (me_s (me_l (me_r (me_l (List.mem_of_getElem? (i := 6) rfl))))) (fa_c (me_s (me_l (me_r (me_l (List.mem_of_getElem? (i := 7) rfl))))) (fa_c (me_s (me_l (me_r (me_l (List.mem_of_getElem? (i := 8) rfl))))) (fa_c (me_s (me_l (me_r (me_l (List.mem_of_getElem? (i := 9) rfl))))) (fa_c (me_s (me_l (me_r (me_l (List.mem_of_getElem? (i := 10) rfl))))) (fa_c (me_s (me_l (me_r (me_l (List.mem_of_getElem? (i := 11) rfl))))) fa_n)))))))))))))))))))))))) (fa_c (me_s (me_l (me_r (me_l (List.mem_of_getElem? (i := 12) rfl))))) fa_n)) (fun w h => (me_s (me_r h))))) (by decide +kernel)
set_option maxRecDepth 20000 in
theorem gX12_atom_X12_next : GoodIn wsX12_atom (wsV RX12 301 RX12 yX12_next wsX12_next) := goodIn_app (goodIn_sub (fa_c (me_s (me_l (me_l (List.mem_of_getElem? (i := 11) rfl)))) (fa_c (me_s (me_l (me_l (List.mem_of_getElem? (i := 12) rfl)))) (fa_c (me_s (me_l (me_l (List.mem_of_getElem? (i := 13) rfl)))) (fa_c (me_s (me_l (me_l (List.mem_of_getElem? (i := 14) rfl)))) fa_n)))) (by decide +kernel)) ggX12_atom_X12_next
theorem dX12_atom_181 : decode cX12_atom 181 = .ok (.invokevirtual 301, 3) := z_dd_182 (by decide +kernel)
theorem dX12_atom_184 : decode cX12_atom 184 = .ok (.aload_n 0, 1) := z_dd_42 (by decide +kernel)
theorem dX12_atom_185 : decode cX12_atom 185 = .ok (.aload_n 0, 1) := z_dd_42 (by decide +kernel)
theorem dX12_atom_186 : decode cX12_atom 186 = .ok (.iconst 1, 1) := z_dd_4 (by decide +kernel)
theorem dX12_atom_187 : decode cX12_atom 187 = .ok (.iload_n 2, 1) := z_dd_28 (by decide +kernel)
theorem dX12_atom_188 : decode cX12_atom 188 = .ok (.iconst 0, 1) := z_dd_3 (by decide +kernel)
theorem dX12_atom_189 : decode cX12_atom 189 = .ok (.invokevirtual 366, 3) := z_dd_182 (by decide +kernel)
theorem dX12_atom_192 : decode cX12_atom 192 = .ok (.invokevirtual 369, 3) := z_dd_182 (by decide +kernel)
theorem dX12_atom_195 : decode cX12_atom 195 = .ok (.goto 116, 3) := z_dd_167 (by decide +kernel)
theorem dX12_atom_17 : decode cX12_atom 17 = .ok (.aload_n 0, 1) := z_dd_42 (by decide +kernel)
theorem dX12_atom_18 : decode cX12_atom 18 = .ok (.getfield 278, 3) := z_dd_180 (by decide +kernel)
theorem dX12_atom_21 : decode cX12_atom 21 = .ok (.istore_n 2, 1) := z_dd_61 (by decide +kernel)
theorem dX12_atom_22 : decode cX12_atom 22 = .ok (.aload_n 0, 1) := z_dd_42 (by decide +kernel)
theorem dX12_atom_23 : decode cX12_atom 23 = .ok (.invokevirtual 301, 3) := z_dd_182 (by decide +kernel)
theorem dX12_atom_26 : decode cX12_atom 26 = .ok (.aload_n 0, 1) := z_dd_42 (by decide +kernel)
theorem dX12_atom_27 : decode cX12_atom 27 = .ok (.aload_n 0, 1) := z_dd_42 (by decide +kernel)
theorem dX12_atom_28 : decode cX12_atom 28 = .ok (.iconst 0, 1) := z_dd_3 (by decide +kernel)
theorem dX12_atom_29 : decode cX12_atom 29 = .ok (.iload_n 2, 1) := z_dd_28 (by decide +kernel)
theorem dX12_atom_30 : decode cX12_atom 30 = .ok (.iconst 0, 1) := z_dd_3 (by decide +kernel)
theorem dX12_atom_31 : decode cX12_atom 31 = .ok (.invokevirtual 366, 3) := z_dd_182 (by decide +kernel)
theorem dX12_atom_34 : decode cX12_atom 34 = .ok (.invokevirtual 369, 3) := z_dd_182 (by decide +kernel)
theorem dX12_atom_37 : decode cX12_atom 37 = .ok (.goto 274, 3) := z_dd_167 (by decide +kernel)
theorem dX12_chain_0 : decode cX12_chain 0 = .ok (.aload_n 0, 1) := z_dd_42 (by decide +kernel)
theorem dX12_chain_1 : decode cX12_chain 1 = .ok (.getfield 94, 3) := z_dd_180 (by decide +kernel)
theorem dX12_chain_4 : decode cX12_chain 4 = .ok (.iload_n 1, 1) := z_dd_27 (by decide +kernel)
theorem dX12_chain_5 : decode cX12_chain 5 = .ok (.iaload, 1) := z_dd_46 (by decide +kernel)
theorem dX12_chain_6 : decode cX12_chain 6 = .ok (.ifCond .ne 24, 3) := z_dd_154 (by decide +kernel)
theorem dX12_chain_30 : decode cX12_chain 30 = .ok (.aload_n 0, 1) := z_dd_42 (by decide +kernel)
theorem dX12_chain_31 : decode cX12_chain 31 = .ok (.getfield 97, 3) := z_dd_180 (by decide +kernel)
theorem dX12_chain_34 : decode cX12_chain 34 = .ok (.iload_n 1, 1) := z_dd_27 (by decide +kernel)
theorem dX12_chain_35 : decode cX12_chain 35 = .ok (.aload_n 0, 1) := z_dd_42 (by decide +kernel)
theorem dX12_chain_36 : decode cX12_chain 36 = .ok (.getfield 97, 3) := z_dd_180 (by decide +kernel)
theorem dX12_chain_39 : decode cX12_chain 39 = .ok (.iload_n 1, 1) := z_dd_27 (by decide +kernel)
theorem dX12_chain_40 : decode cX12_chain 40 = .ok (.iaload, 1) := z_dd_46 (by decide +kernel)
theorem dX12_chain_41 : decode cX12_chain 41 = .ok (.ifCond .ge 10, 3) := z_dd_156 (by decide +kernel)
theorem dX12_chain_51 : decode cX12_chain 51 = .ok (.aload_n 0, 1) := z_dd_42 (by decide +kernel)
theorem dX12_chain_52 : decode cX12_chain 52 = .ok (.iload_n 2, 1) := z_dd_28 (by decide +kernel)
theorem dX12_chain_53 : decode cX12_chain 53 = .ok (.ifCond .eq 8, 3) := z_dd_153 (by decide +kernel)
theorem dX12_chain_56 : decode cX12_chain 56 = .ok (.bipush 13, 2) := z_dd_16 (by decide +kernel)
theorem dX12_chain_58 : decode cX12_chain 58 = .ok (.goto 5, 3) := z_dd_167 (by decide +kernel)
theorem dX12_chain_63 : decode cX12_chain 63 = .ok (.aload_n 0, 1) := z_dd_42 (by decide +kernel)
theorem dX12_chain_64 : decode cX12_chain 64 = .ok (.getfield 97, 3) := z_dd_180 (by decide +kernel)
theorem dX12_chain_67 : decode cX12_chain 67 = .ok (.iload_n 1, 1) := z_dd_27 (by decide +kernel)
theorem dX12_chain_68 : decode cX12_chain 68 = .ok (.iaload, 1) := z_dd_46 (by decide +kernel)
theorem dX12_chain_69 : decode cX12_chain 69 = .ok (.aload_n 0, 1) := z_dd_42 (by decide +kernel)
theorem dX12_chain_70 : decode cX12_chain 70 = .ok (.getfield 343, 3) := z_dd_180 (by decide +kernel)
set_option maxRecDepth 20000 in
theorem ggX12_chain_X12_node : GoodIn wsX12_chain wsX12_node := goodIn_sub (fa_c (me_s (me_l (me_l (List.mem_of_getElem? (i := 16) rfl)))) (fa_a (fa_c (me_s (me_l (me_l (List.mem_of_getElem? (i := 17) rfl)))) (fa_c (me_s (me_l (me_l (List.mem_of_getElem? (i := 18) rfl)))) (fa_c (me_s (me_l (me_l (List.mem_of_getElem? (i := 19) rfl)))) (fa_c (me_s (me_l (me_l (List.mem_of_getElem? (i := 20) rfl)))) fa_n)))) (fun w h => (me_s (me_r h))))) (by decide +kernel)
set_option maxRecDepth 20000 in
theorem gX12_chain_X12_node : GoodIn wsX12_chain (wsV RX12 366 RX12 yX12_node wsX12_node) := goodIn_app (goodIn_sub (fa_c (me_s (me_l (me_l (List.mem_of_getElem? (i := 13) rfl)))) (fa_c (me_s (me_l (me_l (List.mem_of_getElem? (i := 14) rfl)))) (fa_c (me_s (me_l (me_l (List.mem_of_getElem? (i := 15) rfl)))) (fa_c (me_s (me_l (me_l (List.mem_of_getElem? (i := 8) rfl)))) fa_n)))) (by decide +kernel)) ggX12_chain_X12_node
theorem dX12_chain_73 : decode cX12_chain 73 = .ok (.invokevirtual 366, 3) := z_dd_182 (by decide +kernel)
theorem dX12_chain_76 : decode cX12_chain 76 = .ok (.iastore, 1) := z_dd_79 (by decide +kernel)
theorem dX12_chain_77 : decode cX12_chain 77 = .ok (.aload_n 0, 1) := z_dd_42 (by decide +kernel)
theorem dX12_chain_78 : decode cX12_chain 78 = .ok (.iload_n 2, 1) := z_dd_28 (by decide +kernel)
theorem dX12_chain_79 : decode cX12_chain 79 = .ok (.ifCond .eq 9, 3) := z_dd_153 (by decide +kernel)
theorem dX12_chain_82 : decode cX12_chain 82 = .ok (.ldc2_w 390, 3) := z_dd_20 (by decide +kernel)
theorem dX12_chain_85 : decode cX12_chain 85 = .ok (.goto 6, 3) := z_dd_167 (by decide +kernel)
set_option maxRecDepth 20000 in
theorem ggX12_chain_X12_isWord : GoodIn wsX12_chain wsX12_isWord := goodIn_sub (fa_c (me_s (me_l (me_r (me_l (List.mem_of_getElem? (i := 0) rfl))))) (fa_a (fa_c (me_s (me_l (me_r (me_l (List.mem_of_getElem? (i := 1) rfl))))) (fa_c (me_s (me_l (me_r (me_l (List.mem_of_getElem? (i := 2) rfl))))) fa_n)) (fun w h => (me_s (me_r h))))) (by decide +kernel)
set_option maxRecDepth 20000 in
theorem gX12_chain_X12_isWord : GoodIn wsX12_chain (wsV RX12 377 RX12 yX12_isWord wsX12_isWord) := goodIn_app (goodIn_sub (fa_c (me_s (me_l (me_l (List.mem_of_getElem? (i := 21) rfl)))) (fa_c (me_s (me_l (me_l (List.mem_of_getElem? (i := 22) rfl)))) (fa_c (me_s (me_l (me_l (List.mem_of_getElem? (i := 23) rfl)))) (fa_c (me_s (me_l (me_l (List.mem_of_getElem? (i := 8) rfl)))) fa_n)))) (by decide +kernel)) ggX12_chain_X12_isWord
theorem dX12_chain_91 : decode cX12_chain 91 = .ok (.invokevirtual 377, 3) := z_dd_182 (by decide +kernel)
theorem dX12_chain_94 : decode cX12_chain 94 = .ok (.ifCond .eq 23, 3) := z_dd_153 (by decide +kernel)
theorem dX12_chain_97 : decode cX12_chain 97 = .ok (.aload_n 0, 1) := z_dd_42 (by decide +kernel)
set_option maxRecDepth 20000 in
theorem ggX12_chain_X12_next : GoodIn wsX12_chain wsX12_next := goodIn_sub (fa_c (me_s (me_l (me_r (me_l (List.mem_of_getElem? (i := 6) rfl))))) (fa_a (fa_a (fa_c (me_s (me_l (me_r (me_l (List.mem_of_getElem? (i := 7) rfl))))) (fa_c (me_s (me_l (me_r (me_l (List.mem_of_getElem? (i := 8) rfl))))) (fa_c (me_s (me_l (me_r (me_l (List.mem_of_getElem? (i := 9) rfl))))) (fa_c (me_s (me_l (me_r (me_l (List.mem_of_getElem? (i := 2) rfl))))) (fa_c (me_s (me_l (me_r (me_l (List.mem_of_getElem? (i := 10) rfl))))) (fa_c (me_s (me_l (me_r (me_l (List.mem_of_getElem? (i := 11) rfl))))) (fa_c (me_s (me_l (me_r (me_l (List.mem_of_getElem? (i := 1) rfl))))) (fa_c (me_s (me_l (me_r (me_l (List.mem_of_getElem? (i := 12) rfl))))) (fa_c (me_s (me_l (me_r (me_l (List.mem_of_getElem? (i := 13) rfl))))) (fa_c (me_s (me_l (me_r (me_l (List.mem_of_getElem? (i := 14) rfl))))) (fa_c (me_s (me_l (me_r (me_l (List.mem_of_getElem? (i := 15) rfl))))) (fa_c (me_s (me_l (me_r (me_l (List.mem_of_getElem? (i := 16) rfl))))) (fa_c (me_s (me_l (me_l (List.mem_of_getElem? (i := 8) rfl)))) (fa_c (me_s (me_l (me_r (me_l (List.mem_of_getElem? (i := 17) rfl))))) (fa_c (me_s (me_l (me_r (me_l (List.mem_of_getElem? (i := 18) rfl))))) (fa_c (me_s (me_l (me_r (me_l (List.mem_of_getElem? (i := 19) rfl))))) (fa_c (me_s (me_l (me_r (me_l (List.mem_of_getElem? (i := 20) rfl))))) (fa_c (me_s (me_l (me_r (me_l (List.mem_of_getElem? (i := 21) rfl))))) (fa_c (me_s (me_l (me_r (me_l (List.mem_of_getElem? (i := 22) rfl))))) (fa_c (me_s (me_l (me_r (me_l (List.mem_of_getElem? (i := 23) rfl))))) (fa_c (me_s (me_l (me_r (me_r (List.mem_of_getElem? (i := 0) rfl))))) (fa_c (me_s (me_l (me_r (me_r (List.mem_of_getElem? (i := 1) rfl))))) (fa_c (me_s (me_l (me_r (me_r (List.mem_of_getElem? (i := 2) rfl))))) (fa_c (me_s (me_l (me_r (me_r (List.mem_of_getElem? (i := 3) rfl))))) fa_n)))))))))))))))))))))))) (fa_c (me_s (me_l (me_r (me_r (List.mem_of_getElem? (i := 4) rfl))))) fa_n)) (fun w h => (me_s (me_r h))))) (by decide +kernel)
set_option maxRecDepth 20000 in
theorem gX12_chain_X12_next : GoodIn wsX12_chain (wsV RX12 301 RX12 yX12_next wsX12_next) := goodIn_app (goodIn_sub (fa_c (me_s (me_l (me_r (me_l (List.mem_of_getElem? (i := 3) rfl))))) (fa_c (me_s (me_l (me_r (me_l (List.mem_of_getElem? (i := 4) rfl))))) (fa_c (me_s (me_l (me_r (me_l (List.mem_of_getElem? (i := 5) rfl))))) (fa_c (me_s (me_l (me_l (List.mem_of_getElem? (i := 8) rfl)))) fa_n)))) (by decide +kernel)) ggX12_chain_X12_next
theorem dX12_chain_98 : decode cX12_chain 98 = .ok (.invokevirtual 301, 3) := z_dd_182 (by decide +kernel)
theorem dX12_chain_101 : decode cX12_chain 101 = .ok (.aload_n 0, 1) := z_dd_42 (by decide +kernel)
theorem dX12_chain_102 : decode cX12_chain 102 = .ok (.iload_n 2, 1) := z_dd_28 (by decide +kernel)
theorem dX12_chain_103 : decode cX12_chain 103 = .ok (.ifCond .eq 7, 3) := z_dd_153 (by decide +kernel)
theorem dX12_chain_106 : decode cX12_chain 106 = .ok (.iconst 4, 1) := z_dd_7 (by decide +kernel)
theorem dX12_chain_107 : decode cX12_chain 107 = .ok (.goto 4, 3) := z_dd_167 (by decide +kernel)
set_option maxRecDepth 20000 in
theorem ggX12_chain_X12_begin : GoodIn wsX12_chain wsX12_begin := goodIn_sub (fa_c (me_s (me_l (me_l (List.mem_of_getElem? (i := 9) rfl)))) (fa_a (fa_c (me_s (me_l (me_l (List.mem_of_getElem? (i := 10) rfl)))) (fa_c (me_s (me_l (me_l (List.mem_of_getElem? (i := 11) rfl)))) (fa_c (me_s (me_l (me_l (List.mem_of_getElem? (i := 0) rfl)))) (fa_c (me_s (me_l (me_l (List.mem_of_getElem? (i := 1) rfl)))) (fa_c (me_s (me_l (me_l (List.mem_of_getElem? (i := 12) rfl)))) fa_n))))) (fun w h => (me_s (me_r h))))) (by decide +kernel)
set_option maxRecDepth 20000 in
theorem gX12_chain_X12_begin : GoodIn wsX12_chain (wsV RX12 349 RX12 yX12_begin wsX12_begin) := goodIn_app (goodIn_sub (fa_c (me_s (me_l (me_l (List.mem_of_getElem? (i := 5) rfl)))) (fa_c (me_s (me_l (me_l (List.mem_of_getElem? (i := 6) rfl)))) (fa_c (me_s (me_l (me_l (List.mem_of_getElem? (i := 7) rfl)))) (fa_c (me_s (me_l (me_l (List.mem_of_getElem? (i := 8) rfl)))) fa_n)))) (by decide +kernel)) ggX12_chain_X12_begin
theorem dX12_chain_111 : decode cX12_chain 111 = .ok (.invokevirtual 349, 3) := z_dd_182 (by decide +kernel)
theorem dX12_chain_114 : decode cX12_chain 114 = .ok (.goto 13, 3) := z_dd_167 (by decide +kernel)
theorem dX12_chain_127 : decode cX12_chain 127 = .ok (.return_, 1) := z_dd_177 (by decide +kernel)
theorem dX12_chain_117 : decode cX12_chain 117 = .ok (.aload_n 0, 1) := z_dd_42 (by decide +kernel)
theorem dX12_chain_118 : decode cX12_chain 118 = .ok (.aload_n 0, 1) := z_dd_42 (by decide +kernel)
theorem dX12_chain_119 : decode cX12_chain 119 = .ok (.getfield 97, 3) := z_dd_180 (by decide +kernel)
theorem dX12_chain_122 : decode cX12_chain 122 = .ok (.iload_n 1, 1) := z_dd_27 (by decide +kernel)
theorem dX12_chain_123 : decode cX12_chain 123 = .ok (.iaload, 1) := z_dd_46 (by decide +kernel)
set_option maxRecDepth 20000 in
theorem ggX12_chain_X12_ends : GoodIn wsX12_chain wsX12_ends := goodIn_sub (fa_c (me_s (me_l (me_r (me_r (List.mem_of_getElem? (i := 8) rfl))))) (fa_a (fa_c (me_s (me_l (me_l (List.mem_of_getElem? (i := 2) rfl)))) (fa_c (me_s (me_l (me_l (List.mem_of_getElem? (i := 11) rfl)))) fa_n)) (fun w h => (me_s (me_r h))))) (by decide +kernel)
set_option maxRecDepth 20000 in
theorem gX12_chain_X12_ends : GoodIn wsX12_chain (wsV RX12 369 RX12 yX12_ends wsX12_ends) := goodIn_app (goodIn_sub (fa_c (me_s (me_l (me_r (me_r (List.mem_of_getElem? (i := 5) rfl))))) (fa_c (me_s (me_l (me_r (me_r (List.mem_of_getElem? (i := 6) rfl))))) (fa_c (me_s (me_l (me_r (me_r (List.mem_of_getElem? (i := 7) rfl))))) (fa_c (me_s (me_l (me_l (List.mem_of_getElem? (i := 8) rfl)))) fa_n)))) (by decide +kernel)) ggX12_chain_X12_ends
theorem dX12_chain_124 : decode cX12_chain 124 = .ok (.invokevirtual 369, 3) := z_dd_182 (by decide +kernel)
theorem dX12_chain_44 : decode cX12_chain 44 = .ok (.aload_n 0, 1) := z_dd_42 (by decide +kernel)
theorem dX12_chain_45 : decode cX12_chain 45 = .ok (.getfield 343, 3) := z_dd_180 (by decide +kernel)
theorem dX12_chain_48 : decode cX12_chain 48 = .ok (.goto 28, 3) := z_dd_167 (by decide +kernel)
theorem dX12_chain_9 : decode cX12_chain 9 = .ok (.aload_n 0, 1) := z_dd_42 (by decide +kernel)
theorem dX12_chain_10 : decode cX12_chain 10 = .ok (.getfield 94, 3) := z_dd_180 (by decide +kernel)
theorem dX12_chain_13 : decode cX12_chain 13 = .ok (.iload_n 1, 1) := z_dd_27 (by decide +kernel)
theorem dX12_chain_14 : decode cX12_chain 14 = .ok (.iconst 1, 1) := z_dd_4 (by decide +kernel)
theorem dX12_chain_15 : decode cX12_chain 15 = .ok (.iastore, 1) := z_dd_79 (by decide +kernel)
theorem dX12_chain_16 : decode cX12_chain 16 = .ok (.aload_n 0, 1) := z_dd_42 (by decide +kernel)
theorem dX12_chain_17 : decode cX12_chain 17 = .ok (.iload_n 2, 1) := z_dd_28 (by decide +kernel)
theorem dX12_chain_18 : decode cX12_chain 18 = .ok (.ifCond .eq 7, 3) := z_dd_153 (by decide +kernel)
theorem dX12_chain_21 : decode cX12_chain 21 = .ok (.iconst 4, 1) := z_dd_7 (by decide +kernel)
theorem dX12_chain_22 : decode cX12_chain 22 = .ok (.goto 4, 3) := z_dd_167 (by decide +kernel)
theorem dX12_chain_26 : decode cX12_chain 26 = .ok (.invokevirtual 349, 3) := z_dd_182 (by decide +kernel)
theorem dX12_chain_29 : decode cX12_chain 29 = .ok (.return_, 1) := z_dd_177 (by decide +kernel)
theorem dX12_chain_61 : decode cX12_chain 61 = .ok (.bipush 12, 2) := z_dd_16 (by decide +kernel)
theorem dX12_chain_88 : decode cX12_chain 88 = .ok (.ldc2_w 392, 3) := z_dd_20 (by decide +kernel)
theorem dX12_chain_110 : decode cX12_chain 110 = .ok (.iconst 5, 1) := z_dd_8 (by decide +kernel)
theorem dX12_chain_25 : decode cX12_chain 25 = .ok (.iconst 5, 1) := z_dd_8 (by decide +kernel)
theorem dX12_test_0 : decode cX12_test 0 = .ok (.aload_n 0, 1) := z_dd_42 (by decide +kernel)
theorem dX12_test_1 : decode cX12_test 1 = .ok (.getfield 94, 3) := z_dd_180 (by decide +kernel)
theorem dX12_test_4 : decode cX12_test 4 = .ok (.iload_n 1, 1) := z_dd_27 (by decide +kernel)
theorem dX12_test_5 : decode cX12_test 5 = .ok (.iaload, 1) := z_dd_46 (by decide +kernel)
theorem dX12_test_6 : decode cX12_test 6 = .ok (.ifCond .ne 75, 3) := z_dd_154 (by decide +kernel)
theorem dX12_test_81 : decode cX12_test 81 = .ok (.aload_n 0, 1) := z_dd_42 (by decide +kernel)
theorem dX12_test_82 : decode cX12_test 82 = .ok (.getfield 94, 3) := z_dd_180 (by decide +kernel)
theorem dX12_test_85 : decode cX12_test 85 = .ok (.iload_n 1, 1) := z_dd_27 (by decide +kernel)
theorem dX12_test_86 : decode cX12_test 86 = .ok (.iaload, 1) := z_dd_46 (by decide +kernel)
theorem dX12_test_87 : decode cX12_test 87 = .ok (.iconst 1, 1) := z_dd_4 (by decide +kernel)
theorem dX12_test_88 : decode cX12_test 88 = .ok (.if_icmp .ne 31, 3) := z_dd_160 (by decide +kernel)
theorem dX12_test_119 : decode cX12_test 119 = .ok (.aload_n 0, 1) := z_dd_42 (by decide +kernel)
theorem dX12_test_120 : decode cX12_test 120 = .ok (.getfield 94, 3) := z_dd_180 (by decide +kernel)
theorem dX12_test_123 : decode cX12_test 123 = .ok (.iload_n 1, 1) := z_dd_27 (by decide +kernel)
theorem dX12_test_124 : decode cX12_test 124 = .ok (.iaload, 1) := z_dd_46 (by decide +kernel)
theorem dX12_test_125 : decode cX12_test 125 = .ok (.iconst 2, 1) := z_dd_5 (by decide +kernel)
theorem dX12_test_126 : decode cX12_test 126 = .ok (.if_icmp .ne 37, 3) := z_dd_160 (by decide +kernel)
theorem dX12_test_163 : decode cX12_test 163 = .ok (.aload_n 0, 1) := z_dd_42 (by decide +kernel)
theorem dX12_test_164 : decode cX12_test 164 = .ok (.getfield 94, 3) := z_dd_180 (by decide +kernel)
theorem dX12_test_167 : decode cX12_test 167 = .ok (.iload_n 1, 1) := z_dd_27 (by decide +kernel)
theorem dX12_test_168 : decode cX12_test 168 = .ok (.iaload, 1) := z_dd_46 (by decide +kernel)
theorem dX12_test_169 : decode cX12_test 169 = .ok (.iconst 3, 1) := z_dd_6 (by decide +kernel)
theorem dX12_test_170 : decode cX12_test 170 = .ok (.if_icmp .ne 95, 3) := z_dd_160 (by decide +kernel)
theorem dX12_test_265 : decode cX12_test 265 = .ok (.aload_n 0, 1) := z_dd_42 (by decide +kernel)
theorem dX12_test_266 : decode cX12_test 266 = .ok (.aload_n 0, 1) := z_dd_42 (by decide +kernel)
theorem dX12_test_267 : decode cX12_test 267 = .ok (.aload_n 0, 1) := z_dd_42 (by decide +kernel)
theorem dX12_test_268 : decode cX12_test 268 = .ok (.getfield 100, 3) := z_dd_180 (by decide +kernel)
theorem dX12_test_271 : decode cX12_test 271 = .ok (.iload_n 1, 1) := z_dd_27 (by decide +kernel)
theorem dX12_test_272 : decode cX12_test 272 = .ok (.iaload, 1) := z_dd_46 (by decide +kernel)
theorem dX12_test_273 : decode cX12_test 273 = .ok (.aload_n 0, 1) := z_dd_42 (by decide +kernel)
theorem dX12_test_274 : decode cX12_test 274 = .ok (.getfield 97, 3) := z_dd_180 (by decide +kernel)
theorem dX12_test_277 : decode cX12_test 277 = .ok (.iload_n 1, 1) := z_dd_27 (by decide +kernel)
theorem dX12_test_278 : decode cX12_test 278 = .ok (.iaload, 1) := z_dd_46 (by decide +kernel)
theorem dX12_test_279 : decode cX12_test 279 = .ok (.aload_n 0, 1) := z_dd_42 (by decide +kernel)
theorem dX12_test_280 : decode cX12_test 280 = .ok (.getfield 343, 3) := z_dd_180 (by decide +kernel)
set_option maxRecDepth 20000 in
theorem ggX12_test_X12_node : GoodIn wsX12_test wsX12_node := goodIn_sub (fa_c (me_s (me_l (me_r (me_r (me_l (List.mem_of_getElem? (i := 14) rfl)))))) (fa_a (fa_c (me_s (me_l (me_r (me_r (me_l (List.mem_of_getElem? (i := 15) rfl)))))) (fa_c (me_s (me_l (me_r (me_r (me_l (List.mem_of_getElem? (i := 16) rfl)))))) (fa_c (me_s (me_l (me_r (me_r (me_l (List.mem_of_getElem? (i := 17) rfl)))))) (fa_c (me_s (me_l (me_r (me_r (me_l (List.mem_of_getElem? (i := 18) rfl)))))) fa_n)))) (fun w h => (me_s (me_r h))))) (by decide +kernel)
set_option maxRecDepth 20000 in
theorem gX12_test_X12_node : GoodIn wsX12_test (wsV RX12 366 RX12 yX12_node wsX12_node) := goodIn_app (goodIn_sub (fa_c (me_s (me_l (me_r (me_r (me_l (List.mem_of_getElem? (i := 11) rfl)))))) (fa_c (me_s (me_l (me_r (me_r (me_l (List.mem_of_getElem? (i := 12) rfl)))))) (fa_c (me_s (me_l (me_r (me_r (me_l (List.mem_of_getElem? (i := 13) rfl)))))) (fa_c (me_s (me_l (me_l (List.mem_of_getElem? (i := 10) rfl)))) fa_n)))) (by decide +kernel)) ggX12_test_X12_node
theorem dX12_test_283 : decode cX12_test 283 = .ok (.invokevirtual 366, 3) := z_dd_182 (by decide +kernel)
set_option maxRecDepth 20000 in
theorem ggX12_test_X12_ends : GoodIn wsX12_test wsX12_ends := goodIn_sub (fa_c (me_s (me_l (me_r (me_r (me_l (List.mem_of_getElem? (i := 22) rfl)))))) (fa_a (fa_c (me_s (me_l (me_l (List.mem_of_getElem? (i := 3) rfl)))) (fa_c (me_s (me_l (me_r (me_r (me_l (List.mem_of_getElem? (i := 6) rfl)))))) fa_n)) (fun w h => (me_s (me_r h))))) (by decide +kernel)
set_option maxRecDepth 20000 in
theorem gX12_test_X12_ends : GoodIn wsX12_test (wsV RX12 369 RX12 yX12_ends wsX12_ends) := goodIn_app (goodIn_sub (fa_c (me_s (me_l (me_r (me_r (me_l (List.mem_of_getElem? (i := 19) rfl)))))) (fa_c (me_s (me_l (me_r (me_r (me_l (List.mem_of_getElem? (i := 20) rfl)))))) (fa_c (me_s (me_l (me_r (me_r (me_l (List.mem_of_getElem? (i := 21) rfl)))))) (fa_c (me_s (me_l (me_l (List.mem_of_getElem? (i := 10) rfl)))) fa_n)))) (by decide +kernel)) ggX12_test_X12_ends
theorem dX12_test_286 : decode cX12_test 286 = .ok (.invokevirtual 369, 3) := z_dd_182 (by decide +kernel)
theorem dX12_test_289 : decode cX12_test 289 = .ok (.return_, 1) := z_dd_177 (by decide +kernel)
theorem dX12_test_173 : decode cX12_test 173 = .ok (.aload_n 0, 1) := z_dd_42 (by decide +kernel)
theorem dX12_test_174 : decode cX12_test 174 = .ok (.getfield 97, 3) := z_dd_180 (by decide +kernel)
theorem dX12_test_177 : decode cX12_test 177 = .ok (.iload_n 1, 1) := z_dd_27 (by decide +kernel)
theorem dX12_test_178 : decode cX12_test 178 = .ok (.aload_n 0, 1) := z_dd_42 (by decide +kernel)
theorem dX12_test_179 : decode cX12_test 179 = .ok (.getfield 343, 3) := z_dd_180 (by decide +kernel)
theorem dX12_test_182 : decode cX12_test 182 = .ok (.iastore, 1) := z_dd_79 (by decide +kernel)
theorem dX12_test_183 : decode cX12_test 183 = .ok (.aload_n 0, 1) := z_dd_42 (by decide +kernel)
theorem dX12_test_184 : decode cX12_test 184 = .ok (.getfield 100, 3) := z_dd_180 (by decide +kernel)
theorem dX12_test_187 : decode cX12_test 187 = .ok (.iload_n 1, 1) := z_dd_27 (by decide +kernel)
theorem dX12_test_188 : decode cX12_test 188 = .ok (.aload_n 0, 1) := z_dd_42 (by decide +kernel)
theorem dX12_test_189 : decode cX12_test 189 = .ok (.bipush 60, 2) := z_dd_16 (by decide +kernel)
set_option maxRecDepth 20000 in
theorem ggX12_test_X12_isSign : GoodIn wsX12_test wsX12_isSign := goodIn_sub (fa_c (me_s (me_l (me_r (me_r (me_l (List.mem_of_getElem? (i := 10) rfl)))))) (fa_a (fa_c (me_s (me_l (me_l (List.mem_of_getElem? (i := 12) rfl)))) (fa_c (me_s (me_l (me_r (me_l (List.mem_of_getElem? (i := 6) rfl))))) fa_n)) (fun w h => (me_s (me_r h))))) (by decide +kernel)
set_option maxRecDepth 20000 in
theorem gX12_test_X12_isSign : GoodIn wsX12_test (wsV RX12 298 RX12 yX12_isSign wsX12_isSign) := goodIn_app (goodIn_sub (fa_c (me_s (me_l (me_r (me_r (me_l (List.mem_of_getElem? (i := 7) rfl)))))) (fa_c (me_s (me_l (me_r (me_r (me_l (List.mem_of_getElem? (i := 8) rfl)))))) (fa_c (me_s (me_l (me_r (me_r (me_l (List.mem_of_getElem? (i := 9) rfl)))))) (fa_c (me_s (me_l (me_l (List.mem_of_getElem? (i := 10) rfl)))) fa_n)))) (by decide +kernel)) ggX12_test_X12_isSign
theorem dX12_test_191 : decode cX12_test 191 = .ok (.invokevirtual 298, 3) := z_dd_182 (by decide +kernel)
theorem dX12_test_194 : decode cX12_test 194 = .ok (.ifCond .eq 8, 3) := z_dd_153 (by decide +kernel)
theorem dX12_test_197 : decode cX12_test 197 = .ok (.bipush 8, 2) := z_dd_16 (by decide +kernel)
theorem dX12_test_199 : decode cX12_test 199 = .ok (.goto 32, 3) := z_dd_167 (by decide +kernel)
theorem dX12_test_231 : decode cX12_test 231 = .ok (.iastore, 1) := z_dd_79 (by decide +kernel)
theorem dX12_test_232 : decode cX12_test 232 = .ok (.aload_n 0, 1) := z_dd_42 (by decide +kernel)
theorem dX12_test_233 : decode cX12_test 233 = .ok (.getfield 100, 3) := z_dd_180 (by decide +kernel)
theorem dX12_test_236 : decode cX12_test 236 = .ok (.iload_n 1, 1) := z_dd_27 (by decide +kernel)
theorem dX12_test_237 : decode cX12_test 237 = .ok (.iaload, 1) := z_dd_46 (by decide +kernel)
theorem dX12_test_238 : decode cX12_test 238 = .ok (.ifCond .ne 8, 3) := z_dd_154 (by decide +kernel)
theorem dX12_test_246 : decode cX12_test 246 = .ok (.aload_n 0, 1) := z_dd_42 (by decide +kernel)
set_option maxRecDepth 20000 in
theorem ggX12_test_X12_next : GoodIn wsX12_test wsX12_next := goodIn_sub (fa_c (me_s (me_l (me_r (me_l (List.mem_of_getElem? (i := 3) rfl))))) (fa_a (fa_a (fa_c (me_s (me_l (me_r (me_l (List.mem_of_getElem? (i := 4) rfl))))) (fa_c (me_s (me_l (me_l (List.mem_of_getElem? (i := 22) rfl)))) (fa_c (me_s (me_l (me_r (me_l (List.mem_of_getElem? (i := 5) rfl))))) (fa_c (me_s (me_l (me_l (List.mem_of_getElem? (i := 13) rfl)))) (fa_c (me_s (me_l (me_r (me_l (List.mem_of_getElem? (i := 6) rfl))))) (fa_c (me_s (me_l (me_r (me_l (List.mem_of_getElem? (i := 7) rfl))))) (fa_c (me_s (me_l (me_l (List.mem_of_getElem? (i := 12) rfl)))) (fa_c (me_s (me_l (me_r (me_l (List.mem_of_getElem? (i := 8) rfl))))) (fa_c (me_s (me_l (me_r (me_l (List.mem_of_getElem? (i := 9) rfl))))) (fa_c (me_s (me_l (me_r (me_l (List.mem_of_getElem? (i := 10) rfl))))) (fa_c (me_s (me_l (me_r (me_l (List.mem_of_getElem? (i := 11) rfl))))) (fa_c (me_s (me_l (me_r (me_l (List.mem_of_getElem? (i := 12) rfl))))) (fa_c (me_s (me_l (me_l (List.mem_of_getElem? (i := 10) rfl)))) (fa_c (me_s (me_l (me_r (me_l (List.mem_of_getElem? (i := 13) rfl))))) (fa_c (me_s (me_l (me_r (me_l (List.mem_of_getElem? (i := 14) rfl))))) (fa_c (me_s (me_l (me_r (me_l (List.mem_of_getElem? (i := 15) rfl))))) (fa_c (me_s (me_l (me_r (me_l (List.mem_of_getElem? (i := 16) rfl))))) (fa_c (me_s (me_l (me_r (me_l (List.mem_of_getElem? (i := 17) rfl))))) (fa_c (me_s (me_l (me_r (me_l (List.mem_of_getElem? (i := 18) rfl))))) (fa_c (me_s (me_l (me_r (me_l (List.mem_of_getElem? (i := 19) rfl))))) (fa_c (me_s (me_l (me_r (me_l (List.mem_of_getElem? (i := 20) rfl))))) (fa_c (me_s (me_l (me_r (me_l (List.mem_of_getElem? (i := 21) rfl))))) (fa_c (me_s (me_l (me_r (me_l (List.mem_of_getElem? (i := 22) rfl))))) (fa_c (me_s (me_l (me_r (me_l (List.mem_of_getElem? (i := 23) rfl))))) fa_n)))))))))))))))))))))))) (fa_c (me_s (me_l (me_r (me_r (me_l (List.mem_of_getElem? (i := 0) rfl)))))) fa_n)) (fun w h => (me_s (me_r h))))) (by decide +kernel)
set_option maxRecDepth 20000 in
theorem gX12_test_X12_next : GoodIn wsX12_test (wsV RX12 301 RX12 yX12_next wsX12_next) := goodIn_app (goodIn_sub (fa_c (me_s (me_l (me_r (me_l (List.mem_of_getElem? (i := 0) rfl))))) (fa_c (me_s (me_l (me_r (me_l (List.mem_of_getElem? (i := 1) rfl))))) (fa_c (me_s (me_l (me_r (me_l (List.mem_of_getElem? (i := 2) rfl))))) (fa_c (me_s (me_l (me_l (List.mem_of_getElem? (i := 10) rfl)))) fa_n)))) (by decide +kernel)) ggX12_test_X12_next
theorem dX12_test_247 : decode cX12_test 247 = .ok (.invokevirtual 301, 3) := z_dd_182 (by decide +kernel)
theorem dX12_test_250 : decode cX12_test 250 = .ok (.aload_n 0, 1) := z_dd_42 (by decide +kernel)
theorem dX12_test_251 : decode cX12_test 251 = .ok (.getfield 94, 3) := z_dd_180 (by decide +kernel)
theorem dX12_test_254 : decode cX12_test 254 = .ok (.iload_n 1, 1) := z_dd_27 (by decide +kernel)
theorem dX12_test_255 : decode cX12_test 255 = .ok (.iconst 4, 1) := z_dd_7 (by decide +kernel)
theorem dX12_test_256 : decode cX12_test 256 = .ok (.iastore, 1) := z_dd_79 (by decide +kernel)
theorem dX12_test_257 : decode cX12_test 257 = .ok (.aload_n 0, 1) := z_dd_42 (by decide +kernel)
theorem dX12_test_258 : decode cX12_test 258 = .ok (.iconst 0, 1) := z_dd_3 (by decide +kernel)
set_option maxRecDepth 20000 in
theorem ggX12_test_X12_begin : GoodIn wsX12_test wsX12_begin := goodIn_sub (fa_c (me_s (me_l (me_r (me_r (me_l (List.mem_of_getElem? (i := 4) rfl)))))) (fa_a (fa_c (me_s (me_l (me_r (me_r (me_l (List.mem_of_getElem? (i := 5) rfl)))))) (fa_c (me_s (me_l (me_r (me_r (me_l (List.mem_of_getElem? (i := 6) rfl)))))) (fa_c (me_s (me_l (me_l (List.mem_of_getElem? (i := 0) rfl)))) (fa_c (me_s (me_l (me_l (List.mem_of_getElem? (i := 5) rfl)))) (fa_c (me_s (me_l (me_l (List.mem_of_getElem? (i := 6) rfl)))) fa_n))))) (fun w h => (me_s (me_r h))))) (by decide +kernel)
set_option maxRecDepth 20000 in
theorem gX12_test_X12_begin : GoodIn wsX12_test (wsV RX12 349 RX12 yX12_begin wsX12_begin) := goodIn_app (goodIn_sub (fa_c (me_s (me_l (me_r (me_r (me_l (List.mem_of_getElem? (i := 1) rfl)))))) (fa_c (me_s (me_l (me_r (me_r (me_l (List.mem_of_getElem? (i := 2) rfl)))))) (fa_c (me_s (me_l (me_r (me_r (me_l (List.mem_of_getElem? (i := 3) rfl)))))) (fa_c (me_s (me_l (me_l (List.mem_of_getElem? (i := 10) rfl)))) fa_n)))) (by decide +kernel)) ggX12_test_X12_begin
theorem dX12_test_259 : decode cX12_test 259 = .ok (.invokevirtual 349, 3) := z_dd_182 (by decide +kernel)
theorem dX12_test_262 : decode cX12_test 262 = .ok (.goto 27, 3) := z_dd_167 (by decide +kernel)
theorem dX12_test_202 : decode cX12_test 202 = .ok (.aload_n 0, 1) := z_dd_42 (by decide +kernel)
theorem dX12_test_203 : decode cX12_test 203 = .ok (.bipush 62, 2) := z_dd_16 (by decide +kernel)
theorem dX12_test_205 : decode cX12_test 205 = .ok (.invokevirtual 298, 3) := z_dd_182 (by decide +kernel)
theorem dX12_test_208 : decode cX12_test 208 = .ok (.ifCond .eq 8, 3) := z_dd_153 (by decide +kernel)
theorem dX12_test_211 : decode cX12_test 211 = .ok (.bipush 9, 2) := z_dd_16 (by decide +kernel)
theorem dX12_test_213 : decode cX12_test 213 = .ok (.goto 18, 3) := z_dd_167 (by decide +kernel)
theorem dX12_test_216 : decode cX12_test 216 = .ok (.aload_n 0, 1) := z_dd_42 (by decide +kernel)
theorem dX12_test_217 : decode cX12_test 217 = .ok (.bipush 61, 2) := z_dd_16 (by decide +kernel)
theorem dX12_test_219 : decode cX12_test 219 = .ok (.invokevirtual 298, 3) := z_dd_182 (by decide +kernel)
theorem dX12_test_222 : decode cX12_test 222 = .ok (.ifCond .eq 8, 3) := z_dd_153 (by decide +kernel)
theorem dX12_test_225 : decode cX12_test 225 = .ok (.bipush 10, 2) := z_dd_16 (by decide +kernel)
theorem dX12_test_227 : decode cX12_test 227 = .ok (.goto 4, 3) := z_dd_167 (by decide +kernel)
theorem dX12_test_230 : decode cX12_test 230 = .ok (.iconst 0, 1) := z_dd_3 (by decide +kernel)
theorem dX12_test_241 : decode cX12_test 241 = .ok (.aload_n 0, 1) := z_dd_42 (by decide +kernel)
set_option maxRecDepth 20000 in
theorem ggX12_test_X12_errs : GoodIn wsX12_test wsX12_errs := goodIn_sub (fa_c (me_s (me_l (me_l (List.mem_of_getElem? (i := 21) rfl)))) (fa_a (fa_c (me_s (me_l (me_l (List.mem_of_getElem? (i := 4) rfl)))) (fa_c (me_s (me_l (me_l (List.mem_of_getElem? (i := 22) rfl)))) (fa_c (me_s (me_l (me_l (List.mem_of_getElem? (i := 23) rfl)))) fa_n))) (fun w h => (me_s (me_r h))))) (by decide +kernel)
set_option maxRecDepth 20000 in
theorem gX12_test_X12_errs : GoodIn wsX12_test (wsV RX12 304 RX12 yX12_errs wsX12_errs) := goodIn_app (goodIn_sub (fa_c (me_s (me_l (me_l (List.mem_of_getElem? (i := 18) rfl)))) (fa_c (me_s (me_l (me_l (List.mem_of_getElem? (i := 19) rfl)))) (fa_c (me_s (me_l (me_l (List.mem_of_getElem? (i := 20) rfl)))) (fa_c (me_s (me_l (me_l (List.mem_of_getElem? (i := 10) rfl)))) fa_n)))) (by decide +kernel)) ggX12_test_X12_errs
theorem dX12_test_242 : decode cX12_test 242 = .ok (.invokevirtual 304, 3) := z_dd_182 (by decide +kernel)
theorem dX12_test_245 : decode cX12_test 245 = .ok (.return_, 1) := z_dd_177 (by decide +kernel)
theorem dX12_test_129 : decode cX12_test 129 = .ok (.aload_n 0, 1) := z_dd_42 (by decide +kernel)
theorem dX12_test_130 : decode cX12_test 130 = .ok (.bipush 125, 2) := z_dd_16 (by decide +kernel)
set_option maxRecDepth 20000 in
theorem ggX12_test_X12_must : GoodIn wsX12_test wsX12_must := goodIn_sub (fa_c (me_s (me_l (me_r (me_r (me_r (List.mem_of_getElem? (i := 2) rfl)))))) (fa_a (fa_a (fa_c (me_s (me_l (me_r (me_r (me_l (List.mem_of_getElem? (i := 7) rfl)))))) (fa_c (me_s (me_l (me_r (me_r (me_l (List.mem_of_getElem? (i := 8) rfl)))))) (fa_c (me_s (me_l (me_r (me_r (me_l (List.mem_of_getElem? (i := 9) rfl)))))) (fa_c (me_s (me_l (me_l (List.mem_of_getElem? (i := 10) rfl)))) (fa_c (me_s (me_l (me_r (me_r (me_l (List.mem_of_getElem? (i := 10) rfl)))))) (fa_c (me_s (me_l (me_l (List.mem_of_getElem? (i := 12) rfl)))) (fa_c (me_s (me_l (me_r (me_l (List.mem_of_getElem? (i := 6) rfl))))) (fa_c (me_s (me_l (me_r (me_l (List.mem_of_getElem? (i := 0) rfl))))) (fa_c (me_s (me_l (me_r (me_l (List.mem_of_getElem? (i := 1) rfl))))) (fa_c (me_s (me_l (me_r (me_l (List.mem_of_getElem? (i := 2) rfl))))) (fa_c (me_s (me_l (me_r (me_l (List.mem_of_getElem? (i := 3) rfl))))) (fa_c (me_s (me_l (me_r (me_l (List.mem_of_getElem? (i := 4) rfl))))) (fa_c (me_s (me_l (me_l (List.mem_of_getElem? (i := 22) rfl)))) (fa_c (me_s (me_l (me_r (me_l (List.mem_of_getElem? (i := 5) rfl))))) (fa_c (me_s (me_l (me_l (List.mem_of_getElem? (i := 13) rfl)))) (fa_c (me_s (me_l (me_r (me_l (List.mem_of_getElem? (i := 7) rfl))))) (fa_c (me_s (me_l (me_r (me_l (List.mem_of_getElem? (i := 8) rfl))))) (fa_c (me_s (me_l (me_r (me_l (List.mem_of_getElem? (i := 9) rfl))))) (fa_c (me_s (me_l (me_r (me_l (List.mem_of_getElem? (i := 10) rfl))))) (fa_c (me_s (me_l (me_r (me_l (List.mem_of_getElem? (i := 11) rfl))))) (fa_c (me_s (me_l (me_r (me_l (List.mem_of_getElem? (i := 12) rfl))))) (fa_c (me_s (me_l (me_r (me_l (List.mem_of_getElem? (i := 13) rfl))))) (fa_c (me_s (me_l (me_r (me_l (List.mem_of_getElem? (i := 14) rfl))))) (fa_c (me_s (me_l (me_r (me_l (List.mem_of_getElem? (i := 15) rfl))))) fa_n)))))))))))))))))))))))) (fa_c (me_s (me_l (me_r (me_l (List.mem_of_getElem? (i := 16) rfl))))) (fa_c (me_s (me_l (me_r (me_l (List.mem_of_getElem? (i := 17) rfl))))) (fa_c (me_s (me_l (me_r (me_l (List.mem_of_getElem? (i := 18) rfl))))) (fa_c (me_s (me_l (me_r (me_l (List.mem_of_getElem? (i := 19) rfl))))) (fa_c (me_s (me_l (me_r (me_l (List.mem_of_getElem? (i := 20) rfl))))) (fa_c (me_s (me_l (me_r (me_l (List.mem_of_getElem? (i := 21) rfl))))) (fa_c (me_s (me_l (me_r (me_l (List.mem_of_getElem? (i := 22) rfl))))) (fa_c (me_s (me_l (me_r (me_l (List.mem_of_getElem? (i := 23) rfl))))) (fa_c (me_s (me_l (me_r (me_r (me_l (List.mem_of_getElem? (i := 0) rfl)))))) (fa_c (me_s (me_l (me_l (List.mem_of_getElem? (i := 18) rfl)))) (fa_c (me_s (me_l (me_l (List.mem_of_getElem? (i := 19) rfl)))) (fa_c (me_s (me_l (me_l (List.mem_of_getElem? (i := 20) rfl)))) (fa_c (me_s (me_l (me_l (List.mem_of_getElem? (i := 21) rfl)))) (fa_c (me_s (me_l (me_l (List.mem_of_getElem? (i := 4) rfl)))) (fa_c (me_s (me_l (me_l (List.mem_of_getElem? (i := 23) rfl)))) fa_n)))))))))))))))) (fun w h => (me_s (me_r h))))) (by decide +kernel)
set_option maxRecDepth 20000 in
theorem gX12_test_X12_must : GoodIn wsX12_test (wsV RX12 383 RX12 yX12_must wsX12_must) := goodIn_app (goodIn_sub (fa_c (me_s (me_l (me_r (me_r (me_l (List.mem_of_getElem? (i := 23) rfl)))))) (fa_c (me_s (me_l (me_r (me_r (me_r (List.mem_of_getElem? (i := 0) rfl)))))) (fa_c (me_s (me_l (me_r (me_r (me_r (List.mem_of_getElem? (i := 1) rfl)))))) (fa_c (me_s (me_l (me_l (List.mem_of_getElem? (i := 10) rfl)))) fa_n)))) (by decide +kernel)) ggX12_test_X12_must
theorem dX12_test_132 : decode cX12_test 132 = .ok (.invokevirtual 383, 3) := z_dd_182 (by decide +kernel)
theorem dX12_test_135 : decode cX12_test 135 = .ok (.aload_n 0, 1) := z_dd_42 (by decide +kernel)
theorem dX12_test_136 : decode cX12_test 136 = .ok (.dup, 1) := z_dd_89 (by decide +kernel)
theorem dX12_test_137 : decode cX12_test 137 = .ok (.getfield 346, 3) := z_dd_180 (by decide +kernel)
theorem dX12_test_140 : decode cX12_test 140 = .ok (.iconst 1, 1) := z_dd_4 (by decide +kernel)
theorem dX12_test_141 : decode cX12_test 141 = .ok (.isub, 1) := z_dd_100 (by decide +kernel)
theorem dX12_test_142 : decode cX12_test 142 = .ok (.putfield 346, 3) := z_dd_181 (by decide +kernel)
theorem dX12_test_145 : decode cX12_test 145 = .ok (.aload_n 0, 1) := z_dd_42 (by decide +kernel)
theorem dX12_test_146 : decode cX12_test 146 = .ok (.getfield 294, 3) := z_dd_180 (by decide +kernel)
theorem dX12_test_149 : decode cX12_test 149 = .ok (.ifCond .ne 140, 3) := z_dd_154 (by decide +kernel)
theorem dX12_test_152 : decode cX12_test 152 = .ok (.aload_n 0, 1) := z_dd_42 (by decide +kernel)
theorem dX12_test_153 : decode cX12_test 153 = .ok (.aload_n 0, 1) := z_dd_42 (by decide +kernel)
theorem dX12_test_154 : decode cX12_test 154 = .ok (.getfield 343, 3) := z_dd_180 (by decide +kernel)
theorem dX12_test_157 : decode cX12_test 157 = .ok (.invokevirtual 369, 3) := z_dd_182 (by decide +kernel)
theorem dX12_test_160 : decode cX12_test 160 = .ok (.goto 129, 3) := z_dd_167 (by decide +kernel)
theorem dX12_test_91 : decode cX12_test 91 = .ok (.aload_n 0, 1) := z_dd_42 (by decide +kernel)
theorem dX12_test_92 : decode cX12_test 92 = .ok (.dup, 1) := z_dd_89 (by decide +kernel)
theorem dX12_test_93 : decode cX12_test 93 = .ok (.getfield 346, 3) := z_dd_180 (by decide +kernel)
theorem dX12_test_96 : decode cX12_test 96 = .ok (.iconst 1, 1) := z_dd_4 (by decide +kernel)
theorem dX12_test_97 : decode cX12_test 97 = .ok (.isub, 1) := z_dd_100 (by decide +kernel)
theorem dX12_test_98 : decode cX12_test 98 = .ok (.putfield 346, 3) := z_dd_181 (by decide +kernel)
theorem dX12_test_101 : decode cX12_test 101 = .ok (.aload_n 0, 1) := z_dd_42 (by decide +kernel)
theorem dX12_test_102 : decode cX12_test 102 = .ok (.aload_n 0, 1) := z_dd_42 (by decide +kernel)
theorem dX12_test_103 : decode cX12_test 103 = .ok (.bipush 11, 2) := z_dd_16 (by decide +kernel)
theorem dX12_test_105 : decode cX12_test 105 = .ok (.aload_n 0, 1) := z_dd_42 (by decide +kernel)
theorem dX12_test_106 : decode cX12_test 106 = .ok (.getfield 343, 3) := z_dd_180 (by decide +kernel)
theorem dX12_test_109 : decode cX12_test 109 = .ok (.iconst 0, 1) := z_dd_3 (by decide +kernel)
theorem dX12_test_110 : decode cX12_test 110 = .ok (.invokevirtual 366, 3) := z_dd_182 (by decide +kernel)
theorem dX12_test_113 : decode cX12_test 113 = .ok (.invokevirtual 369, 3) := z_dd_182 (by decide +kernel)
theorem dX12_test_116 : decode cX12_test 116 = .ok (.goto 173, 3) := z_dd_167 (by decide +kernel)
theorem dX12_test_9 : decode cX12_test 9 = .ok (.aload_n 0, 1) := z_dd_42 (by decide +kernel)
theorem dX12_test_10 : decode cX12_test 10 = .ok (.ldc2_w 394, 3) := z_dd_20 (by decide +kernel)
set_option maxRecDepth 20000 in
theorem ggX12_test_X12_isWord : GoodIn wsX12_test wsX12_isWord := goodIn_sub (fa_c (me_s (me_l (me_l (List.mem_of_getElem? (i := 11) rfl)))) (fa_a (fa_c (me_s (me_l (me_l (List.mem_of_getElem? (i := 12) rfl)))) (fa_c (me_s (me_l (me_l (List.mem_of_getElem? (i := 13) rfl)))) fa_n)) (fun w h => (me_s (me_r h))))) (by decide +kernel)
set_option maxRecDepth 20000 in
theorem gX12_test_X12_isWord : GoodIn wsX12_test (wsV RX12 377 RX12 yX12_isWord wsX12_isWord) := goodIn_app (goodIn_sub (fa_c (me_s (me_l (me_l (List.mem_of_getElem? (i := 7) rfl)))) (fa_c (me_s (me_l (me_l (List.mem_of_getElem? (i := 8) rfl)))) (fa_c (me_s (me_l (me_l (List.mem_of_getElem? (i := 9) rfl)))) (fa_c (me_s (me_l (me_l (List.mem_of_getElem? (i := 10) rfl)))) fa_n)))) (by decide +kernel)) ggX12_test_X12_isWord
theorem dX12_test_13 : decode cX12_test 13 = .ok (.invokevirtual 377, 3) := z_dd_182 (by decide +kernel)
theorem dX12_test_16 : decode cX12_test 16 = .ok (.ifCond .eq 22, 3) := z_dd_153 (by decide +kernel)
theorem dX12_test_19 : decode cX12_test 19 = .ok (.aload_n 0, 1) := z_dd_42 (by decide +kernel)
set_option maxRecDepth 20000 in
theorem ggX12_test_X12_opens : GoodIn wsX12_test wsX12_opens := goodIn_sub (fa_c (me_s (me_l (me_l (List.mem_of_getElem? (i := 17) rfl)))) (fa_a (fa_a (fa_c (me_s (me_l (me_l (List.mem_of_getElem? (i := 2) rfl)))) (fa_c (me_s (me_l (me_l (List.mem_of_getElem? (i := 18) rfl)))) (fa_c (me_s (me_l (me_l (List.mem_of_getElem? (i := 19) rfl)))) (fa_c (me_s (me_l (me_l (List.mem_of_getElem? (i := 20) rfl)))) (fa_c (me_s (me_l (me_l (List.mem_of_getElem? (i := 10) rfl)))) (fa_c (me_s (me_l (me_l (List.mem_of_getElem? (i := 21) rfl)))) (fa_c (me_s (me_l (me_l (List.mem_of_getElem? (i := 4) rfl)))) (fa_c (me_s (me_l (me_l (List.mem_of_getElem? (i := 22) rfl)))) (fa_c (me_s (me_l (me_l (List.mem_of_getElem? (i := 23) rfl)))) (fa_c (me_s (me_l (me_r (me_l (List.mem_of_getElem? (i := 0) rfl))))) (fa_c (me_s (me_l (me_r (me_l (List.mem_of_getElem? (i := 1) rfl))))) (fa_c (me_s (me_l (me_r (me_l (List.mem_of_getElem? (i := 2) rfl))))) (fa_c (me_s (me_l (me_r (me_l (List.mem_of_getElem? (i := 3) rfl))))) (fa_c (me_s (me_l (me_r (me_l (List.mem_of_getElem? (i := 4) rfl))))) (fa_c (me_s (me_l (me_r (me_l (List.mem_of_getElem? (i := 5) rfl))))) (fa_c (me_s (me_l (me_l (List.mem_of_getElem? (i := 13) rfl)))) (fa_c (me_s (me_l (me_r (me_l (List.mem_of_getElem? (i := 6) rfl))))) (fa_c (me_s (me_l (me_r (me_l (List.mem_of_getElem? (i := 7) rfl))))) (fa_c (me_s (me_l (me_l (List.mem_of_getElem? (i := 12) rfl)))) (fa_c (me_s (me_l (me_r (me_l (List.mem_of_getElem? (i := 8) rfl))))) (fa_c (me_s (me_l (me_r (me_l (List.mem_of_getElem? (i := 9) rfl))))) (fa_c (me_s (me_l (me_r (me_l (List.mem_of_getElem? (i := 10) rfl))))) (fa_c (me_s (me_l (me_r (me_l (List.mem_of_getElem? (i := 11) rfl))))) (fa_c (me_s (me_l (me_r (me_l (List.mem_of_getElem? (i := 12) rfl))))) fa_n)))))))))))))))))))))))) (fa_c (me_s (me_l (me_r (me_l (List.mem_of_getElem? (i := 13) rfl))))) (fa_c (me_s (me_l (me_r (me_l (List.mem_of_getElem? (i := 14) rfl))))) (fa_c (me_s (me_l (me_r (me_l (List.mem_of_getElem? (i := 15) rfl))))) (fa_c (me_s (me_l (me_r (me_l (List.mem_of_getElem? (i := 16) rfl))))) (fa_c (me_s (me_l (me_r (me_l (List.mem_of_getElem? (i := 17) rfl))))) (fa_c (me_s (me_l (me_r (me_l (List.mem_of_getElem? (i := 18) rfl))))) (fa_c (me_s (me_l (me_r (me_l (List.mem_of_getElem? (i := 19) rfl))))) (fa_c (me_s (me_l (me_r (me_l (List.mem_of_getElem? (i := 20) rfl))))) (fa_c (me_s (me_l (me_r (me_l (List.mem_of_getElem? (i := 21) rfl))))) (fa_c (me_s (me_l (me_r (me_l (List.mem_of_getElem? (i := 22) rfl))))) (fa_c (me_s (me_l (me_r (me_l (List.mem_of_getElem? (i := 23) rfl))))) (fa_c (me_s (me_l (me_r (me_r (me_l (List.mem_of_getElem? (i := 0) rfl)))))) fa_n))))))))))))) (fun w h => (me_s (me_r h))))) (by decide +kernel)
set_option maxRecDepth 20000 in
theorem gX12_test_X12_opens : GoodIn wsX12_test (wsV RX12 372 RX12 yX12_opens wsX12_opens) := goodIn_app (goodIn_sub (fa_c (me_s (me_l (me_l (List.mem_of_getElem? (i := 14) rfl)))) (fa_c (me_s (me_l (me_l (List.mem_of_getElem? (i := 15) rfl)))) (fa_c (me_s (me_l (me_l (List.mem_of_getElem? (i := 16) rfl)))) (fa_c (me_s (me_l (me_l (List.mem_of_getElem? (i := 10) rfl)))) fa_n)))) (by decide +kernel)) ggX12_test_X12_opens
theorem dX12_test_20 : decode cX12_test 20 = .ok (.invokevirtual 372, 3) := z_dd_182 (by decide +kernel)
theorem dX12_test_23 : decode cX12_test 23 = .ok (.aload_n 0, 1) := z_dd_42 (by decide +kernel)
theorem dX12_test_24 : decode cX12_test 24 = .ok (.getfield 94, 3) := z_dd_180 (by decide +kernel)
theorem dX12_test_27 : decode cX12_test 27 = .ok (.iload_n 1, 1) := z_dd_27 (by decide +kernel)
theorem dX12_test_28 : decode cX12_test 28 = .ok (.iconst 1, 1) := z_dd_4 (by decide +kernel)
theorem dX12_test_29 : decode cX12_test 29 = .ok (.iastore, 1) := z_dd_79 (by decide +kernel)
theorem dX12_test_30 : decode cX12_test 30 = .ok (.aload_n 0, 1) := z_dd_42 (by decide +kernel)
theorem dX12_test_31 : decode cX12_test 31 = .ok (.iconst 5, 1) := z_dd_8 (by decide +kernel)
theorem dX12_test_32 : decode cX12_test 32 = .ok (.invokevirtual 349, 3) := z_dd_182 (by decide +kernel)
theorem dX12_test_35 : decode cX12_test 35 = .ok (.goto 254, 3) := z_dd_167 (by decide +kernel)
theorem dX12_test_38 : decode cX12_test 38 = .ok (.aload_n 0, 1) := z_dd_42 (by decide +kernel)
theorem dX12_test_39 : decode cX12_test 39 = .ok (.bipush 123, 2) := z_dd_16 (by decide +kernel)
theorem dX12_test_41 : decode cX12_test 41 = .ok (.invokevirtual 298, 3) := z_dd_182 (by decide +kernel)
theorem dX12_test_44 : decode cX12_test 44 = .ok (.ifCond .eq 22, 3) := z_dd_153 (by decide +kernel)
theorem dX12_test_47 : decode cX12_test 47 = .ok (.aload_n 0, 1) := z_dd_42 (by decide +kernel)
theorem dX12_test_48 : decode cX12_test 48 = .ok (.invokevirtual 372, 3) := z_dd_182 (by decide +kernel)
theorem dX12_test_51 : decode cX12_test 51 = .ok (.aload_n 0, 1) := z_dd_42 (by decide +kernel)
theorem dX12_test_52 : decode cX12_test 52 = .ok (.getfield 94, 3) := z_dd_180 (by decide +kernel)
theorem dX12_test_55 : decode cX12_test 55 = .ok (.iload_n 1, 1) := z_dd_27 (by decide +kernel)
theorem dX12_test_56 : decode cX12_test 56 = .ok (.iconst 2, 1) := z_dd_5 (by decide +kernel)
theorem dX12_test_57 : decode cX12_test 57 = .ok (.iastore, 1) := z_dd_79 (by decide +kernel)
theorem dX12_test_58 : decode cX12_test 58 = .ok (.aload_n 0, 1) := z_dd_42 (by decide +kernel)
theorem dX12_test_59 : decode cX12_test 59 = .ok (.iconst 3, 1) := z_dd_6 (by decide +kernel)
theorem dX12_test_60 : decode cX12_test 60 = .ok (.invokevirtual 349, 3) := z_dd_182 (by decide +kernel)
theorem dX12_test_63 : decode cX12_test 63 = .ok (.goto 226, 3) := z_dd_167 (by decide +kernel)
theorem dX12_test_66 : decode cX12_test 66 = .ok (.aload_n 0, 1) := z_dd_42 (by decide +kernel)
theorem dX12_test_67 : decode cX12_test 67 = .ok (.getfield 94, 3) := z_dd_180 (by decide +kernel)
theorem dX12_test_70 : decode cX12_test 70 = .ok (.iload_n 1, 1) := z_dd_27 (by decide +kernel)
theorem dX12_test_71 : decode cX12_test 71 = .ok (.iconst 3, 1) := z_dd_6 (by decide +kernel)
theorem dX12_test_72 : decode cX12_test 72 = .ok (.iastore, 1) := z_dd_79 (by decide +kernel)
theorem dX12_test_73 : decode cX12_test 73 = .ok (.aload_n 0, 1) := z_dd_42 (by decide +kernel)
theorem dX12_test_74 : decode cX12_test 74 = .ok (.iconst 0, 1) := z_dd_3 (by decide +kernel)
theorem dX12_test_75 : decode cX12_test 75 = .ok (.invokevirtual 349, 3) := z_dd_182 (by decide +kernel)
theorem dX12_test_78 : decode cX12_test 78 = .ok (.goto 211, 3) := z_dd_167 (by decide +kernel)
theorem z_l13 : (13 : Int32).toInt = 13 := by decide
noncomputable def L_X12_sums_1 : z_L := [(0, 35), (0, 36), (0, 37), (0, 38), (0, 34), (0, 42), (0, 32), (0, 39), (21, 999), (22, 999), (23, 999), (0, 15), (26, 999), (27, 999), (28, 999), (29, 999), (0, 47), (0, 40)]
theorem zj_X12_sums_X12 : ∀ w ∈ wsX120, w ∈ wsX12_sums := fun w h => (List.mem_cons_of_mem _ (List.mem_append_right _ h))
set_option maxHeartbeats 8000000 in
set_option maxRecDepth 100000 in
theorem sx_X12_sums_1 (l : Launch) (G : z_G) (ad : Nat → Nat) (I : z_I) (J : z_J) (hmp : z_imp I) (hmt : z_imt I) (hmd : z_imd I) (hmg : z_img I) (hmn : z_imn I) (hNd : z_Nd I) (hrp : z_irp I) (B : Int) (a1 : Int32) (q1 : 0 ≤ a1.toInt ∧ a1.toInt ≤ 33) (hwd : (I 26 a1.toNatClampNeg).toInt = 0) (hPS : z_PS I (a1.toNatClampNeg + 1) B) : z_Mv l yX12_sums wsX12_sums { frames := 3, cells := 0, slots := 0, locals := 55 } [.ref (ad 0), .int a1, .int 1] G (shM, ad, I, J, PM ad) (fun u1 => ∃ (I1 : z_I) (J1 : z_J), u1 = (shM, ad, I1, J1, PM ad) ∧ z_imp I1 ∧ z_imt I1 ∧ z_imd I1 ∧ z_img I1 ∧ z_imn I1 ∧ z_Nd I1 ∧ z_irp I1 ∧ z_fr L_X12_sums_1 I1 I ∧ (¬ (I1 0 42).toInt = 0 ∨ ∃ n, z_PS I1 n (B - 1))) 0 0 := by
  intro sz
  refine z_headQ (cc := cX12_sums) (maxL := 4) (ret := none) (by decide) rfl (Nat.le_of_ble_eq_true rfl) ?_
  intro p e s m below meth c0 ls hIn hK hsz hW hl
  obtain ⟨hx, hb, hr, hml, hown, hts, hlocks, hname⟩ := hIn
  subst hsz
  have hown : s.vm.findClass RX12 = some m.cls := hown
  have hA : ∀ q : Nat, s.heap.size ≤ q → z_A (shM, ad, I, J, PM ad) s.heap.size q := fun q h => Or.inr h
  generalize hAe : z_A (shM, ad, I, J, PM ad) s.heap.size = A at *
  have hS : va_S A s.heap s.heap [] := va_S.rf
  have hl : lv_has ls 4 [(0, .ref (ad 0)), (1, .int a1), (2, .int 1)] := hl
  obtain ⟨va, eva⟩ : ∃ y, y = I 27 a1.toNatClampNeg := ⟨_, rfl⟩
  obtain ⟨vo, evo⟩ : ∃ y, y = I 28 a1.toNatClampNeg := ⟨_, rfl⟩
  obtain ⟨vs, evs⟩ : ∃ y, y = I 29 a1.toNatClampNeg := ⟨_, rfl⟩
  have hT := z_top hPS
  unfold z_fv at hT
  rw [hwd, ← eva, ← evo, ← evs] at hT
  obtain ⟨t1, t2, t3, t4, t5, t6, t7, t8, t9, t10, t11, t12, t13, t14, t15, t16, t17, t18, t19, t20, t21⟩ := hT
  have hk9 := z_clt (x := a1) rfl q1.1
  have hcw := z_fwc_0 va.toInt vo.toInt
  have hcf := z_foc_0 va.toInt
  obtain ⟨vw, evw⟩ : ∃ y, y = I 26 a1.toNatClampNeg := ⟨_, rfl⟩
  have hvw : vw.toInt = 0 := by rw [evw]; exact hwd
  have krp : 0 ≤ (I 0 35).toInt ∧ (I 0 35).toInt ≤ (I 0 34).toInt ∧ (I 0 34).toInt ≤ (I 0 33).toInt ∧ (I 0 33).toInt ≤ 500 ∧ ((I 0 36).toInt = 0 ∨ (I 0 35).toInt + 1 ≤ (I 0 34).toInt) := hrp
  refine lv_aload_n hx hb dX12_sums_0 rfl (lv_at hl 0 rfl) ?_
  refine z_get (T := TX12) (N := 96) (ci := 12) (i := 0) (v := .ref (ad 27)) hx hb hts zj_X12_sums_X12 hown hK hW rfl rfl 44 (by decide) (hts (.fieldLink RX12 94 "PetrolBoardModel" "at" "[I") (me_s (me_l (me_l (List.mem_of_getElem? (i := 0) rfl))))) (fun _ h => h) rfl dX12_sums_1 ?_
  refine lv_iload_n hx hb dX12_sums_4 rfl (lv_at hl 1 rfl) ?_
  refine z_iald (i := 27) hx hb hK hW rfl (z_ix rfl (by omega) (by omega)) dX12_sums_5 ?_
  refine z_topi (v := va) eva.symm ?_
  refine lv_if_ne (tgt := 30) hx hb dX12_sums_6 (by decide) (fun c1 => ?_) (fun c1 => ?_)
  · have g2 := z_f_ne rfl z_l0 c1
    refine lv_aload_n hx hb dX12_sums_30 rfl (lv_at hl 0 rfl) ?_
    refine z_get (T := TX12) (N := 96) (ci := 12) (i := 0) (v := .ref (ad 28)) hx hb hts zj_X12_sums_X12 hown hK hW rfl rfl 45 (by decide) (hts (.fieldLink RX12 97 "PetrolBoardModel" "one" "[I") (me_s (me_l (me_l (List.mem_of_getElem? (i := 1) rfl))))) (fun _ h => h) rfl dX12_sums_31 ?_
    refine lv_iload_n hx hb dX12_sums_34 rfl (lv_at hl 1 rfl) ?_
    refine lv_aload_n hx hb dX12_sums_35 rfl (lv_at hl 0 rfl) ?_
    refine z_get (T := TX12) (N := 96) (ci := 12) (i := 0) (v := .ref (ad 28)) hx hb hts zj_X12_sums_X12 hown hK hW rfl rfl 45 (by decide) (hts (.fieldLink RX12 97 "PetrolBoardModel" "one" "[I") (me_s (me_l (me_l (List.mem_of_getElem? (i := 1) rfl))))) (fun _ h => h) rfl dX12_sums_36 ?_
    refine lv_iload_n hx hb dX12_sums_39 rfl (lv_at hl 1 rfl) ?_
    refine z_iald (i := 28) hx hb hK hW rfl (z_ix rfl (by omega) (by omega)) dX12_sums_40 ?_
    refine z_topi (v := vo) evo.symm ?_
    refine lv_if_ge (tgt := 51) hx hb dX12_sums_41 (by decide) (fun c3 => ?_) (fun c3 => ?_)
    · have g4 := z_f_ge rfl z_l0 c3
      refine lv_aload_n hx hb dX12_sums_51 rfl (lv_at hl 0 rfl) ?_
      refine lv_aload_n hx hb dX12_sums_52 rfl (lv_at hl 0 rfl) ?_
      refine z_get (T := TX12) (N := 96) (ci := 12) (i := 0) (v := .ref (ad 29)) hx hb hts zj_X12_sums_X12 hown hK hW rfl rfl 46 (by decide) (hts (.fieldLink RX12 100 "PetrolBoardModel" "sort" "[I") (me_s (me_l (me_l (List.mem_of_getElem? (i := 3) rfl))))) (fun _ h => h) rfl dX12_sums_53 ?_
      refine lv_iload_n hx hb dX12_sums_56 rfl (lv_at hl 1 rfl) ?_
      refine z_iald (i := 29) hx hb hK hW rfl (z_ix rfl (by omega) (by omega)) dX12_sums_57 ?_
      refine z_topi (v := vs) evs.symm ?_
      refine lv_aload_n hx hb dX12_sums_58 rfl (lv_at hl 0 rfl) ?_
      refine z_get (T := TX12) (N := 96) (ci := 12) (i := 0) (v := .ref (ad 28)) hx hb hts zj_X12_sums_X12 hown hK hW rfl rfl 45 (by decide) (hts (.fieldLink RX12 97 "PetrolBoardModel" "one" "[I") (me_s (me_l (me_l (List.mem_of_getElem? (i := 1) rfl))))) (fun _ h => h) rfl dX12_sums_59 ?_
      refine lv_iload_n hx hb dX12_sums_62 rfl (lv_at hl 1 rfl) ?_
      refine z_iald (i := 28) hx hb hK hW rfl (z_ix rfl (by omega) (by omega)) dX12_sums_63 ?_
      refine z_topi (v := vo) evo.symm ?_
      refine lv_aload_n hx hb dX12_sums_64 rfl (lv_at hl 0 rfl) ?_
      have r5 : 0 ≤ (I 0 40).toInt ∧ (I 0 40).toInt ≤ 6199 := hmg
      refine z_get (T := TX12) (N := 96) (ci := 12) (i := 0) (v := .int (I 0 40)) hx hb hts zj_X12_sums_X12 hown hK hW rfl rfl 40 (by decide) (hts (.fieldLink RX12 343 "PetrolBoardModel" "got" "I") (me_s (me_l (me_l (List.mem_of_getElem? (i := 2) rfl))))) (fun _ h => h) rfl dX12_sums_65 ?_
      refine z_ci hW hS hA (va_runV (As := [.int vs, .int vo, .int (I 0 40)]) (rest := [.int a1, .ref (ad 28)]) ⟨hx, hb, hml, hown, hts⟩ (sx_X12_node l G ad I J (by show 0 ≤ (I 0 15).toInt ∧ (I 0 15).toInt ≤ 6100; exact hmn) hNd vs vo (I 0 40) (by show (I 0 15).toInt ≤ 6099; omega) (by first | omega | decide) (by first | omega | decide) (by first | omega | decide) _) (cwV 3 hts gX12_sums_X12_node rfl rfl rfl hy_X12_node ⟨Nat.le_of_ble_eq_true rfl, Nat.le_of_ble_eq_true rfl⟩) (z_preV (i := 0) hK hW rfl rfl) rfl rfl hl.1 rfl (lv_room (Nat.le_of_ble_eq_true rfl)) dX12_sums_68 ⟨Nat.le_of_ble_eq_true rfl, Nat.le_of_ble_eq_true rfl⟩) (fun r u1 H locs hp hW hS => ?_)
      obtain ⟨I6, J8, e9, hI6mn, hI6Nd, fI6, hp⟩ := hp
      rw [e9] at hW
      have f7 := z_fr_sub (L := L_X12_sums_1) z_fr_0 fI6 (by decide)
      have k9 : 0 ≤ (I6 0 31).toInt ∧ (I6 0 31).toInt ≤ 500 := by rw [fI6 0 31 (by decide)]; exact (by show 0 ≤ (I 0 31).toInt ∧ (I 0 31).toInt ≤ 500; exact hmp.1)
      have k10 : 0 ≤ (I6 0 33).toInt ∧ (I6 0 33).toInt ≤ 500 := by rw [fI6 0 33 (by decide)]; exact (by show 0 ≤ (I 0 33).toInt ∧ (I 0 33).toInt ≤ 500; exact hmp.2.1)
      have k11 : 0 ≤ (I6 0 34).toInt ∧ (I6 0 34).toInt ≤ 500 := by rw [fI6 0 34 (by decide)]; exact (by show 0 ≤ (I 0 34).toInt ∧ (I 0 34).toInt ≤ 500; exact hmp.2.2.1)
      have k12 : 0 ≤ (I6 0 35).toInt ∧ (I6 0 35).toInt ≤ 500 := by rw [fI6 0 35 (by decide)]; exact (by show 0 ≤ (I 0 35).toInt ∧ (I 0 35).toInt ≤ 500; exact hmp.2.2.2)
      have k13 : 0 ≤ (I6 0 36).toInt ∧ (I6 0 36).toInt ≤ 4 := by rw [fI6 0 36 (by decide)]; exact (by show 0 ≤ (I 0 36).toInt ∧ (I 0 36).toInt ≤ 4; exact hmt.1)
      have k14 : 0 ≤ (I6 0 42).toInt ∧ (I6 0 42).toInt ≤ 1 := by rw [fI6 0 42 (by decide)]; exact (by show 0 ≤ (I 0 42).toInt ∧ (I 0 42).toInt ≤ 1; exact hmt.2)
      have k15 : 0 ≤ (I6 0 47).toInt ∧ (I6 0 47).toInt ≤ 119 := by rw [fI6 0 47 (by decide)]; exact (by show 0 ≤ (I 0 47).toInt ∧ (I 0 47).toInt ≤ 119; exact hmd.1)
      have k16 : 0 ≤ (I6 0 39).toInt ∧ (I6 0 39).toInt ≤ 100 := by rw [fI6 0 39 (by decide)]; exact (by show 0 ≤ (I 0 39).toInt ∧ (I 0 39).toInt ≤ 100; exact hmd.2)
      have k17 : 0 ≤ (I6 0 40).toInt ∧ (I6 0 40).toInt ≤ 6199 := by rw [fI6 0 40 (by decide)]; exact (by show 0 ≤ (I 0 40).toInt ∧ (I 0 40).toInt ≤ 6199; exact hmg)
      have k18 : 0 ≤ (I6 0 35).toInt ∧ (I6 0 35).toInt ≤ (I6 0 34).toInt ∧ (I6 0 34).toInt ≤ (I6 0 33).toInt ∧ (I6 0 33).toInt ≤ 500 ∧ ((I6 0 36).toInt = 0 ∨ (I6 0 35).toInt + 1 ≤ (I6 0 34).toInt) := (by have q0 : (I6 0 35) = (I 0 35) := (by rw [fI6 0 35 (by decide)]); have q1 : (I6 0 34) = (I 0 34) := (by rw [fI6 0 34 (by decide)]); have q2 : (I6 0 33) = (I 0 33) := (by rw [fI6 0 33 (by decide)]); have q3 : (I6 0 36) = (I 0 36) := (by rw [fI6 0 36 (by decide)]); show 0 ≤ (I6 0 35).toInt ∧ (I6 0 35).toInt ≤ (I6 0 34).toInt ∧ (I6 0 34).toInt ≤ (I6 0 33).toInt ∧ (I6 0 33).toInt ≤ 500 ∧ ((I6 0 36).toInt = 0 ∨ (I6 0 35).toInt + 1 ≤ (I6 0 34).toInt); rw [q0, q1, q2, q3]; first | omega | decide)
      have k19 : (I6 0 35).toInt = (I 0 35).toInt := by rw [fI6 0 35 (by decide)]
      have k20 : (I6 0 34).toInt = (I 0 34).toInt := by rw [fI6 0 34 (by decide)]
      have k21 : (I6 0 36).toInt = (I 0 36).toInt := by rw [fI6 0 36 (by decide)]
      have k22 : (I6 0 42).toInt = (I 0 42).toInt := by rw [fI6 0 42 (by decide)]
      have k23 : (I6 0 47).toInt = (I 0 47).toInt := by rw [fI6 0 47 (by decide)]
      have k24 : (I6 0 39).toInt = (I 0 39).toInt := by rw [fI6 0 39 (by decide)]
      have k25 : (I6 0 40).toInt = (I 0 40).toInt := by rw [fI6 0 40 (by decide)]
      refine lv_topi (fun x26 ex26 => ?_)
      rw [← ex26] at hp
      obtain ⟨h27, h28⟩ := hp
      have h29 : 0 ≤ x26.toInt ∧ x26.toInt ≤ 6100 := (by have q9 : 0 ≤ (I 0 15).toInt ∧ (I 0 15).toInt ≤ 6100 := (by show 0 ≤ (I 0 15).toInt ∧ (I 0 15).toInt ≤ 6100; exact hmn); omega)
      refine z_iast (i := 28) hx hb hK hW hS rfl (z_ix rfl (by omega) (by omega)) dX12_sums_71 (fun H locs hz1 hW hS => ?_)
      obtain ⟨I30, eI30⟩ : ∃ K : z_I, K = z_up I6 28 a1.toNatClampNeg x26 := ⟨_, rfl⟩
      rw [← eI30] at hW
      have f31 := z_fr_a f7 (show z_wa L_X12_sums_1 28 = true by decide) eI30
      have a32 := z_Nd_n hI6Nd (by decide) eI30
      refine lv_iload_n hx hb dX12_sums_72 rfl (lv_at hl 2 rfl) ?_
      refine lv_if_eq (tgt := 106) hx hb dX12_sums_73 (by decide) (fun c33 => absurd c33 (by decide)) (fun c33 => ?_)
      refine lv_aload_n hx hb dX12_sums_76 rfl (lv_at hl 0 rfl) ?_
      refine lv_bipush (v := 43) hx hb dX12_sums_77 (by decide) ?_
      refine z_ci hW hS hA (va_runV (As := [.int 43]) (rest := []) ⟨hx, hb, hml, hown, hts⟩ (sx_X12_isSign l G ad I30 J8 ⟨(by show 0 ≤ (I30 0 36).toInt ∧ (I30 0 36).toInt ≤ 4; rw [eI30, z_up_n (by decide)]; exact k13), (by show 0 ≤ (I30 0 42).toInt ∧ (I30 0 42).toInt ≤ 1; rw [eI30, z_up_n (by decide)]; exact k14)⟩ 43 _) (cwV 1 hts gX12_sums_X12_isSign rfl rfl rfl hy_X12_isSign ⟨Nat.le_of_ble_eq_true rfl, Nat.le_of_ble_eq_true rfl⟩) (z_preV (i := 0) hK hW rfl rfl) rfl rfl hl.1 rfl (lv_room (Nat.le_of_ble_eq_true rfl)) dX12_sums_79 ⟨Nat.le_of_ble_eq_true rfl, Nat.le_of_ble_eq_true rfl⟩) (fun r u1 H locs hp hW hS => ?_)
      obtain ⟨e9, hp⟩ := hp
      rw [e9] at hW
      rcases hp with ⟨rfl, h34⟩ | rfl
      · rw [show (I30 0 36) = (I6 0 36) from by rw [eI30, z_up_n (by decide)]] at h34
        have h35 : (I6 0 35).toInt + 1 ≤ (I6 0 34).toInt := by omega
        refine lv_if_eq (tgt := 89) hx hb dX12_sums_82 (by decide) (fun c36 => absurd c36 (by decide)) (fun c36 => ?_)
        refine lv_iconst (v := 2) hx hb dX12_sums_85 (by decide) ?_
        refine lv_goto (tgt := 133) hx hb dX12_sums_86 (by decide) ?_
        refine lv_istore_n (lv' := [(3, .int 2), (0, .ref (ad 0)), (1, .int a1), (2, .int 1)]) hx hb dX12_sums_133 rfl hl (by decide) rfl (fun ls hl => ?_)
        refine lv_iload_n hx hb dX12_sums_134 rfl (lv_at hl 0 rfl) ?_
        refine lv_if_le (tgt := 165) hx hb dX12_sums_135 (by decide) (fun c37 => absurd c37 (by decide)) (fun c37 => ?_)
        refine lv_aload_n hx hb dX12_sums_138 rfl (lv_at hl 1 rfl) ?_
        refine z_cv hW hS hA (va_runV (As := []) (rest := []) ⟨hx, hb, hml, hown, hts⟩ (sx_X12_next l G ad I30 J8 ⟨(by show 0 ≤ (I30 0 31).toInt ∧ (I30 0 31).toInt ≤ 500; rw [eI30, z_up_n (by decide)]; exact k9), (by show 0 ≤ (I30 0 33).toInt ∧ (I30 0 33).toInt ≤ 500; rw [eI30, z_up_n (by decide)]; exact k10), (by show 0 ≤ (I30 0 34).toInt ∧ (I30 0 34).toInt ≤ 500; rw [eI30, z_up_n (by decide)]; exact k11), (by show 0 ≤ (I30 0 35).toInt ∧ (I30 0 35).toInt ≤ 500; rw [eI30, z_up_n (by decide)]; exact k12)⟩ ⟨(by show 0 ≤ (I30 0 36).toInt ∧ (I30 0 36).toInt ≤ 4; rw [eI30, z_up_n (by decide)]; exact k13), (by show 0 ≤ (I30 0 42).toInt ∧ (I30 0 42).toInt ≤ 1; rw [eI30, z_up_n (by decide)]; exact k14)⟩ (by have q0 : (I30 0 34) = (I6 0 34) := (by rw [eI30, z_up_n (by decide)]); have q1 : (I30 0 33) = (I6 0 33) := (by rw [eI30, z_up_n (by decide)]); show 0 ≤ (I30 0 34).toInt ∧ (I30 0 34).toInt ≤ (I30 0 33).toInt ∧ (I30 0 33).toInt ≤ 500; rw [q0, q1]; first | omega | decide)  _) (cwV 0 hts gX12_sums_X12_next rfl rfl rfl hy_X12_next ⟨Nat.le_of_ble_eq_true rfl, Nat.le_of_ble_eq_true rfl⟩) (z_preV (i := 0) hK hW rfl rfl) rfl rfl hl.1 rfl (lv_room (Nat.le_of_ble_eq_true rfl)) dX12_sums_139 ⟨Nat.le_of_ble_eq_true rfl, Nat.le_of_ble_eq_true rfl⟩) (fun u1 H locs hp hW hS => ?_)
        obtain ⟨I38, J40, e9, hI38mp, hI38mt, hI38rp, fI38, hp⟩ := hp
        rw [e9] at hW
        have f39 := z_fr_sub (L := L_X12_sums_1) f31 fI38 (by decide)
        have k41 : 0 ≤ (I38 0 47).toInt ∧ (I38 0 47).toInt ≤ 119 := by rw [fI38 0 47 (by decide)]; exact (by show 0 ≤ (I30 0 47).toInt ∧ (I30 0 47).toInt ≤ 119; rw [eI30, z_up_n (by decide)]; exact k15)
        have k42 : 0 ≤ (I38 0 39).toInt ∧ (I38 0 39).toInt ≤ 100 := by rw [fI38 0 39 (by decide)]; exact (by show 0 ≤ (I30 0 39).toInt ∧ (I30 0 39).toInt ≤ 100; rw [eI30, z_up_n (by decide)]; exact k16)
        have k43 : 0 ≤ (I38 0 40).toInt ∧ (I38 0 40).toInt ≤ 6199 := by rw [fI38 0 40 (by decide)]; exact (by show 0 ≤ (I30 0 40).toInt ∧ (I30 0 40).toInt ≤ 6199; rw [eI30, z_up_n (by decide)]; exact k17)
        have k44 : 0 ≤ (I38 0 15).toInt ∧ (I38 0 15).toInt ≤ 6100 := by rw [fI38 0 15 (by decide)]; exact (by show 0 ≤ (I30 0 15).toInt ∧ (I30 0 15).toInt ≤ 6100; rw [eI30, z_up_n (by decide)]; exact hI6mn)
        have k45 : 0 ≤ (I38 0 35).toInt ∧ (I38 0 35).toInt ≤ (I38 0 34).toInt ∧ (I38 0 34).toInt ≤ (I38 0 33).toInt ∧ (I38 0 33).toInt ≤ 500 ∧ ((I38 0 36).toInt = 0 ∨ (I38 0 35).toInt + 1 ≤ (I38 0 34).toInt) := hI38rp
        have k46 : (I38 0 42).toInt = (I6 0 42).toInt := by rw [fI38 0 42 (by decide), eI30, z_up_n (by decide)]
        have k47 : (I38 0 47).toInt = (I6 0 47).toInt := by rw [fI38 0 47 (by decide), eI30, z_up_n (by decide)]
        have k48 : (I38 0 39).toInt = (I6 0 39).toInt := by rw [fI38 0 39 (by decide), eI30, z_up_n (by decide)]
        have k49 : (I38 0 15).toInt = (I6 0 15).toInt := by rw [fI38 0 15 (by decide), eI30, z_up_n (by decide)]
        have k50 : (I38 0 40).toInt = (I6 0 40).toInt := by rw [fI38 0 40 (by decide), eI30, z_up_n (by decide)]
        have h51 := hp
        rw [show (I30 0 34) = (I6 0 34) from by rw [eI30, z_up_n (by decide)]] at h51
        refine lv_aload_n hx hb dX12_sums_142 rfl (lv_at hl 1 rfl) ?_
        refine z_get (T := TX12) (N := 96) (ci := 12) (i := 0) (v := .ref (ad 29)) hx hb hts zj_X12_sums_X12 hown hK hW rfl rfl 46 (by decide) (hts (.fieldLink RX12 100 "PetrolBoardModel" "sort" "[I") (me_s (me_l (me_l (List.mem_of_getElem? (i := 3) rfl))))) (fun _ h => h) rfl dX12_sums_143 ?_
        refine lv_iload_n hx hb dX12_sums_146 rfl (lv_at hl 2 rfl) ?_
        refine lv_iload_n hx hb dX12_sums_147 rfl (lv_at hl 0 rfl) ?_
        refine z_iast (i := 29) hx hb hK hW hS rfl (z_ix rfl (by omega) (by omega)) dX12_sums_148 (fun H locs hz1 hW hS => ?_)
        obtain ⟨I52, eI52⟩ : ∃ K : z_I, K = z_up I38 29 a1.toNatClampNeg 2 := ⟨_, rfl⟩
        rw [← eI52] at hW
        have f53 := z_fr_a f39 (show z_wa L_X12_sums_1 29 = true by decide) eI52
        have a54 := z_Nd_n (z_Nd_fr a32 fI38 (by decide)) (by decide) eI52
        refine lv_aload_n hx hb dX12_sums_149 rfl (lv_at hl 1 rfl) ?_
        refine lv_iload_n hx hb dX12_sums_150 rfl (lv_at hl 3 rfl) ?_
        refine lv_if_eq (tgt := 158) hx hb dX12_sums_151 (by decide) (fun c55 => absurd c55 (by decide)) (fun c55 => ?_)
        refine lv_iconst (v := 1) hx hb dX12_sums_154 (by decide) ?_
        refine lv_goto (tgt := 159) hx hb dX12_sums_155 (by decide) ?_
        refine z_cv hW hS hA (va_runV (As := [.int 1]) (rest := []) ⟨hx, hb, hml, hown, hts⟩ (sx_X12_begin l G ad I52 J40 ⟨(by show 0 ≤ (I52 0 47).toInt ∧ (I52 0 47).toInt ≤ 119; rw [eI52, z_up_n (by decide)]; exact k41), (by show 0 ≤ (I52 0 39).toInt ∧ (I52 0 39).toInt ≤ 100; rw [eI52, z_up_n (by decide)]; exact k42)⟩ 1 (by have q0 : (I52 0 47) = (I38 0 47) := (by rw [eI52, z_up_n (by decide)]); show (I52 0 47).toInt ≤ 118; rw [q0]; omega) _) (cwV 1 hts gX12_sums_X12_begin rfl rfl rfl hy_X12_begin ⟨Nat.le_of_ble_eq_true rfl, Nat.le_of_ble_eq_true rfl⟩) (z_preV (i := 0) hK hW rfl rfl) rfl rfl hl.1 rfl (lv_room (Nat.le_of_ble_eq_true rfl)) dX12_sums_159 ⟨Nat.le_of_ble_eq_true rfl, Nat.le_of_ble_eq_true rfl⟩) (fun u1 H locs hp hW hS => ?_)
        obtain ⟨I56, J58, e9, hI56md, fI56, hp⟩ := hp
        rw [e9] at hW
        have f57 := z_fr_sub (L := L_X12_sums_1) f53 fI56 (by decide)
        have k59 : 0 ≤ (I56 0 31).toInt ∧ (I56 0 31).toInt ≤ 500 := by rw [fI56 0 31 (by decide)]; exact (by show 0 ≤ (I52 0 31).toInt ∧ (I52 0 31).toInt ≤ 500; rw [eI52, z_up_n (by decide)]; exact hI38mp.1)
        have k60 : 0 ≤ (I56 0 33).toInt ∧ (I56 0 33).toInt ≤ 500 := by rw [fI56 0 33 (by decide)]; exact (by show 0 ≤ (I52 0 33).toInt ∧ (I52 0 33).toInt ≤ 500; rw [eI52, z_up_n (by decide)]; exact hI38mp.2.1)
        have k61 : 0 ≤ (I56 0 34).toInt ∧ (I56 0 34).toInt ≤ 500 := by rw [fI56 0 34 (by decide)]; exact (by show 0 ≤ (I52 0 34).toInt ∧ (I52 0 34).toInt ≤ 500; rw [eI52, z_up_n (by decide)]; exact hI38mp.2.2.1)
        have k62 : 0 ≤ (I56 0 35).toInt ∧ (I56 0 35).toInt ≤ 500 := by rw [fI56 0 35 (by decide)]; exact (by show 0 ≤ (I52 0 35).toInt ∧ (I52 0 35).toInt ≤ 500; rw [eI52, z_up_n (by decide)]; exact hI38mp.2.2.2)
        have k63 : 0 ≤ (I56 0 36).toInt ∧ (I56 0 36).toInt ≤ 4 := by rw [fI56 0 36 (by decide)]; exact (by show 0 ≤ (I52 0 36).toInt ∧ (I52 0 36).toInt ≤ 4; rw [eI52, z_up_n (by decide)]; exact hI38mt.1)
        have k64 : 0 ≤ (I56 0 42).toInt ∧ (I56 0 42).toInt ≤ 1 := by rw [fI56 0 42 (by decide)]; exact (by show 0 ≤ (I52 0 42).toInt ∧ (I52 0 42).toInt ≤ 1; rw [eI52, z_up_n (by decide)]; exact hI38mt.2)
        have k65 : 0 ≤ (I56 0 40).toInt ∧ (I56 0 40).toInt ≤ 6199 := by rw [fI56 0 40 (by decide)]; exact (by show 0 ≤ (I52 0 40).toInt ∧ (I52 0 40).toInt ≤ 6199; rw [eI52, z_up_n (by decide)]; exact k43)
        have k66 : 0 ≤ (I56 0 15).toInt ∧ (I56 0 15).toInt ≤ 6100 := by rw [fI56 0 15 (by decide)]; exact (by show 0 ≤ (I52 0 15).toInt ∧ (I52 0 15).toInt ≤ 6100; rw [eI52, z_up_n (by decide)]; exact k44)
        have k67 : 0 ≤ (I56 0 35).toInt ∧ (I56 0 35).toInt ≤ (I56 0 34).toInt ∧ (I56 0 34).toInt ≤ (I56 0 33).toInt ∧ (I56 0 33).toInt ≤ 500 ∧ ((I56 0 36).toInt = 0 ∨ (I56 0 35).toInt + 1 ≤ (I56 0 34).toInt) := (by have q0 : (I56 0 35) = (I38 0 35) := (by rw [fI56 0 35 (by decide), eI52, z_up_n (by decide)]); have q1 : (I56 0 34) = (I38 0 34) := (by rw [fI56 0 34 (by decide), eI52, z_up_n (by decide)]); have q2 : (I56 0 33) = (I38 0 33) := (by rw [fI56 0 33 (by decide), eI52, z_up_n (by decide)]); have q3 : (I56 0 36) = (I38 0 36) := (by rw [fI56 0 36 (by decide), eI52, z_up_n (by decide)]); show 0 ≤ (I56 0 35).toInt ∧ (I56 0 35).toInt ≤ (I56 0 34).toInt ∧ (I56 0 34).toInt ≤ (I56 0 33).toInt ∧ (I56 0 33).toInt ≤ 500 ∧ ((I56 0 36).toInt = 0 ∨ (I56 0 35).toInt + 1 ≤ (I56 0 34).toInt); rw [q0, q1, q2, q3]; first | omega | decide)
        have k68 : (I56 0 35).toInt = (I38 0 35).toInt := by rw [fI56 0 35 (by decide), eI52, z_up_n (by decide)]
        have k69 : (I56 0 34).toInt = (I38 0 34).toInt := by rw [fI56 0 34 (by decide), eI52, z_up_n (by decide)]
        have k70 : (I56 0 36).toInt = (I38 0 36).toInt := by rw [fI56 0 36 (by decide), eI52, z_up_n (by decide)]
        have k71 : (I56 0 42).toInt = (I38 0 42).toInt := by rw [fI56 0 42 (by decide), eI52, z_up_n (by decide)]
        have k72 : (I56 0 39).toInt = (I38 0 39).toInt := by rw [fI56 0 39 (by decide), eI52, z_up_n (by decide)]
        have k73 : (I56 0 15).toInt = (I38 0 15).toInt := by rw [fI56 0 15 (by decide), eI52, z_up_n (by decide)]
        have k74 : (I56 0 40).toInt = (I38 0 40).toInt := by rw [fI56 0 40 (by decide), eI52, z_up_n (by decide)]
        have h75 := hp
        refine lv_goto (tgt := 175) hx hb dX12_sums_162 (by decide) ?_
        exact z_vret hx hb hr hK hS (Nat.le_of_ble_eq_true rfl) (Nat.le_of_ble_eq_true rfl) hlocks dX12_sums_175 (shM, ad, I56, J58, PM ad) hW ⟨I56, J58, rfl, ⟨(by show 0 ≤ (I56 0 31).toInt ∧ (I56 0 31).toInt ≤ 500; exact k59), (by show 0 ≤ (I56 0 33).toInt ∧ (I56 0 33).toInt ≤ 500; exact k60), (by show 0 ≤ (I56 0 34).toInt ∧ (I56 0 34).toInt ≤ 500; exact k61), (by show 0 ≤ (I56 0 35).toInt ∧ (I56 0 35).toInt ≤ 500; exact k62)⟩, ⟨(by show 0 ≤ (I56 0 36).toInt ∧ (I56 0 36).toInt ≤ 4; exact k63), (by show 0 ≤ (I56 0 42).toInt ∧ (I56 0 42).toInt ≤ 1; exact k64)⟩, ⟨(by show 0 ≤ (I56 0 47).toInt ∧ (I56 0 47).toInt ≤ 119; exact hI56md.1), (by show 0 ≤ (I56 0 39).toInt ∧ (I56 0 39).toInt ≤ 100; exact hI56md.2)⟩, (by show 0 ≤ (I56 0 40).toInt ∧ (I56 0 40).toInt ≤ 6199; exact k65), (by show 0 ≤ (I56 0 15).toInt ∧ (I56 0 15).toInt ≤ 6100; exact k66), (z_Nd_fr a54 fI56 (by decide)), (by show 0 ≤ (I56 0 35).toInt ∧ (I56 0 35).toInt ≤ (I56 0 34).toInt ∧ (I56 0 34).toInt ≤ (I56 0 33).toInt ∧ (I56 0 33).toInt ≤ 500 ∧ ((I56 0 36).toInt = 0 ∨ (I56 0 35).toInt + 1 ≤ (I56 0 34).toInt); first | omega | decide), f57, ((Classical.em ((I56 0 42).toInt = 0)).elim (fun hw9 => Or.inr ⟨a1.toNatClampNeg + 2, by have w1 := z_fw_0np (a := va.toInt) (o := vo.toInt) (by omega) (by omega); have w2 := z_fo_0n (a := va.toInt); have w3 := z_fw_0np (a := va.toInt) (o := x26.toInt) (by omega) (by omega); have w4 := z_fo_0n (a := va.toInt); have w5 := z_fw_10 (a := 0) (o := -1) (by omega); have w6 := z_rk_0; have w7 := z_rk_1; exact z_PUSH (d := a1.toNatClampNeg) (w := 0) (a := va.toInt) (o := x26.toInt) (s := 2) (wi := 1) hPS (fun i hi => ⟨by rw [eI52, z_up_n (by decide), fI38 26 i (z_wr_c (by decide)), eI30, z_up_n (by decide), fI6 26 i (z_wr_c (by decide))], by rw [eI52, z_up_n (by decide), fI38 27 i (z_wr_c (by decide)), eI30, z_up_n (by decide), fI6 27 i (z_wr_c (by decide))], by rw [eI52, z_up_n (by decide), fI38 28 i (z_wr_c (by decide)), eI30, z_up_k (by omega), fI6 28 i (z_wr_c (by decide))], by rw [eI52, z_up_k (by omega), fI38 29 i (z_wr_c (by decide)), eI30, z_up_n (by decide), fI6 29 i (z_wr_c (by decide))]⟩) (by rw [show I52 26 a1.toNatClampNeg = vw from (by rw [eI52, z_up_n (by decide), fI38 26 a1.toNatClampNeg (z_wr_c (by decide)), eI30, z_up_n (by decide), fI6 26 a1.toNatClampNeg (z_wr_c (by decide))]; exact evw.symm)]; exact hvw) (by rw [show I52 27 a1.toNatClampNeg = va from (by rw [eI52, z_up_n (by decide), fI38 27 a1.toNatClampNeg (z_wr_c (by decide)), eI30, z_up_n (by decide), fI6 27 a1.toNatClampNeg (z_wr_c (by decide))]; exact eva.symm)]) (by rw [show I52 28 a1.toNatClampNeg = x26 from (by rw [eI52, z_up_n (by decide), fI38 28 a1.toNatClampNeg (z_wr_c (by decide)), eI30, z_up_s])]) (by rw [show I52 29 a1.toNatClampNeg = 2 from (by rw [eI52, z_up_s])]; exact z_l2) (by unfold z_fv; omega) hwd (by rw [eI52, z_up_n (by decide)]; omega) h75 z_l1 (by omega) (by omega) (by omega) (by omega) (by omega) (by omega) (by omega) (by omega)⟩) Or.inl)⟩
      · refine lv_if_eq (tgt := 89) hx hb dX12_sums_82 (by decide) (fun c76 => ?_) (fun c76 => absurd (by decide) c76)
        refine lv_aload_n hx hb dX12_sums_89 rfl (lv_at hl 0 rfl) ?_
        refine lv_bipush (v := 45) hx hb dX12_sums_90 (by decide) ?_
        refine z_ci hW hS hA (va_runV (As := [.int 45]) (rest := []) ⟨hx, hb, hml, hown, hts⟩ (sx_X12_isSign l G ad I30 J8 ⟨(by show 0 ≤ (I30 0 36).toInt ∧ (I30 0 36).toInt ≤ 4; rw [eI30, z_up_n (by decide)]; exact k13), (by show 0 ≤ (I30 0 42).toInt ∧ (I30 0 42).toInt ≤ 1; rw [eI30, z_up_n (by decide)]; exact k14)⟩ 45 _) (cwV 1 hts gX12_sums_X12_isSign rfl rfl rfl hy_X12_isSign ⟨Nat.le_of_ble_eq_true rfl, Nat.le_of_ble_eq_true rfl⟩) (z_preV (i := 0) hK hW rfl rfl) rfl rfl hl.1 rfl (lv_room (Nat.le_of_ble_eq_true rfl)) dX12_sums_92 ⟨Nat.le_of_ble_eq_true rfl, Nat.le_of_ble_eq_true rfl⟩) (fun r u1 H locs hp hW hS => ?_)
        obtain ⟨e9, hp⟩ := hp
        rw [e9] at hW
        rcases hp with ⟨rfl, h77⟩ | rfl
        · rw [show (I30 0 36) = (I6 0 36) from by rw [eI30, z_up_n (by decide)]] at h77
          have h78 : (I6 0 35).toInt + 1 ≤ (I6 0 34).toInt := by omega
          refine lv_if_eq (tgt := 102) hx hb dX12_sums_95 (by decide) (fun c79 => absurd c79 (by decide)) (fun c79 => ?_)
          refine lv_iconst (v := 3) hx hb dX12_sums_98 (by decide) ?_
          refine lv_goto (tgt := 133) hx hb dX12_sums_99 (by decide) ?_
          refine lv_istore_n (lv' := [(3, .int 3), (0, .ref (ad 0)), (1, .int a1), (2, .int 1)]) hx hb dX12_sums_133 rfl hl (by decide) rfl (fun ls hl => ?_)
          refine lv_iload_n hx hb dX12_sums_134 rfl (lv_at hl 0 rfl) ?_
          refine lv_if_le (tgt := 165) hx hb dX12_sums_135 (by decide) (fun c80 => absurd c80 (by decide)) (fun c80 => ?_)
          refine lv_aload_n hx hb dX12_sums_138 rfl (lv_at hl 1 rfl) ?_
          refine z_cv hW hS hA (va_runV (As := []) (rest := []) ⟨hx, hb, hml, hown, hts⟩ (sx_X12_next l G ad I30 J8 ⟨(by show 0 ≤ (I30 0 31).toInt ∧ (I30 0 31).toInt ≤ 500; rw [eI30, z_up_n (by decide)]; exact k9), (by show 0 ≤ (I30 0 33).toInt ∧ (I30 0 33).toInt ≤ 500; rw [eI30, z_up_n (by decide)]; exact k10), (by show 0 ≤ (I30 0 34).toInt ∧ (I30 0 34).toInt ≤ 500; rw [eI30, z_up_n (by decide)]; exact k11), (by show 0 ≤ (I30 0 35).toInt ∧ (I30 0 35).toInt ≤ 500; rw [eI30, z_up_n (by decide)]; exact k12)⟩ ⟨(by show 0 ≤ (I30 0 36).toInt ∧ (I30 0 36).toInt ≤ 4; rw [eI30, z_up_n (by decide)]; exact k13), (by show 0 ≤ (I30 0 42).toInt ∧ (I30 0 42).toInt ≤ 1; rw [eI30, z_up_n (by decide)]; exact k14)⟩ (by have q0 : (I30 0 34) = (I6 0 34) := (by rw [eI30, z_up_n (by decide)]); have q1 : (I30 0 33) = (I6 0 33) := (by rw [eI30, z_up_n (by decide)]); show 0 ≤ (I30 0 34).toInt ∧ (I30 0 34).toInt ≤ (I30 0 33).toInt ∧ (I30 0 33).toInt ≤ 500; rw [q0, q1]; first | omega | decide)  _) (cwV 0 hts gX12_sums_X12_next rfl rfl rfl hy_X12_next ⟨Nat.le_of_ble_eq_true rfl, Nat.le_of_ble_eq_true rfl⟩) (z_preV (i := 0) hK hW rfl rfl) rfl rfl hl.1 rfl (lv_room (Nat.le_of_ble_eq_true rfl)) dX12_sums_139 ⟨Nat.le_of_ble_eq_true rfl, Nat.le_of_ble_eq_true rfl⟩) (fun u1 H locs hp hW hS => ?_)
          obtain ⟨I81, J83, e9, hI81mp, hI81mt, hI81rp, fI81, hp⟩ := hp
          rw [e9] at hW
          have f82 := z_fr_sub (L := L_X12_sums_1) f31 fI81 (by decide)
          have k84 : 0 ≤ (I81 0 47).toInt ∧ (I81 0 47).toInt ≤ 119 := by rw [fI81 0 47 (by decide)]; exact (by show 0 ≤ (I30 0 47).toInt ∧ (I30 0 47).toInt ≤ 119; rw [eI30, z_up_n (by decide)]; exact k15)
          have k85 : 0 ≤ (I81 0 39).toInt ∧ (I81 0 39).toInt ≤ 100 := by rw [fI81 0 39 (by decide)]; exact (by show 0 ≤ (I30 0 39).toInt ∧ (I30 0 39).toInt ≤ 100; rw [eI30, z_up_n (by decide)]; exact k16)
          have k86 : 0 ≤ (I81 0 40).toInt ∧ (I81 0 40).toInt ≤ 6199 := by rw [fI81 0 40 (by decide)]; exact (by show 0 ≤ (I30 0 40).toInt ∧ (I30 0 40).toInt ≤ 6199; rw [eI30, z_up_n (by decide)]; exact k17)
          have k87 : 0 ≤ (I81 0 15).toInt ∧ (I81 0 15).toInt ≤ 6100 := by rw [fI81 0 15 (by decide)]; exact (by show 0 ≤ (I30 0 15).toInt ∧ (I30 0 15).toInt ≤ 6100; rw [eI30, z_up_n (by decide)]; exact hI6mn)
          have k88 : 0 ≤ (I81 0 35).toInt ∧ (I81 0 35).toInt ≤ (I81 0 34).toInt ∧ (I81 0 34).toInt ≤ (I81 0 33).toInt ∧ (I81 0 33).toInt ≤ 500 ∧ ((I81 0 36).toInt = 0 ∨ (I81 0 35).toInt + 1 ≤ (I81 0 34).toInt) := hI81rp
          have k89 : (I81 0 42).toInt = (I6 0 42).toInt := by rw [fI81 0 42 (by decide), eI30, z_up_n (by decide)]
          have k90 : (I81 0 47).toInt = (I6 0 47).toInt := by rw [fI81 0 47 (by decide), eI30, z_up_n (by decide)]
          have k91 : (I81 0 39).toInt = (I6 0 39).toInt := by rw [fI81 0 39 (by decide), eI30, z_up_n (by decide)]
          have k92 : (I81 0 15).toInt = (I6 0 15).toInt := by rw [fI81 0 15 (by decide), eI30, z_up_n (by decide)]
          have k93 : (I81 0 40).toInt = (I6 0 40).toInt := by rw [fI81 0 40 (by decide), eI30, z_up_n (by decide)]
          have h94 := hp
          rw [show (I30 0 34) = (I6 0 34) from by rw [eI30, z_up_n (by decide)]] at h94
          refine lv_aload_n hx hb dX12_sums_142 rfl (lv_at hl 1 rfl) ?_
          refine z_get (T := TX12) (N := 96) (ci := 12) (i := 0) (v := .ref (ad 29)) hx hb hts zj_X12_sums_X12 hown hK hW rfl rfl 46 (by decide) (hts (.fieldLink RX12 100 "PetrolBoardModel" "sort" "[I") (me_s (me_l (me_l (List.mem_of_getElem? (i := 3) rfl))))) (fun _ h => h) rfl dX12_sums_143 ?_
          refine lv_iload_n hx hb dX12_sums_146 rfl (lv_at hl 2 rfl) ?_
          refine lv_iload_n hx hb dX12_sums_147 rfl (lv_at hl 0 rfl) ?_
          refine z_iast (i := 29) hx hb hK hW hS rfl (z_ix rfl (by omega) (by omega)) dX12_sums_148 (fun H locs hz1 hW hS => ?_)
          obtain ⟨I95, eI95⟩ : ∃ K : z_I, K = z_up I81 29 a1.toNatClampNeg 3 := ⟨_, rfl⟩
          rw [← eI95] at hW
          have f96 := z_fr_a f82 (show z_wa L_X12_sums_1 29 = true by decide) eI95
          have a97 := z_Nd_n (z_Nd_fr a32 fI81 (by decide)) (by decide) eI95
          refine lv_aload_n hx hb dX12_sums_149 rfl (lv_at hl 1 rfl) ?_
          refine lv_iload_n hx hb dX12_sums_150 rfl (lv_at hl 3 rfl) ?_
          refine lv_if_eq (tgt := 158) hx hb dX12_sums_151 (by decide) (fun c98 => absurd c98 (by decide)) (fun c98 => ?_)
          refine lv_iconst (v := 1) hx hb dX12_sums_154 (by decide) ?_
          refine lv_goto (tgt := 159) hx hb dX12_sums_155 (by decide) ?_
          refine z_cv hW hS hA (va_runV (As := [.int 1]) (rest := []) ⟨hx, hb, hml, hown, hts⟩ (sx_X12_begin l G ad I95 J83 ⟨(by show 0 ≤ (I95 0 47).toInt ∧ (I95 0 47).toInt ≤ 119; rw [eI95, z_up_n (by decide)]; exact k84), (by show 0 ≤ (I95 0 39).toInt ∧ (I95 0 39).toInt ≤ 100; rw [eI95, z_up_n (by decide)]; exact k85)⟩ 1 (by have q0 : (I95 0 47) = (I81 0 47) := (by rw [eI95, z_up_n (by decide)]); show (I95 0 47).toInt ≤ 118; rw [q0]; omega) _) (cwV 1 hts gX12_sums_X12_begin rfl rfl rfl hy_X12_begin ⟨Nat.le_of_ble_eq_true rfl, Nat.le_of_ble_eq_true rfl⟩) (z_preV (i := 0) hK hW rfl rfl) rfl rfl hl.1 rfl (lv_room (Nat.le_of_ble_eq_true rfl)) dX12_sums_159 ⟨Nat.le_of_ble_eq_true rfl, Nat.le_of_ble_eq_true rfl⟩) (fun u1 H locs hp hW hS => ?_)
          obtain ⟨I99, J101, e9, hI99md, fI99, hp⟩ := hp
          rw [e9] at hW
          have f100 := z_fr_sub (L := L_X12_sums_1) f96 fI99 (by decide)
          have k102 : 0 ≤ (I99 0 31).toInt ∧ (I99 0 31).toInt ≤ 500 := by rw [fI99 0 31 (by decide)]; exact (by show 0 ≤ (I95 0 31).toInt ∧ (I95 0 31).toInt ≤ 500; rw [eI95, z_up_n (by decide)]; exact hI81mp.1)
          have k103 : 0 ≤ (I99 0 33).toInt ∧ (I99 0 33).toInt ≤ 500 := by rw [fI99 0 33 (by decide)]; exact (by show 0 ≤ (I95 0 33).toInt ∧ (I95 0 33).toInt ≤ 500; rw [eI95, z_up_n (by decide)]; exact hI81mp.2.1)
          have k104 : 0 ≤ (I99 0 34).toInt ∧ (I99 0 34).toInt ≤ 500 := by rw [fI99 0 34 (by decide)]; exact (by show 0 ≤ (I95 0 34).toInt ∧ (I95 0 34).toInt ≤ 500; rw [eI95, z_up_n (by decide)]; exact hI81mp.2.2.1)
          have k105 : 0 ≤ (I99 0 35).toInt ∧ (I99 0 35).toInt ≤ 500 := by rw [fI99 0 35 (by decide)]; exact (by show 0 ≤ (I95 0 35).toInt ∧ (I95 0 35).toInt ≤ 500; rw [eI95, z_up_n (by decide)]; exact hI81mp.2.2.2)
          have k106 : 0 ≤ (I99 0 36).toInt ∧ (I99 0 36).toInt ≤ 4 := by rw [fI99 0 36 (by decide)]; exact (by show 0 ≤ (I95 0 36).toInt ∧ (I95 0 36).toInt ≤ 4; rw [eI95, z_up_n (by decide)]; exact hI81mt.1)
          have k107 : 0 ≤ (I99 0 42).toInt ∧ (I99 0 42).toInt ≤ 1 := by rw [fI99 0 42 (by decide)]; exact (by show 0 ≤ (I95 0 42).toInt ∧ (I95 0 42).toInt ≤ 1; rw [eI95, z_up_n (by decide)]; exact hI81mt.2)
          have k108 : 0 ≤ (I99 0 40).toInt ∧ (I99 0 40).toInt ≤ 6199 := by rw [fI99 0 40 (by decide)]; exact (by show 0 ≤ (I95 0 40).toInt ∧ (I95 0 40).toInt ≤ 6199; rw [eI95, z_up_n (by decide)]; exact k86)
          have k109 : 0 ≤ (I99 0 15).toInt ∧ (I99 0 15).toInt ≤ 6100 := by rw [fI99 0 15 (by decide)]; exact (by show 0 ≤ (I95 0 15).toInt ∧ (I95 0 15).toInt ≤ 6100; rw [eI95, z_up_n (by decide)]; exact k87)
          have k110 : 0 ≤ (I99 0 35).toInt ∧ (I99 0 35).toInt ≤ (I99 0 34).toInt ∧ (I99 0 34).toInt ≤ (I99 0 33).toInt ∧ (I99 0 33).toInt ≤ 500 ∧ ((I99 0 36).toInt = 0 ∨ (I99 0 35).toInt + 1 ≤ (I99 0 34).toInt) := (by have q0 : (I99 0 35) = (I81 0 35) := (by rw [fI99 0 35 (by decide), eI95, z_up_n (by decide)]); have q1 : (I99 0 34) = (I81 0 34) := (by rw [fI99 0 34 (by decide), eI95, z_up_n (by decide)]); have q2 : (I99 0 33) = (I81 0 33) := (by rw [fI99 0 33 (by decide), eI95, z_up_n (by decide)]); have q3 : (I99 0 36) = (I81 0 36) := (by rw [fI99 0 36 (by decide), eI95, z_up_n (by decide)]); show 0 ≤ (I99 0 35).toInt ∧ (I99 0 35).toInt ≤ (I99 0 34).toInt ∧ (I99 0 34).toInt ≤ (I99 0 33).toInt ∧ (I99 0 33).toInt ≤ 500 ∧ ((I99 0 36).toInt = 0 ∨ (I99 0 35).toInt + 1 ≤ (I99 0 34).toInt); rw [q0, q1, q2, q3]; first | omega | decide)
          have k111 : (I99 0 35).toInt = (I81 0 35).toInt := by rw [fI99 0 35 (by decide), eI95, z_up_n (by decide)]
          have k112 : (I99 0 34).toInt = (I81 0 34).toInt := by rw [fI99 0 34 (by decide), eI95, z_up_n (by decide)]
          have k113 : (I99 0 36).toInt = (I81 0 36).toInt := by rw [fI99 0 36 (by decide), eI95, z_up_n (by decide)]
          have k114 : (I99 0 42).toInt = (I81 0 42).toInt := by rw [fI99 0 42 (by decide), eI95, z_up_n (by decide)]
          have k115 : (I99 0 39).toInt = (I81 0 39).toInt := by rw [fI99 0 39 (by decide), eI95, z_up_n (by decide)]
          have k116 : (I99 0 15).toInt = (I81 0 15).toInt := by rw [fI99 0 15 (by decide), eI95, z_up_n (by decide)]
          have k117 : (I99 0 40).toInt = (I81 0 40).toInt := by rw [fI99 0 40 (by decide), eI95, z_up_n (by decide)]
          have h118 := hp
          refine lv_goto (tgt := 175) hx hb dX12_sums_162 (by decide) ?_
          exact z_vret hx hb hr hK hS (Nat.le_of_ble_eq_true rfl) (Nat.le_of_ble_eq_true rfl) hlocks dX12_sums_175 (shM, ad, I99, J101, PM ad) hW ⟨I99, J101, rfl, ⟨(by show 0 ≤ (I99 0 31).toInt ∧ (I99 0 31).toInt ≤ 500; exact k102), (by show 0 ≤ (I99 0 33).toInt ∧ (I99 0 33).toInt ≤ 500; exact k103), (by show 0 ≤ (I99 0 34).toInt ∧ (I99 0 34).toInt ≤ 500; exact k104), (by show 0 ≤ (I99 0 35).toInt ∧ (I99 0 35).toInt ≤ 500; exact k105)⟩, ⟨(by show 0 ≤ (I99 0 36).toInt ∧ (I99 0 36).toInt ≤ 4; exact k106), (by show 0 ≤ (I99 0 42).toInt ∧ (I99 0 42).toInt ≤ 1; exact k107)⟩, ⟨(by show 0 ≤ (I99 0 47).toInt ∧ (I99 0 47).toInt ≤ 119; exact hI99md.1), (by show 0 ≤ (I99 0 39).toInt ∧ (I99 0 39).toInt ≤ 100; exact hI99md.2)⟩, (by show 0 ≤ (I99 0 40).toInt ∧ (I99 0 40).toInt ≤ 6199; exact k108), (by show 0 ≤ (I99 0 15).toInt ∧ (I99 0 15).toInt ≤ 6100; exact k109), (z_Nd_fr a97 fI99 (by decide)), (by show 0 ≤ (I99 0 35).toInt ∧ (I99 0 35).toInt ≤ (I99 0 34).toInt ∧ (I99 0 34).toInt ≤ (I99 0 33).toInt ∧ (I99 0 33).toInt ≤ 500 ∧ ((I99 0 36).toInt = 0 ∨ (I99 0 35).toInt + 1 ≤ (I99 0 34).toInt); first | omega | decide), f100, ((Classical.em ((I99 0 42).toInt = 0)).elim (fun hw9 => Or.inr ⟨a1.toNatClampNeg + 2, by have w1 := z_fw_0np (a := va.toInt) (o := vo.toInt) (by omega) (by omega); have w2 := z_fo_0n (a := va.toInt); have w3 := z_fw_0np (a := va.toInt) (o := x26.toInt) (by omega) (by omega); have w4 := z_fo_0n (a := va.toInt); have w5 := z_fw_10 (a := 0) (o := -1) (by omega); have w6 := z_rk_0; have w7 := z_rk_1; exact z_PUSH (d := a1.toNatClampNeg) (w := 0) (a := va.toInt) (o := x26.toInt) (s := 3) (wi := 1) hPS (fun i hi => ⟨by rw [eI95, z_up_n (by decide), fI81 26 i (z_wr_c (by decide)), eI30, z_up_n (by decide), fI6 26 i (z_wr_c (by decide))], by rw [eI95, z_up_n (by decide), fI81 27 i (z_wr_c (by decide)), eI30, z_up_n (by decide), fI6 27 i (z_wr_c (by decide))], by rw [eI95, z_up_n (by decide), fI81 28 i (z_wr_c (by decide)), eI30, z_up_k (by omega), fI6 28 i (z_wr_c (by decide))], by rw [eI95, z_up_k (by omega), fI81 29 i (z_wr_c (by decide)), eI30, z_up_n (by decide), fI6 29 i (z_wr_c (by decide))]⟩) (by rw [show I95 26 a1.toNatClampNeg = vw from (by rw [eI95, z_up_n (by decide), fI81 26 a1.toNatClampNeg (z_wr_c (by decide)), eI30, z_up_n (by decide), fI6 26 a1.toNatClampNeg (z_wr_c (by decide))]; exact evw.symm)]; exact hvw) (by rw [show I95 27 a1.toNatClampNeg = va from (by rw [eI95, z_up_n (by decide), fI81 27 a1.toNatClampNeg (z_wr_c (by decide)), eI30, z_up_n (by decide), fI6 27 a1.toNatClampNeg (z_wr_c (by decide))]; exact eva.symm)]) (by rw [show I95 28 a1.toNatClampNeg = x26 from (by rw [eI95, z_up_n (by decide), fI81 28 a1.toNatClampNeg (z_wr_c (by decide)), eI30, z_up_s])]) (by rw [show I95 29 a1.toNatClampNeg = 3 from (by rw [eI95, z_up_s])]; exact z_l3) (by unfold z_fv; omega) hwd (by rw [eI95, z_up_n (by decide)]; omega) h118 z_l1 (by omega) (by omega) (by omega) (by omega) (by omega) (by omega) (by omega) (by omega)⟩) Or.inl)⟩
        · refine lv_if_eq (tgt := 102) hx hb dX12_sums_95 (by decide) (fun c119 => ?_) (fun c119 => absurd (by decide) c119)
          refine lv_iconst (v := 0) hx hb dX12_sums_102 (by decide) ?_
          refine lv_goto (tgt := 133) hx hb dX12_sums_103 (by decide) ?_
          refine lv_istore_n (lv' := [(3, .int 0), (0, .ref (ad 0)), (1, .int a1), (2, .int 1)]) hx hb dX12_sums_133 rfl hl (by decide) rfl (fun ls hl => ?_)
          refine lv_iload_n hx hb dX12_sums_134 rfl (lv_at hl 0 rfl) ?_
          refine lv_if_le (tgt := 165) hx hb dX12_sums_135 (by decide) (fun c120 => ?_) (fun c120 => absurd (by decide) c120)
          refine lv_aload_n hx hb dX12_sums_165 rfl (lv_at hl 1 rfl) ?_
          refine lv_aload_n hx hb dX12_sums_166 rfl (lv_at hl 1 rfl) ?_
          refine z_get (T := TX12) (N := 96) (ci := 12) (i := 0) (v := .ref (ad 28)) hx hb hts zj_X12_sums_X12 hown hK hW rfl rfl 45 (by decide) (hts (.fieldLink RX12 97 "PetrolBoardModel" "one" "[I") (me_s (me_l (me_l (List.mem_of_getElem? (i := 1) rfl))))) (fun _ h => h) rfl dX12_sums_167 ?_
          refine lv_iload_n hx hb dX12_sums_170 rfl (lv_at hl 2 rfl) ?_
          refine z_iald (i := 28) hx hb hK hW rfl (z_ix rfl (by omega) (by omega)) dX12_sums_171 ?_
          refine z_topi (v := x26) (by rw [eI30, z_up_s]) ?_
          refine z_cv hW hS hA (va_runV (As := [.int x26]) (rest := []) ⟨hx, hb, hml, hown, hts⟩ (sx_X12_ends l G ad I30 J8 ⟨(by show 0 ≤ (I30 0 47).toInt ∧ (I30 0 47).toInt ≤ 119; rw [eI30, z_up_n (by decide)]; exact k15), (by show 0 ≤ (I30 0 39).toInt ∧ (I30 0 39).toInt ≤ 100; rw [eI30, z_up_n (by decide)]; exact k16)⟩ (by show 0 ≤ (I30 0 40).toInt ∧ (I30 0 40).toInt ≤ 6199; rw [eI30, z_up_n (by decide)]; exact k17) x26 (by first | omega | decide) (by have q0 : (I30 0 47) = (I6 0 47) := (by rw [eI30, z_up_n (by decide)]); show 1 ≤ (I30 0 47).toInt; rw [q0]; omega) _) (cwV 1 hts gX12_sums_X12_ends rfl rfl rfl hy_X12_ends ⟨Nat.le_of_ble_eq_true rfl, Nat.le_of_ble_eq_true rfl⟩) (z_preV (i := 0) hK hW rfl rfl) rfl rfl hl.1 rfl (lv_room (Nat.le_of_ble_eq_true rfl)) dX12_sums_172 ⟨Nat.le_of_ble_eq_true rfl, Nat.le_of_ble_eq_true rfl⟩) (fun u1 H locs hp hW hS => ?_)
          obtain ⟨I121, J123, e9, hI121md, hI121mg, fI121, hp⟩ := hp
          rw [e9] at hW
          have f122 := z_fr_sub (L := L_X12_sums_1) f31 fI121 (by decide)
          have k124 : 0 ≤ (I121 0 31).toInt ∧ (I121 0 31).toInt ≤ 500 := by rw [fI121 0 31 (by decide)]; exact (by show 0 ≤ (I30 0 31).toInt ∧ (I30 0 31).toInt ≤ 500; rw [eI30, z_up_n (by decide)]; exact k9)
          have k125 : 0 ≤ (I121 0 33).toInt ∧ (I121 0 33).toInt ≤ 500 := by rw [fI121 0 33 (by decide)]; exact (by show 0 ≤ (I30 0 33).toInt ∧ (I30 0 33).toInt ≤ 500; rw [eI30, z_up_n (by decide)]; exact k10)
          have k126 : 0 ≤ (I121 0 34).toInt ∧ (I121 0 34).toInt ≤ 500 := by rw [fI121 0 34 (by decide)]; exact (by show 0 ≤ (I30 0 34).toInt ∧ (I30 0 34).toInt ≤ 500; rw [eI30, z_up_n (by decide)]; exact k11)
          have k127 : 0 ≤ (I121 0 35).toInt ∧ (I121 0 35).toInt ≤ 500 := by rw [fI121 0 35 (by decide)]; exact (by show 0 ≤ (I30 0 35).toInt ∧ (I30 0 35).toInt ≤ 500; rw [eI30, z_up_n (by decide)]; exact k12)
          have k128 : 0 ≤ (I121 0 36).toInt ∧ (I121 0 36).toInt ≤ 4 := by rw [fI121 0 36 (by decide)]; exact (by show 0 ≤ (I30 0 36).toInt ∧ (I30 0 36).toInt ≤ 4; rw [eI30, z_up_n (by decide)]; exact k13)
          have k129 : 0 ≤ (I121 0 42).toInt ∧ (I121 0 42).toInt ≤ 1 := by rw [fI121 0 42 (by decide)]; exact (by show 0 ≤ (I30 0 42).toInt ∧ (I30 0 42).toInt ≤ 1; rw [eI30, z_up_n (by decide)]; exact k14)
          have k130 : 0 ≤ (I121 0 15).toInt ∧ (I121 0 15).toInt ≤ 6100 := by rw [fI121 0 15 (by decide)]; exact (by show 0 ≤ (I30 0 15).toInt ∧ (I30 0 15).toInt ≤ 6100; rw [eI30, z_up_n (by decide)]; exact hI6mn)
          have k131 : 0 ≤ (I121 0 35).toInt ∧ (I121 0 35).toInt ≤ (I121 0 34).toInt ∧ (I121 0 34).toInt ≤ (I121 0 33).toInt ∧ (I121 0 33).toInt ≤ 500 ∧ ((I121 0 36).toInt = 0 ∨ (I121 0 35).toInt + 1 ≤ (I121 0 34).toInt) := (by have q0 : (I121 0 35) = (I6 0 35) := (by rw [fI121 0 35 (by decide), eI30, z_up_n (by decide)]); have q1 : (I121 0 34) = (I6 0 34) := (by rw [fI121 0 34 (by decide), eI30, z_up_n (by decide)]); have q2 : (I121 0 33) = (I6 0 33) := (by rw [fI121 0 33 (by decide), eI30, z_up_n (by decide)]); have q3 : (I121 0 36) = (I6 0 36) := (by rw [fI121 0 36 (by decide), eI30, z_up_n (by decide)]); show 0 ≤ (I121 0 35).toInt ∧ (I121 0 35).toInt ≤ (I121 0 34).toInt ∧ (I121 0 34).toInt ≤ (I121 0 33).toInt ∧ (I121 0 33).toInt ≤ 500 ∧ ((I121 0 36).toInt = 0 ∨ (I121 0 35).toInt + 1 ≤ (I121 0 34).toInt); rw [q0, q1, q2, q3]; first | omega | decide)
          have k132 : (I121 0 35).toInt = (I6 0 35).toInt := by rw [fI121 0 35 (by decide), eI30, z_up_n (by decide)]
          have k133 : (I121 0 34).toInt = (I6 0 34).toInt := by rw [fI121 0 34 (by decide), eI30, z_up_n (by decide)]
          have k134 : (I121 0 36).toInt = (I6 0 36).toInt := by rw [fI121 0 36 (by decide), eI30, z_up_n (by decide)]
          have k135 : (I121 0 42).toInt = (I6 0 42).toInt := by rw [fI121 0 42 (by decide), eI30, z_up_n (by decide)]
          have k136 : (I121 0 39).toInt = (I6 0 39).toInt := by rw [fI121 0 39 (by decide), eI30, z_up_n (by decide)]
          have k137 : (I121 0 15).toInt = (I6 0 15).toInt := by rw [fI121 0 15 (by decide), eI30, z_up_n (by decide)]
          have h138 := hp
          rw [show (I30 0 47) = (I6 0 47) from by rw [eI30, z_up_n (by decide)]] at h138
          exact z_vret hx hb hr hK hS (Nat.le_of_ble_eq_true rfl) (Nat.le_of_ble_eq_true rfl) hlocks dX12_sums_175 (shM, ad, I121, J123, PM ad) hW ⟨I121, J123, rfl, ⟨(by show 0 ≤ (I121 0 31).toInt ∧ (I121 0 31).toInt ≤ 500; exact k124), (by show 0 ≤ (I121 0 33).toInt ∧ (I121 0 33).toInt ≤ 500; exact k125), (by show 0 ≤ (I121 0 34).toInt ∧ (I121 0 34).toInt ≤ 500; exact k126), (by show 0 ≤ (I121 0 35).toInt ∧ (I121 0 35).toInt ≤ 500; exact k127)⟩, ⟨(by show 0 ≤ (I121 0 36).toInt ∧ (I121 0 36).toInt ≤ 4; exact k128), (by show 0 ≤ (I121 0 42).toInt ∧ (I121 0 42).toInt ≤ 1; exact k129)⟩, ⟨(by show 0 ≤ (I121 0 47).toInt ∧ (I121 0 47).toInt ≤ 119; exact hI121md.1), (by show 0 ≤ (I121 0 39).toInt ∧ (I121 0 39).toInt ≤ 100; exact hI121md.2)⟩, (by show 0 ≤ (I121 0 40).toInt ∧ (I121 0 40).toInt ≤ 6199; exact hI121mg), (by show 0 ≤ (I121 0 15).toInt ∧ (I121 0 15).toInt ≤ 6100; exact k130), (z_Nd_fr a32 fI121 (by decide)), (by show 0 ≤ (I121 0 35).toInt ∧ (I121 0 35).toInt ≤ (I121 0 34).toInt ∧ (I121 0 34).toInt ≤ (I121 0 33).toInt ∧ (I121 0 33).toInt ≤ 500 ∧ ((I121 0 36).toInt = 0 ∨ (I121 0 35).toInt + 1 ≤ (I121 0 34).toInt); first | omega | decide), f122, ((Classical.em ((I121 0 42).toInt = 0)).elim (fun hw9 => Or.inr ⟨a1.toNatClampNeg, by have w1 := z_fw_0np (a := va.toInt) (o := vo.toInt) (by omega) (by omega); have w2 := z_fo_0n (a := va.toInt); exact z_POP (d := a1.toNatClampNeg) hPS (fun i hi => ⟨by rw [fI121 26 i (z_wr_c (by decide)), eI30, z_up_n (by decide), fI6 26 i (z_wr_c (by decide))], by rw [fI121 27 i (z_wr_c (by decide)), eI30, z_up_n (by decide), fI6 27 i (z_wr_c (by decide))], by rw [fI121 28 i (z_wr_c (by decide)), eI30, z_up_k (by omega), fI6 28 i (z_wr_c (by decide))], by rw [fI121 29 i (z_wr_c (by decide)), eI30, z_up_n (by decide), fI6 29 i (z_wr_c (by decide))]⟩) (by omega) (by omega) (by omega) (by omega) (by omega) (by omega)⟩) Or.inl)⟩
    · have g139 := z_f_nge rfl z_l0 c3
      refine lv_aload_n hx hb dX12_sums_44 rfl (lv_at hl 0 rfl) ?_
      have r140 : 0 ≤ (I 0 40).toInt ∧ (I 0 40).toInt ≤ 6199 := hmg
      refine z_get (T := TX12) (N := 96) (ci := 12) (i := 0) (v := .int (I 0 40)) hx hb hts zj_X12_sums_X12 hown hK hW rfl rfl 40 (by decide) (hts (.fieldLink RX12 343 "PetrolBoardModel" "got" "I") (me_s (me_l (me_l (List.mem_of_getElem? (i := 2) rfl))))) (fun _ h => h) rfl dX12_sums_45 ?_
      refine lv_goto (tgt := 71) hx hb dX12_sums_48 (by decide) ?_
      refine z_iast (i := 28) hx hb hK hW hS rfl (z_ix rfl (by omega) (by omega)) dX12_sums_71 (fun H locs hz1 hW hS => ?_)
      obtain ⟨I141, eI141⟩ : ∃ K : z_I, K = z_up I 28 a1.toNatClampNeg (I 0 40) := ⟨_, rfl⟩
      rw [← eI141] at hW
      have f142 := z_fr_a z_fr_0 (show z_wa L_X12_sums_1 28 = true by decide) eI141
      have a143 := z_Nd_n hNd (by decide) eI141
      refine lv_iload_n hx hb dX12_sums_72 rfl (lv_at hl 2 rfl) ?_
      refine lv_if_eq (tgt := 106) hx hb dX12_sums_73 (by decide) (fun c144 => absurd c144 (by decide)) (fun c144 => ?_)
      refine lv_aload_n hx hb dX12_sums_76 rfl (lv_at hl 0 rfl) ?_
      refine lv_bipush (v := 43) hx hb dX12_sums_77 (by decide) ?_
      refine z_ci hW hS hA (va_runV (As := [.int 43]) (rest := []) ⟨hx, hb, hml, hown, hts⟩ (sx_X12_isSign l G ad I141 J ⟨(by show 0 ≤ (I141 0 36).toInt ∧ (I141 0 36).toInt ≤ 4; rw [eI141, z_up_n (by decide)]; exact hmt.1), (by show 0 ≤ (I141 0 42).toInt ∧ (I141 0 42).toInt ≤ 1; rw [eI141, z_up_n (by decide)]; exact hmt.2)⟩ 43 _) (cwV 1 hts gX12_sums_X12_isSign rfl rfl rfl hy_X12_isSign ⟨Nat.le_of_ble_eq_true rfl, Nat.le_of_ble_eq_true rfl⟩) (z_preV (i := 0) hK hW rfl rfl) rfl rfl hl.1 rfl (lv_room (Nat.le_of_ble_eq_true rfl)) dX12_sums_79 ⟨Nat.le_of_ble_eq_true rfl, Nat.le_of_ble_eq_true rfl⟩) (fun r u1 H locs hp hW hS => ?_)
      obtain ⟨e9, hp⟩ := hp
      rw [e9] at hW
      rcases hp with ⟨rfl, h145⟩ | rfl
      · rw [show (I141 0 36) = (I 0 36) from by rw [eI141, z_up_n (by decide)]] at h145
        have h146 : (I 0 35).toInt + 1 ≤ (I 0 34).toInt := by omega
        refine lv_if_eq (tgt := 89) hx hb dX12_sums_82 (by decide) (fun c147 => absurd c147 (by decide)) (fun c147 => ?_)
        refine lv_iconst (v := 2) hx hb dX12_sums_85 (by decide) ?_
        refine lv_goto (tgt := 133) hx hb dX12_sums_86 (by decide) ?_
        refine lv_istore_n (lv' := [(3, .int 2), (0, .ref (ad 0)), (1, .int a1), (2, .int 1)]) hx hb dX12_sums_133 rfl hl (by decide) rfl (fun ls hl => ?_)
        refine lv_iload_n hx hb dX12_sums_134 rfl (lv_at hl 0 rfl) ?_
        refine lv_if_le (tgt := 165) hx hb dX12_sums_135 (by decide) (fun c148 => absurd c148 (by decide)) (fun c148 => ?_)
        refine lv_aload_n hx hb dX12_sums_138 rfl (lv_at hl 1 rfl) ?_
        refine z_cv hW hS hA (va_runV (As := []) (rest := []) ⟨hx, hb, hml, hown, hts⟩ (sx_X12_next l G ad I141 J ⟨(by show 0 ≤ (I141 0 31).toInt ∧ (I141 0 31).toInt ≤ 500; rw [eI141, z_up_n (by decide)]; exact hmp.1), (by show 0 ≤ (I141 0 33).toInt ∧ (I141 0 33).toInt ≤ 500; rw [eI141, z_up_n (by decide)]; exact hmp.2.1), (by show 0 ≤ (I141 0 34).toInt ∧ (I141 0 34).toInt ≤ 500; rw [eI141, z_up_n (by decide)]; exact hmp.2.2.1), (by show 0 ≤ (I141 0 35).toInt ∧ (I141 0 35).toInt ≤ 500; rw [eI141, z_up_n (by decide)]; exact hmp.2.2.2)⟩ ⟨(by show 0 ≤ (I141 0 36).toInt ∧ (I141 0 36).toInt ≤ 4; rw [eI141, z_up_n (by decide)]; exact hmt.1), (by show 0 ≤ (I141 0 42).toInt ∧ (I141 0 42).toInt ≤ 1; rw [eI141, z_up_n (by decide)]; exact hmt.2)⟩ (by have q0 : (I141 0 34) = (I 0 34) := (by rw [eI141, z_up_n (by decide)]); have q1 : (I141 0 33) = (I 0 33) := (by rw [eI141, z_up_n (by decide)]); show 0 ≤ (I141 0 34).toInt ∧ (I141 0 34).toInt ≤ (I141 0 33).toInt ∧ (I141 0 33).toInt ≤ 500; rw [q0, q1]; first | omega | decide)  _) (cwV 0 hts gX12_sums_X12_next rfl rfl rfl hy_X12_next ⟨Nat.le_of_ble_eq_true rfl, Nat.le_of_ble_eq_true rfl⟩) (z_preV (i := 0) hK hW rfl rfl) rfl rfl hl.1 rfl (lv_room (Nat.le_of_ble_eq_true rfl)) dX12_sums_139 ⟨Nat.le_of_ble_eq_true rfl, Nat.le_of_ble_eq_true rfl⟩) (fun u1 H locs hp hW hS => ?_)
        obtain ⟨I149, J151, e9, hI149mp, hI149mt, hI149rp, fI149, hp⟩ := hp
        rw [e9] at hW
        have f150 := z_fr_sub (L := L_X12_sums_1) f142 fI149 (by decide)
        have k152 : 0 ≤ (I149 0 47).toInt ∧ (I149 0 47).toInt ≤ 119 := by rw [fI149 0 47 (by decide)]; exact (by show 0 ≤ (I141 0 47).toInt ∧ (I141 0 47).toInt ≤ 119; rw [eI141, z_up_n (by decide)]; exact hmd.1)
        have k153 : 0 ≤ (I149 0 39).toInt ∧ (I149 0 39).toInt ≤ 100 := by rw [fI149 0 39 (by decide)]; exact (by show 0 ≤ (I141 0 39).toInt ∧ (I141 0 39).toInt ≤ 100; rw [eI141, z_up_n (by decide)]; exact hmd.2)
        have k154 : 0 ≤ (I149 0 40).toInt ∧ (I149 0 40).toInt ≤ 6199 := by rw [fI149 0 40 (by decide)]; exact (by show 0 ≤ (I141 0 40).toInt ∧ (I141 0 40).toInt ≤ 6199; rw [eI141, z_up_n (by decide)]; exact hmg)
        have k155 : 0 ≤ (I149 0 15).toInt ∧ (I149 0 15).toInt ≤ 6100 := by rw [fI149 0 15 (by decide)]; exact (by show 0 ≤ (I141 0 15).toInt ∧ (I141 0 15).toInt ≤ 6100; rw [eI141, z_up_n (by decide)]; exact hmn)
        have k156 : 0 ≤ (I149 0 35).toInt ∧ (I149 0 35).toInt ≤ (I149 0 34).toInt ∧ (I149 0 34).toInt ≤ (I149 0 33).toInt ∧ (I149 0 33).toInt ≤ 500 ∧ ((I149 0 36).toInt = 0 ∨ (I149 0 35).toInt + 1 ≤ (I149 0 34).toInt) := hI149rp
        have k157 : (I149 0 42).toInt = (I 0 42).toInt := by rw [fI149 0 42 (by decide), eI141, z_up_n (by decide)]
        have k158 : (I149 0 47).toInt = (I 0 47).toInt := by rw [fI149 0 47 (by decide), eI141, z_up_n (by decide)]
        have k159 : (I149 0 39).toInt = (I 0 39).toInt := by rw [fI149 0 39 (by decide), eI141, z_up_n (by decide)]
        have k160 : (I149 0 15).toInt = (I 0 15).toInt := by rw [fI149 0 15 (by decide), eI141, z_up_n (by decide)]
        have k161 : (I149 0 40).toInt = (I 0 40).toInt := by rw [fI149 0 40 (by decide), eI141, z_up_n (by decide)]
        have h162 := hp
        rw [show (I141 0 34) = (I 0 34) from by rw [eI141, z_up_n (by decide)]] at h162
        refine lv_aload_n hx hb dX12_sums_142 rfl (lv_at hl 1 rfl) ?_
        refine z_get (T := TX12) (N := 96) (ci := 12) (i := 0) (v := .ref (ad 29)) hx hb hts zj_X12_sums_X12 hown hK hW rfl rfl 46 (by decide) (hts (.fieldLink RX12 100 "PetrolBoardModel" "sort" "[I") (me_s (me_l (me_l (List.mem_of_getElem? (i := 3) rfl))))) (fun _ h => h) rfl dX12_sums_143 ?_
        refine lv_iload_n hx hb dX12_sums_146 rfl (lv_at hl 2 rfl) ?_
        refine lv_iload_n hx hb dX12_sums_147 rfl (lv_at hl 0 rfl) ?_
        refine z_iast (i := 29) hx hb hK hW hS rfl (z_ix rfl (by omega) (by omega)) dX12_sums_148 (fun H locs hz1 hW hS => ?_)
        obtain ⟨I163, eI163⟩ : ∃ K : z_I, K = z_up I149 29 a1.toNatClampNeg 2 := ⟨_, rfl⟩
        rw [← eI163] at hW
        have f164 := z_fr_a f150 (show z_wa L_X12_sums_1 29 = true by decide) eI163
        have a165 := z_Nd_n (z_Nd_fr a143 fI149 (by decide)) (by decide) eI163
        refine lv_aload_n hx hb dX12_sums_149 rfl (lv_at hl 1 rfl) ?_
        refine lv_iload_n hx hb dX12_sums_150 rfl (lv_at hl 3 rfl) ?_
        refine lv_if_eq (tgt := 158) hx hb dX12_sums_151 (by decide) (fun c166 => absurd c166 (by decide)) (fun c166 => ?_)
        refine lv_iconst (v := 1) hx hb dX12_sums_154 (by decide) ?_
        refine lv_goto (tgt := 159) hx hb dX12_sums_155 (by decide) ?_
        refine z_cv hW hS hA (va_runV (As := [.int 1]) (rest := []) ⟨hx, hb, hml, hown, hts⟩ (sx_X12_begin l G ad I163 J151 ⟨(by show 0 ≤ (I163 0 47).toInt ∧ (I163 0 47).toInt ≤ 119; rw [eI163, z_up_n (by decide)]; exact k152), (by show 0 ≤ (I163 0 39).toInt ∧ (I163 0 39).toInt ≤ 100; rw [eI163, z_up_n (by decide)]; exact k153)⟩ 1 (by have q0 : (I163 0 47) = (I149 0 47) := (by rw [eI163, z_up_n (by decide)]); show (I163 0 47).toInt ≤ 118; rw [q0]; omega) _) (cwV 1 hts gX12_sums_X12_begin rfl rfl rfl hy_X12_begin ⟨Nat.le_of_ble_eq_true rfl, Nat.le_of_ble_eq_true rfl⟩) (z_preV (i := 0) hK hW rfl rfl) rfl rfl hl.1 rfl (lv_room (Nat.le_of_ble_eq_true rfl)) dX12_sums_159 ⟨Nat.le_of_ble_eq_true rfl, Nat.le_of_ble_eq_true rfl⟩) (fun u1 H locs hp hW hS => ?_)
        obtain ⟨I167, J169, e9, hI167md, fI167, hp⟩ := hp
        rw [e9] at hW
        have f168 := z_fr_sub (L := L_X12_sums_1) f164 fI167 (by decide)
        have k170 : 0 ≤ (I167 0 31).toInt ∧ (I167 0 31).toInt ≤ 500 := by rw [fI167 0 31 (by decide)]; exact (by show 0 ≤ (I163 0 31).toInt ∧ (I163 0 31).toInt ≤ 500; rw [eI163, z_up_n (by decide)]; exact hI149mp.1)
        have k171 : 0 ≤ (I167 0 33).toInt ∧ (I167 0 33).toInt ≤ 500 := by rw [fI167 0 33 (by decide)]; exact (by show 0 ≤ (I163 0 33).toInt ∧ (I163 0 33).toInt ≤ 500; rw [eI163, z_up_n (by decide)]; exact hI149mp.2.1)
        have k172 : 0 ≤ (I167 0 34).toInt ∧ (I167 0 34).toInt ≤ 500 := by rw [fI167 0 34 (by decide)]; exact (by show 0 ≤ (I163 0 34).toInt ∧ (I163 0 34).toInt ≤ 500; rw [eI163, z_up_n (by decide)]; exact hI149mp.2.2.1)
        have k173 : 0 ≤ (I167 0 35).toInt ∧ (I167 0 35).toInt ≤ 500 := by rw [fI167 0 35 (by decide)]; exact (by show 0 ≤ (I163 0 35).toInt ∧ (I163 0 35).toInt ≤ 500; rw [eI163, z_up_n (by decide)]; exact hI149mp.2.2.2)
        have k174 : 0 ≤ (I167 0 36).toInt ∧ (I167 0 36).toInt ≤ 4 := by rw [fI167 0 36 (by decide)]; exact (by show 0 ≤ (I163 0 36).toInt ∧ (I163 0 36).toInt ≤ 4; rw [eI163, z_up_n (by decide)]; exact hI149mt.1)
        have k175 : 0 ≤ (I167 0 42).toInt ∧ (I167 0 42).toInt ≤ 1 := by rw [fI167 0 42 (by decide)]; exact (by show 0 ≤ (I163 0 42).toInt ∧ (I163 0 42).toInt ≤ 1; rw [eI163, z_up_n (by decide)]; exact hI149mt.2)
        have k176 : 0 ≤ (I167 0 40).toInt ∧ (I167 0 40).toInt ≤ 6199 := by rw [fI167 0 40 (by decide)]; exact (by show 0 ≤ (I163 0 40).toInt ∧ (I163 0 40).toInt ≤ 6199; rw [eI163, z_up_n (by decide)]; exact k154)
        have k177 : 0 ≤ (I167 0 15).toInt ∧ (I167 0 15).toInt ≤ 6100 := by rw [fI167 0 15 (by decide)]; exact (by show 0 ≤ (I163 0 15).toInt ∧ (I163 0 15).toInt ≤ 6100; rw [eI163, z_up_n (by decide)]; exact k155)
        have k178 : 0 ≤ (I167 0 35).toInt ∧ (I167 0 35).toInt ≤ (I167 0 34).toInt ∧ (I167 0 34).toInt ≤ (I167 0 33).toInt ∧ (I167 0 33).toInt ≤ 500 ∧ ((I167 0 36).toInt = 0 ∨ (I167 0 35).toInt + 1 ≤ (I167 0 34).toInt) := (by have q0 : (I167 0 35) = (I149 0 35) := (by rw [fI167 0 35 (by decide), eI163, z_up_n (by decide)]); have q1 : (I167 0 34) = (I149 0 34) := (by rw [fI167 0 34 (by decide), eI163, z_up_n (by decide)]); have q2 : (I167 0 33) = (I149 0 33) := (by rw [fI167 0 33 (by decide), eI163, z_up_n (by decide)]); have q3 : (I167 0 36) = (I149 0 36) := (by rw [fI167 0 36 (by decide), eI163, z_up_n (by decide)]); show 0 ≤ (I167 0 35).toInt ∧ (I167 0 35).toInt ≤ (I167 0 34).toInt ∧ (I167 0 34).toInt ≤ (I167 0 33).toInt ∧ (I167 0 33).toInt ≤ 500 ∧ ((I167 0 36).toInt = 0 ∨ (I167 0 35).toInt + 1 ≤ (I167 0 34).toInt); rw [q0, q1, q2, q3]; first | omega | decide)
        have k179 : (I167 0 35).toInt = (I149 0 35).toInt := by rw [fI167 0 35 (by decide), eI163, z_up_n (by decide)]
        have k180 : (I167 0 34).toInt = (I149 0 34).toInt := by rw [fI167 0 34 (by decide), eI163, z_up_n (by decide)]
        have k181 : (I167 0 36).toInt = (I149 0 36).toInt := by rw [fI167 0 36 (by decide), eI163, z_up_n (by decide)]
        have k182 : (I167 0 42).toInt = (I149 0 42).toInt := by rw [fI167 0 42 (by decide), eI163, z_up_n (by decide)]
        have k183 : (I167 0 39).toInt = (I149 0 39).toInt := by rw [fI167 0 39 (by decide), eI163, z_up_n (by decide)]
        have k184 : (I167 0 15).toInt = (I149 0 15).toInt := by rw [fI167 0 15 (by decide), eI163, z_up_n (by decide)]
        have k185 : (I167 0 40).toInt = (I149 0 40).toInt := by rw [fI167 0 40 (by decide), eI163, z_up_n (by decide)]
        have h186 := hp
        refine lv_goto (tgt := 175) hx hb dX12_sums_162 (by decide) ?_
        exact z_vret hx hb hr hK hS (Nat.le_of_ble_eq_true rfl) (Nat.le_of_ble_eq_true rfl) hlocks dX12_sums_175 (shM, ad, I167, J169, PM ad) hW ⟨I167, J169, rfl, ⟨(by show 0 ≤ (I167 0 31).toInt ∧ (I167 0 31).toInt ≤ 500; exact k170), (by show 0 ≤ (I167 0 33).toInt ∧ (I167 0 33).toInt ≤ 500; exact k171), (by show 0 ≤ (I167 0 34).toInt ∧ (I167 0 34).toInt ≤ 500; exact k172), (by show 0 ≤ (I167 0 35).toInt ∧ (I167 0 35).toInt ≤ 500; exact k173)⟩, ⟨(by show 0 ≤ (I167 0 36).toInt ∧ (I167 0 36).toInt ≤ 4; exact k174), (by show 0 ≤ (I167 0 42).toInt ∧ (I167 0 42).toInt ≤ 1; exact k175)⟩, ⟨(by show 0 ≤ (I167 0 47).toInt ∧ (I167 0 47).toInt ≤ 119; exact hI167md.1), (by show 0 ≤ (I167 0 39).toInt ∧ (I167 0 39).toInt ≤ 100; exact hI167md.2)⟩, (by show 0 ≤ (I167 0 40).toInt ∧ (I167 0 40).toInt ≤ 6199; exact k176), (by show 0 ≤ (I167 0 15).toInt ∧ (I167 0 15).toInt ≤ 6100; exact k177), (z_Nd_fr a165 fI167 (by decide)), (by show 0 ≤ (I167 0 35).toInt ∧ (I167 0 35).toInt ≤ (I167 0 34).toInt ∧ (I167 0 34).toInt ≤ (I167 0 33).toInt ∧ (I167 0 33).toInt ≤ 500 ∧ ((I167 0 36).toInt = 0 ∨ (I167 0 35).toInt + 1 ≤ (I167 0 34).toInt); first | omega | decide), f168, ((Classical.em ((I167 0 42).toInt = 0)).elim (fun hw9 => Or.inr ⟨a1.toNatClampNeg + 2, by have w1 := z_fw_0nm (a := va.toInt) (o := vo.toInt) (by omega) (by omega); have w2 := z_fo_0n (a := va.toInt); have w3 := z_fw_0np (a := va.toInt) (o := (I 0 40).toInt) (by omega) (by omega); have w4 := z_fo_0n (a := va.toInt); have w5 := z_fw_10 (a := 0) (o := -1) (by omega); have w6 := z_rk_0; have w7 := z_rk_1; exact z_PUSH (d := a1.toNatClampNeg) (w := 0) (a := va.toInt) (o := (I 0 40).toInt) (s := 2) (wi := 1) hPS (fun i hi => ⟨by rw [eI163, z_up_n (by decide), fI149 26 i (z_wr_c (by decide)), eI141, z_up_n (by decide)], by rw [eI163, z_up_n (by decide), fI149 27 i (z_wr_c (by decide)), eI141, z_up_n (by decide)], by rw [eI163, z_up_n (by decide), fI149 28 i (z_wr_c (by decide)), eI141, z_up_k (by omega)], by rw [eI163, z_up_k (by omega), fI149 29 i (z_wr_c (by decide)), eI141, z_up_n (by decide)]⟩) (by rw [show I163 26 a1.toNatClampNeg = vw from (by rw [eI163, z_up_n (by decide), fI149 26 a1.toNatClampNeg (z_wr_c (by decide)), eI141, z_up_n (by decide)]; exact evw.symm)]; exact hvw) (by rw [show I163 27 a1.toNatClampNeg = va from (by rw [eI163, z_up_n (by decide), fI149 27 a1.toNatClampNeg (z_wr_c (by decide)), eI141, z_up_n (by decide)]; exact eva.symm)]) (by rw [show I163 28 a1.toNatClampNeg = (I 0 40) from (by rw [eI163, z_up_n (by decide), fI149 28 a1.toNatClampNeg (z_wr_c (by decide)), eI141, z_up_s])]) (by rw [show I163 29 a1.toNatClampNeg = 2 from (by rw [eI163, z_up_s])]; exact z_l2) (by unfold z_fv; omega) hwd (by rw [eI163, z_up_n (by decide)]; omega) h186 z_l1 (by omega) (by omega) (by omega) (by omega) (by omega) (by omega) (by omega) (by omega)⟩) Or.inl)⟩
      · refine lv_if_eq (tgt := 89) hx hb dX12_sums_82 (by decide) (fun c187 => ?_) (fun c187 => absurd (by decide) c187)
        refine lv_aload_n hx hb dX12_sums_89 rfl (lv_at hl 0 rfl) ?_
        refine lv_bipush (v := 45) hx hb dX12_sums_90 (by decide) ?_
        refine z_ci hW hS hA (va_runV (As := [.int 45]) (rest := []) ⟨hx, hb, hml, hown, hts⟩ (sx_X12_isSign l G ad I141 J ⟨(by show 0 ≤ (I141 0 36).toInt ∧ (I141 0 36).toInt ≤ 4; rw [eI141, z_up_n (by decide)]; exact hmt.1), (by show 0 ≤ (I141 0 42).toInt ∧ (I141 0 42).toInt ≤ 1; rw [eI141, z_up_n (by decide)]; exact hmt.2)⟩ 45 _) (cwV 1 hts gX12_sums_X12_isSign rfl rfl rfl hy_X12_isSign ⟨Nat.le_of_ble_eq_true rfl, Nat.le_of_ble_eq_true rfl⟩) (z_preV (i := 0) hK hW rfl rfl) rfl rfl hl.1 rfl (lv_room (Nat.le_of_ble_eq_true rfl)) dX12_sums_92 ⟨Nat.le_of_ble_eq_true rfl, Nat.le_of_ble_eq_true rfl⟩) (fun r u1 H locs hp hW hS => ?_)
        obtain ⟨e9, hp⟩ := hp
        rw [e9] at hW
        rcases hp with ⟨rfl, h188⟩ | rfl
        · rw [show (I141 0 36) = (I 0 36) from by rw [eI141, z_up_n (by decide)]] at h188
          have h189 : (I 0 35).toInt + 1 ≤ (I 0 34).toInt := by omega
          refine lv_if_eq (tgt := 102) hx hb dX12_sums_95 (by decide) (fun c190 => absurd c190 (by decide)) (fun c190 => ?_)
          refine lv_iconst (v := 3) hx hb dX12_sums_98 (by decide) ?_
          refine lv_goto (tgt := 133) hx hb dX12_sums_99 (by decide) ?_
          refine lv_istore_n (lv' := [(3, .int 3), (0, .ref (ad 0)), (1, .int a1), (2, .int 1)]) hx hb dX12_sums_133 rfl hl (by decide) rfl (fun ls hl => ?_)
          refine lv_iload_n hx hb dX12_sums_134 rfl (lv_at hl 0 rfl) ?_
          refine lv_if_le (tgt := 165) hx hb dX12_sums_135 (by decide) (fun c191 => absurd c191 (by decide)) (fun c191 => ?_)
          refine lv_aload_n hx hb dX12_sums_138 rfl (lv_at hl 1 rfl) ?_
          refine z_cv hW hS hA (va_runV (As := []) (rest := []) ⟨hx, hb, hml, hown, hts⟩ (sx_X12_next l G ad I141 J ⟨(by show 0 ≤ (I141 0 31).toInt ∧ (I141 0 31).toInt ≤ 500; rw [eI141, z_up_n (by decide)]; exact hmp.1), (by show 0 ≤ (I141 0 33).toInt ∧ (I141 0 33).toInt ≤ 500; rw [eI141, z_up_n (by decide)]; exact hmp.2.1), (by show 0 ≤ (I141 0 34).toInt ∧ (I141 0 34).toInt ≤ 500; rw [eI141, z_up_n (by decide)]; exact hmp.2.2.1), (by show 0 ≤ (I141 0 35).toInt ∧ (I141 0 35).toInt ≤ 500; rw [eI141, z_up_n (by decide)]; exact hmp.2.2.2)⟩ ⟨(by show 0 ≤ (I141 0 36).toInt ∧ (I141 0 36).toInt ≤ 4; rw [eI141, z_up_n (by decide)]; exact hmt.1), (by show 0 ≤ (I141 0 42).toInt ∧ (I141 0 42).toInt ≤ 1; rw [eI141, z_up_n (by decide)]; exact hmt.2)⟩ (by have q0 : (I141 0 34) = (I 0 34) := (by rw [eI141, z_up_n (by decide)]); have q1 : (I141 0 33) = (I 0 33) := (by rw [eI141, z_up_n (by decide)]); show 0 ≤ (I141 0 34).toInt ∧ (I141 0 34).toInt ≤ (I141 0 33).toInt ∧ (I141 0 33).toInt ≤ 500; rw [q0, q1]; first | omega | decide)  _) (cwV 0 hts gX12_sums_X12_next rfl rfl rfl hy_X12_next ⟨Nat.le_of_ble_eq_true rfl, Nat.le_of_ble_eq_true rfl⟩) (z_preV (i := 0) hK hW rfl rfl) rfl rfl hl.1 rfl (lv_room (Nat.le_of_ble_eq_true rfl)) dX12_sums_139 ⟨Nat.le_of_ble_eq_true rfl, Nat.le_of_ble_eq_true rfl⟩) (fun u1 H locs hp hW hS => ?_)
          obtain ⟨I192, J194, e9, hI192mp, hI192mt, hI192rp, fI192, hp⟩ := hp
          rw [e9] at hW
          have f193 := z_fr_sub (L := L_X12_sums_1) f142 fI192 (by decide)
          have k195 : 0 ≤ (I192 0 47).toInt ∧ (I192 0 47).toInt ≤ 119 := by rw [fI192 0 47 (by decide)]; exact (by show 0 ≤ (I141 0 47).toInt ∧ (I141 0 47).toInt ≤ 119; rw [eI141, z_up_n (by decide)]; exact hmd.1)
          have k196 : 0 ≤ (I192 0 39).toInt ∧ (I192 0 39).toInt ≤ 100 := by rw [fI192 0 39 (by decide)]; exact (by show 0 ≤ (I141 0 39).toInt ∧ (I141 0 39).toInt ≤ 100; rw [eI141, z_up_n (by decide)]; exact hmd.2)
          have k197 : 0 ≤ (I192 0 40).toInt ∧ (I192 0 40).toInt ≤ 6199 := by rw [fI192 0 40 (by decide)]; exact (by show 0 ≤ (I141 0 40).toInt ∧ (I141 0 40).toInt ≤ 6199; rw [eI141, z_up_n (by decide)]; exact hmg)
          have k198 : 0 ≤ (I192 0 15).toInt ∧ (I192 0 15).toInt ≤ 6100 := by rw [fI192 0 15 (by decide)]; exact (by show 0 ≤ (I141 0 15).toInt ∧ (I141 0 15).toInt ≤ 6100; rw [eI141, z_up_n (by decide)]; exact hmn)
          have k199 : 0 ≤ (I192 0 35).toInt ∧ (I192 0 35).toInt ≤ (I192 0 34).toInt ∧ (I192 0 34).toInt ≤ (I192 0 33).toInt ∧ (I192 0 33).toInt ≤ 500 ∧ ((I192 0 36).toInt = 0 ∨ (I192 0 35).toInt + 1 ≤ (I192 0 34).toInt) := hI192rp
          have k200 : (I192 0 42).toInt = (I 0 42).toInt := by rw [fI192 0 42 (by decide), eI141, z_up_n (by decide)]
          have k201 : (I192 0 47).toInt = (I 0 47).toInt := by rw [fI192 0 47 (by decide), eI141, z_up_n (by decide)]
          have k202 : (I192 0 39).toInt = (I 0 39).toInt := by rw [fI192 0 39 (by decide), eI141, z_up_n (by decide)]
          have k203 : (I192 0 15).toInt = (I 0 15).toInt := by rw [fI192 0 15 (by decide), eI141, z_up_n (by decide)]
          have k204 : (I192 0 40).toInt = (I 0 40).toInt := by rw [fI192 0 40 (by decide), eI141, z_up_n (by decide)]
          have h205 := hp
          rw [show (I141 0 34) = (I 0 34) from by rw [eI141, z_up_n (by decide)]] at h205
          refine lv_aload_n hx hb dX12_sums_142 rfl (lv_at hl 1 rfl) ?_
          refine z_get (T := TX12) (N := 96) (ci := 12) (i := 0) (v := .ref (ad 29)) hx hb hts zj_X12_sums_X12 hown hK hW rfl rfl 46 (by decide) (hts (.fieldLink RX12 100 "PetrolBoardModel" "sort" "[I") (me_s (me_l (me_l (List.mem_of_getElem? (i := 3) rfl))))) (fun _ h => h) rfl dX12_sums_143 ?_
          refine lv_iload_n hx hb dX12_sums_146 rfl (lv_at hl 2 rfl) ?_
          refine lv_iload_n hx hb dX12_sums_147 rfl (lv_at hl 0 rfl) ?_
          refine z_iast (i := 29) hx hb hK hW hS rfl (z_ix rfl (by omega) (by omega)) dX12_sums_148 (fun H locs hz1 hW hS => ?_)
          obtain ⟨I206, eI206⟩ : ∃ K : z_I, K = z_up I192 29 a1.toNatClampNeg 3 := ⟨_, rfl⟩
          rw [← eI206] at hW
          have f207 := z_fr_a f193 (show z_wa L_X12_sums_1 29 = true by decide) eI206
          have a208 := z_Nd_n (z_Nd_fr a143 fI192 (by decide)) (by decide) eI206
          refine lv_aload_n hx hb dX12_sums_149 rfl (lv_at hl 1 rfl) ?_
          refine lv_iload_n hx hb dX12_sums_150 rfl (lv_at hl 3 rfl) ?_
          refine lv_if_eq (tgt := 158) hx hb dX12_sums_151 (by decide) (fun c209 => absurd c209 (by decide)) (fun c209 => ?_)
          refine lv_iconst (v := 1) hx hb dX12_sums_154 (by decide) ?_
          refine lv_goto (tgt := 159) hx hb dX12_sums_155 (by decide) ?_
          refine z_cv hW hS hA (va_runV (As := [.int 1]) (rest := []) ⟨hx, hb, hml, hown, hts⟩ (sx_X12_begin l G ad I206 J194 ⟨(by show 0 ≤ (I206 0 47).toInt ∧ (I206 0 47).toInt ≤ 119; rw [eI206, z_up_n (by decide)]; exact k195), (by show 0 ≤ (I206 0 39).toInt ∧ (I206 0 39).toInt ≤ 100; rw [eI206, z_up_n (by decide)]; exact k196)⟩ 1 (by have q0 : (I206 0 47) = (I192 0 47) := (by rw [eI206, z_up_n (by decide)]); show (I206 0 47).toInt ≤ 118; rw [q0]; omega) _) (cwV 1 hts gX12_sums_X12_begin rfl rfl rfl hy_X12_begin ⟨Nat.le_of_ble_eq_true rfl, Nat.le_of_ble_eq_true rfl⟩) (z_preV (i := 0) hK hW rfl rfl) rfl rfl hl.1 rfl (lv_room (Nat.le_of_ble_eq_true rfl)) dX12_sums_159 ⟨Nat.le_of_ble_eq_true rfl, Nat.le_of_ble_eq_true rfl⟩) (fun u1 H locs hp hW hS => ?_)
          obtain ⟨I210, J212, e9, hI210md, fI210, hp⟩ := hp
          rw [e9] at hW
          have f211 := z_fr_sub (L := L_X12_sums_1) f207 fI210 (by decide)
          have k213 : 0 ≤ (I210 0 31).toInt ∧ (I210 0 31).toInt ≤ 500 := by rw [fI210 0 31 (by decide)]; exact (by show 0 ≤ (I206 0 31).toInt ∧ (I206 0 31).toInt ≤ 500; rw [eI206, z_up_n (by decide)]; exact hI192mp.1)
          have k214 : 0 ≤ (I210 0 33).toInt ∧ (I210 0 33).toInt ≤ 500 := by rw [fI210 0 33 (by decide)]; exact (by show 0 ≤ (I206 0 33).toInt ∧ (I206 0 33).toInt ≤ 500; rw [eI206, z_up_n (by decide)]; exact hI192mp.2.1)
          have k215 : 0 ≤ (I210 0 34).toInt ∧ (I210 0 34).toInt ≤ 500 := by rw [fI210 0 34 (by decide)]; exact (by show 0 ≤ (I206 0 34).toInt ∧ (I206 0 34).toInt ≤ 500; rw [eI206, z_up_n (by decide)]; exact hI192mp.2.2.1)
          have k216 : 0 ≤ (I210 0 35).toInt ∧ (I210 0 35).toInt ≤ 500 := by rw [fI210 0 35 (by decide)]; exact (by show 0 ≤ (I206 0 35).toInt ∧ (I206 0 35).toInt ≤ 500; rw [eI206, z_up_n (by decide)]; exact hI192mp.2.2.2)
          have k217 : 0 ≤ (I210 0 36).toInt ∧ (I210 0 36).toInt ≤ 4 := by rw [fI210 0 36 (by decide)]; exact (by show 0 ≤ (I206 0 36).toInt ∧ (I206 0 36).toInt ≤ 4; rw [eI206, z_up_n (by decide)]; exact hI192mt.1)
          have k218 : 0 ≤ (I210 0 42).toInt ∧ (I210 0 42).toInt ≤ 1 := by rw [fI210 0 42 (by decide)]; exact (by show 0 ≤ (I206 0 42).toInt ∧ (I206 0 42).toInt ≤ 1; rw [eI206, z_up_n (by decide)]; exact hI192mt.2)
          have k219 : 0 ≤ (I210 0 40).toInt ∧ (I210 0 40).toInt ≤ 6199 := by rw [fI210 0 40 (by decide)]; exact (by show 0 ≤ (I206 0 40).toInt ∧ (I206 0 40).toInt ≤ 6199; rw [eI206, z_up_n (by decide)]; exact k197)
          have k220 : 0 ≤ (I210 0 15).toInt ∧ (I210 0 15).toInt ≤ 6100 := by rw [fI210 0 15 (by decide)]; exact (by show 0 ≤ (I206 0 15).toInt ∧ (I206 0 15).toInt ≤ 6100; rw [eI206, z_up_n (by decide)]; exact k198)
          have k221 : 0 ≤ (I210 0 35).toInt ∧ (I210 0 35).toInt ≤ (I210 0 34).toInt ∧ (I210 0 34).toInt ≤ (I210 0 33).toInt ∧ (I210 0 33).toInt ≤ 500 ∧ ((I210 0 36).toInt = 0 ∨ (I210 0 35).toInt + 1 ≤ (I210 0 34).toInt) := (by have q0 : (I210 0 35) = (I192 0 35) := (by rw [fI210 0 35 (by decide), eI206, z_up_n (by decide)]); have q1 : (I210 0 34) = (I192 0 34) := (by rw [fI210 0 34 (by decide), eI206, z_up_n (by decide)]); have q2 : (I210 0 33) = (I192 0 33) := (by rw [fI210 0 33 (by decide), eI206, z_up_n (by decide)]); have q3 : (I210 0 36) = (I192 0 36) := (by rw [fI210 0 36 (by decide), eI206, z_up_n (by decide)]); show 0 ≤ (I210 0 35).toInt ∧ (I210 0 35).toInt ≤ (I210 0 34).toInt ∧ (I210 0 34).toInt ≤ (I210 0 33).toInt ∧ (I210 0 33).toInt ≤ 500 ∧ ((I210 0 36).toInt = 0 ∨ (I210 0 35).toInt + 1 ≤ (I210 0 34).toInt); rw [q0, q1, q2, q3]; first | omega | decide)
          have k222 : (I210 0 35).toInt = (I192 0 35).toInt := by rw [fI210 0 35 (by decide), eI206, z_up_n (by decide)]
          have k223 : (I210 0 34).toInt = (I192 0 34).toInt := by rw [fI210 0 34 (by decide), eI206, z_up_n (by decide)]
          have k224 : (I210 0 36).toInt = (I192 0 36).toInt := by rw [fI210 0 36 (by decide), eI206, z_up_n (by decide)]
          have k225 : (I210 0 42).toInt = (I192 0 42).toInt := by rw [fI210 0 42 (by decide), eI206, z_up_n (by decide)]
          have k226 : (I210 0 39).toInt = (I192 0 39).toInt := by rw [fI210 0 39 (by decide), eI206, z_up_n (by decide)]
          have k227 : (I210 0 15).toInt = (I192 0 15).toInt := by rw [fI210 0 15 (by decide), eI206, z_up_n (by decide)]
          have k228 : (I210 0 40).toInt = (I192 0 40).toInt := by rw [fI210 0 40 (by decide), eI206, z_up_n (by decide)]
          have h229 := hp
          refine lv_goto (tgt := 175) hx hb dX12_sums_162 (by decide) ?_
          exact z_vret hx hb hr hK hS (Nat.le_of_ble_eq_true rfl) (Nat.le_of_ble_eq_true rfl) hlocks dX12_sums_175 (shM, ad, I210, J212, PM ad) hW ⟨I210, J212, rfl, ⟨(by show 0 ≤ (I210 0 31).toInt ∧ (I210 0 31).toInt ≤ 500; exact k213), (by show 0 ≤ (I210 0 33).toInt ∧ (I210 0 33).toInt ≤ 500; exact k214), (by show 0 ≤ (I210 0 34).toInt ∧ (I210 0 34).toInt ≤ 500; exact k215), (by show 0 ≤ (I210 0 35).toInt ∧ (I210 0 35).toInt ≤ 500; exact k216)⟩, ⟨(by show 0 ≤ (I210 0 36).toInt ∧ (I210 0 36).toInt ≤ 4; exact k217), (by show 0 ≤ (I210 0 42).toInt ∧ (I210 0 42).toInt ≤ 1; exact k218)⟩, ⟨(by show 0 ≤ (I210 0 47).toInt ∧ (I210 0 47).toInt ≤ 119; exact hI210md.1), (by show 0 ≤ (I210 0 39).toInt ∧ (I210 0 39).toInt ≤ 100; exact hI210md.2)⟩, (by show 0 ≤ (I210 0 40).toInt ∧ (I210 0 40).toInt ≤ 6199; exact k219), (by show 0 ≤ (I210 0 15).toInt ∧ (I210 0 15).toInt ≤ 6100; exact k220), (z_Nd_fr a208 fI210 (by decide)), (by show 0 ≤ (I210 0 35).toInt ∧ (I210 0 35).toInt ≤ (I210 0 34).toInt ∧ (I210 0 34).toInt ≤ (I210 0 33).toInt ∧ (I210 0 33).toInt ≤ 500 ∧ ((I210 0 36).toInt = 0 ∨ (I210 0 35).toInt + 1 ≤ (I210 0 34).toInt); first | omega | decide), f211, ((Classical.em ((I210 0 42).toInt = 0)).elim (fun hw9 => Or.inr ⟨a1.toNatClampNeg + 2, by have w1 := z_fw_0nm (a := va.toInt) (o := vo.toInt) (by omega) (by omega); have w2 := z_fo_0n (a := va.toInt); have w3 := z_fw_0np (a := va.toInt) (o := (I 0 40).toInt) (by omega) (by omega); have w4 := z_fo_0n (a := va.toInt); have w5 := z_fw_10 (a := 0) (o := -1) (by omega); have w6 := z_rk_0; have w7 := z_rk_1; exact z_PUSH (d := a1.toNatClampNeg) (w := 0) (a := va.toInt) (o := (I 0 40).toInt) (s := 3) (wi := 1) hPS (fun i hi => ⟨by rw [eI206, z_up_n (by decide), fI192 26 i (z_wr_c (by decide)), eI141, z_up_n (by decide)], by rw [eI206, z_up_n (by decide), fI192 27 i (z_wr_c (by decide)), eI141, z_up_n (by decide)], by rw [eI206, z_up_n (by decide), fI192 28 i (z_wr_c (by decide)), eI141, z_up_k (by omega)], by rw [eI206, z_up_k (by omega), fI192 29 i (z_wr_c (by decide)), eI141, z_up_n (by decide)]⟩) (by rw [show I206 26 a1.toNatClampNeg = vw from (by rw [eI206, z_up_n (by decide), fI192 26 a1.toNatClampNeg (z_wr_c (by decide)), eI141, z_up_n (by decide)]; exact evw.symm)]; exact hvw) (by rw [show I206 27 a1.toNatClampNeg = va from (by rw [eI206, z_up_n (by decide), fI192 27 a1.toNatClampNeg (z_wr_c (by decide)), eI141, z_up_n (by decide)]; exact eva.symm)]) (by rw [show I206 28 a1.toNatClampNeg = (I 0 40) from (by rw [eI206, z_up_n (by decide), fI192 28 a1.toNatClampNeg (z_wr_c (by decide)), eI141, z_up_s])]) (by rw [show I206 29 a1.toNatClampNeg = 3 from (by rw [eI206, z_up_s])]; exact z_l3) (by unfold z_fv; omega) hwd (by rw [eI206, z_up_n (by decide)]; omega) h229 z_l1 (by omega) (by omega) (by omega) (by omega) (by omega) (by omega) (by omega) (by omega)⟩) Or.inl)⟩
        · refine lv_if_eq (tgt := 102) hx hb dX12_sums_95 (by decide) (fun c230 => ?_) (fun c230 => absurd (by decide) c230)
          refine lv_iconst (v := 0) hx hb dX12_sums_102 (by decide) ?_
          refine lv_goto (tgt := 133) hx hb dX12_sums_103 (by decide) ?_
          refine lv_istore_n (lv' := [(3, .int 0), (0, .ref (ad 0)), (1, .int a1), (2, .int 1)]) hx hb dX12_sums_133 rfl hl (by decide) rfl (fun ls hl => ?_)
          refine lv_iload_n hx hb dX12_sums_134 rfl (lv_at hl 0 rfl) ?_
          refine lv_if_le (tgt := 165) hx hb dX12_sums_135 (by decide) (fun c231 => ?_) (fun c231 => absurd (by decide) c231)
          refine lv_aload_n hx hb dX12_sums_165 rfl (lv_at hl 1 rfl) ?_
          refine lv_aload_n hx hb dX12_sums_166 rfl (lv_at hl 1 rfl) ?_
          refine z_get (T := TX12) (N := 96) (ci := 12) (i := 0) (v := .ref (ad 28)) hx hb hts zj_X12_sums_X12 hown hK hW rfl rfl 45 (by decide) (hts (.fieldLink RX12 97 "PetrolBoardModel" "one" "[I") (me_s (me_l (me_l (List.mem_of_getElem? (i := 1) rfl))))) (fun _ h => h) rfl dX12_sums_167 ?_
          refine lv_iload_n hx hb dX12_sums_170 rfl (lv_at hl 2 rfl) ?_
          refine z_iald (i := 28) hx hb hK hW rfl (z_ix rfl (by omega) (by omega)) dX12_sums_171 ?_
          refine z_topi (v := (I 0 40)) (by rw [eI141, z_up_s]) ?_
          refine z_cv hW hS hA (va_runV (As := [.int (I 0 40)]) (rest := []) ⟨hx, hb, hml, hown, hts⟩ (sx_X12_ends l G ad I141 J ⟨(by show 0 ≤ (I141 0 47).toInt ∧ (I141 0 47).toInt ≤ 119; rw [eI141, z_up_n (by decide)]; exact hmd.1), (by show 0 ≤ (I141 0 39).toInt ∧ (I141 0 39).toInt ≤ 100; rw [eI141, z_up_n (by decide)]; exact hmd.2)⟩ (by show 0 ≤ (I141 0 40).toInt ∧ (I141 0 40).toInt ≤ 6199; rw [eI141, z_up_n (by decide)]; exact hmg) (I 0 40) (by first | omega | decide) (by have q0 : (I141 0 47) = (I 0 47) := (by rw [eI141, z_up_n (by decide)]); show 1 ≤ (I141 0 47).toInt; rw [q0]; omega) _) (cwV 1 hts gX12_sums_X12_ends rfl rfl rfl hy_X12_ends ⟨Nat.le_of_ble_eq_true rfl, Nat.le_of_ble_eq_true rfl⟩) (z_preV (i := 0) hK hW rfl rfl) rfl rfl hl.1 rfl (lv_room (Nat.le_of_ble_eq_true rfl)) dX12_sums_172 ⟨Nat.le_of_ble_eq_true rfl, Nat.le_of_ble_eq_true rfl⟩) (fun u1 H locs hp hW hS => ?_)
          obtain ⟨I232, J234, e9, hI232md, hI232mg, fI232, hp⟩ := hp
          rw [e9] at hW
          have f233 := z_fr_sub (L := L_X12_sums_1) f142 fI232 (by decide)
          have k235 : 0 ≤ (I232 0 31).toInt ∧ (I232 0 31).toInt ≤ 500 := by rw [fI232 0 31 (by decide)]; exact (by show 0 ≤ (I141 0 31).toInt ∧ (I141 0 31).toInt ≤ 500; rw [eI141, z_up_n (by decide)]; exact hmp.1)
          have k236 : 0 ≤ (I232 0 33).toInt ∧ (I232 0 33).toInt ≤ 500 := by rw [fI232 0 33 (by decide)]; exact (by show 0 ≤ (I141 0 33).toInt ∧ (I141 0 33).toInt ≤ 500; rw [eI141, z_up_n (by decide)]; exact hmp.2.1)
          have k237 : 0 ≤ (I232 0 34).toInt ∧ (I232 0 34).toInt ≤ 500 := by rw [fI232 0 34 (by decide)]; exact (by show 0 ≤ (I141 0 34).toInt ∧ (I141 0 34).toInt ≤ 500; rw [eI141, z_up_n (by decide)]; exact hmp.2.2.1)
          have k238 : 0 ≤ (I232 0 35).toInt ∧ (I232 0 35).toInt ≤ 500 := by rw [fI232 0 35 (by decide)]; exact (by show 0 ≤ (I141 0 35).toInt ∧ (I141 0 35).toInt ≤ 500; rw [eI141, z_up_n (by decide)]; exact hmp.2.2.2)
          have k239 : 0 ≤ (I232 0 36).toInt ∧ (I232 0 36).toInt ≤ 4 := by rw [fI232 0 36 (by decide)]; exact (by show 0 ≤ (I141 0 36).toInt ∧ (I141 0 36).toInt ≤ 4; rw [eI141, z_up_n (by decide)]; exact hmt.1)
          have k240 : 0 ≤ (I232 0 42).toInt ∧ (I232 0 42).toInt ≤ 1 := by rw [fI232 0 42 (by decide)]; exact (by show 0 ≤ (I141 0 42).toInt ∧ (I141 0 42).toInt ≤ 1; rw [eI141, z_up_n (by decide)]; exact hmt.2)
          have k241 : 0 ≤ (I232 0 15).toInt ∧ (I232 0 15).toInt ≤ 6100 := by rw [fI232 0 15 (by decide)]; exact (by show 0 ≤ (I141 0 15).toInt ∧ (I141 0 15).toInt ≤ 6100; rw [eI141, z_up_n (by decide)]; exact hmn)
          have k242 : 0 ≤ (I232 0 35).toInt ∧ (I232 0 35).toInt ≤ (I232 0 34).toInt ∧ (I232 0 34).toInt ≤ (I232 0 33).toInt ∧ (I232 0 33).toInt ≤ 500 ∧ ((I232 0 36).toInt = 0 ∨ (I232 0 35).toInt + 1 ≤ (I232 0 34).toInt) := (by have q0 : (I232 0 35) = (I 0 35) := (by rw [fI232 0 35 (by decide), eI141, z_up_n (by decide)]); have q1 : (I232 0 34) = (I 0 34) := (by rw [fI232 0 34 (by decide), eI141, z_up_n (by decide)]); have q2 : (I232 0 33) = (I 0 33) := (by rw [fI232 0 33 (by decide), eI141, z_up_n (by decide)]); have q3 : (I232 0 36) = (I 0 36) := (by rw [fI232 0 36 (by decide), eI141, z_up_n (by decide)]); show 0 ≤ (I232 0 35).toInt ∧ (I232 0 35).toInt ≤ (I232 0 34).toInt ∧ (I232 0 34).toInt ≤ (I232 0 33).toInt ∧ (I232 0 33).toInt ≤ 500 ∧ ((I232 0 36).toInt = 0 ∨ (I232 0 35).toInt + 1 ≤ (I232 0 34).toInt); rw [q0, q1, q2, q3]; first | omega | decide)
          have k243 : (I232 0 35).toInt = (I 0 35).toInt := by rw [fI232 0 35 (by decide), eI141, z_up_n (by decide)]
          have k244 : (I232 0 34).toInt = (I 0 34).toInt := by rw [fI232 0 34 (by decide), eI141, z_up_n (by decide)]
          have k245 : (I232 0 36).toInt = (I 0 36).toInt := by rw [fI232 0 36 (by decide), eI141, z_up_n (by decide)]
          have k246 : (I232 0 42).toInt = (I 0 42).toInt := by rw [fI232 0 42 (by decide), eI141, z_up_n (by decide)]
          have k247 : (I232 0 39).toInt = (I 0 39).toInt := by rw [fI232 0 39 (by decide), eI141, z_up_n (by decide)]
          have k248 : (I232 0 15).toInt = (I 0 15).toInt := by rw [fI232 0 15 (by decide), eI141, z_up_n (by decide)]
          have h249 := hp
          rw [show (I141 0 47) = (I 0 47) from by rw [eI141, z_up_n (by decide)]] at h249
          exact z_vret hx hb hr hK hS (Nat.le_of_ble_eq_true rfl) (Nat.le_of_ble_eq_true rfl) hlocks dX12_sums_175 (shM, ad, I232, J234, PM ad) hW ⟨I232, J234, rfl, ⟨(by show 0 ≤ (I232 0 31).toInt ∧ (I232 0 31).toInt ≤ 500; exact k235), (by show 0 ≤ (I232 0 33).toInt ∧ (I232 0 33).toInt ≤ 500; exact k236), (by show 0 ≤ (I232 0 34).toInt ∧ (I232 0 34).toInt ≤ 500; exact k237), (by show 0 ≤ (I232 0 35).toInt ∧ (I232 0 35).toInt ≤ 500; exact k238)⟩, ⟨(by show 0 ≤ (I232 0 36).toInt ∧ (I232 0 36).toInt ≤ 4; exact k239), (by show 0 ≤ (I232 0 42).toInt ∧ (I232 0 42).toInt ≤ 1; exact k240)⟩, ⟨(by show 0 ≤ (I232 0 47).toInt ∧ (I232 0 47).toInt ≤ 119; exact hI232md.1), (by show 0 ≤ (I232 0 39).toInt ∧ (I232 0 39).toInt ≤ 100; exact hI232md.2)⟩, (by show 0 ≤ (I232 0 40).toInt ∧ (I232 0 40).toInt ≤ 6199; exact hI232mg), (by show 0 ≤ (I232 0 15).toInt ∧ (I232 0 15).toInt ≤ 6100; exact k241), (z_Nd_fr a143 fI232 (by decide)), (by show 0 ≤ (I232 0 35).toInt ∧ (I232 0 35).toInt ≤ (I232 0 34).toInt ∧ (I232 0 34).toInt ≤ (I232 0 33).toInt ∧ (I232 0 33).toInt ≤ 500 ∧ ((I232 0 36).toInt = 0 ∨ (I232 0 35).toInt + 1 ≤ (I232 0 34).toInt); first | omega | decide), f233, ((Classical.em ((I232 0 42).toInt = 0)).elim (fun hw9 => Or.inr ⟨a1.toNatClampNeg, by have w1 := z_fw_0nm (a := va.toInt) (o := vo.toInt) (by omega) (by omega); have w2 := z_fo_0n (a := va.toInt); exact z_POP (d := a1.toNatClampNeg) hPS (fun i hi => ⟨by rw [fI232 26 i (z_wr_c (by decide)), eI141, z_up_n (by decide)], by rw [fI232 27 i (z_wr_c (by decide)), eI141, z_up_n (by decide)], by rw [fI232 28 i (z_wr_c (by decide)), eI141, z_up_k (by omega)], by rw [fI232 29 i (z_wr_c (by decide)), eI141, z_up_n (by decide)]⟩) (by omega) (by omega) (by omega) (by omega) (by omega) (by omega)⟩) Or.inl)⟩
  · have g250 := z_f_eq rfl z_l0 c1
    refine lv_aload_n hx hb dX12_sums_9 rfl (lv_at hl 0 rfl) ?_
    refine z_get (T := TX12) (N := 96) (ci := 12) (i := 0) (v := .ref (ad 27)) hx hb hts zj_X12_sums_X12 hown hK hW rfl rfl 44 (by decide) (hts (.fieldLink RX12 94 "PetrolBoardModel" "at" "[I") (me_s (me_l (me_l (List.mem_of_getElem? (i := 0) rfl))))) (fun _ h => h) rfl dX12_sums_10 ?_
    refine lv_iload_n hx hb dX12_sums_13 rfl (lv_at hl 1 rfl) ?_
    refine lv_iconst (v := 1) hx hb dX12_sums_14 (by decide) ?_
    refine z_iast (i := 27) hx hb hK hW hS rfl (z_ix rfl (by omega) (by omega)) dX12_sums_15 (fun H locs hz1 hW hS => ?_)
    obtain ⟨I251, eI251⟩ : ∃ K : z_I, K = z_up I 27 a1.toNatClampNeg 1 := ⟨_, rfl⟩
    rw [← eI251] at hW
    have f252 := z_fr_a z_fr_0 (show z_wa L_X12_sums_1 27 = true by decide) eI251
    have a253 := z_Nd_n hNd (by decide) eI251
    refine lv_aload_n hx hb dX12_sums_16 rfl (lv_at hl 0 rfl) ?_
    refine lv_iload_n hx hb dX12_sums_17 rfl (lv_at hl 2 rfl) ?_
    refine lv_if_eq (tgt := 25) hx hb dX12_sums_18 (by decide) (fun c254 => absurd c254 (by decide)) (fun c254 => ?_)
    refine lv_iconst (v := 1) hx hb dX12_sums_21 (by decide) ?_
    refine lv_goto (tgt := 26) hx hb dX12_sums_22 (by decide) ?_
    refine z_cv hW hS hA (va_runV (As := [.int 1]) (rest := []) ⟨hx, hb, hml, hown, hts⟩ (sx_X12_begin l G ad I251 J ⟨(by show 0 ≤ (I251 0 47).toInt ∧ (I251 0 47).toInt ≤ 119; rw [eI251, z_up_n (by decide)]; exact hmd.1), (by show 0 ≤ (I251 0 39).toInt ∧ (I251 0 39).toInt ≤ 100; rw [eI251, z_up_n (by decide)]; exact hmd.2)⟩ 1 (by have q0 : (I251 0 47) = (I 0 47) := (by rw [eI251, z_up_n (by decide)]); show (I251 0 47).toInt ≤ 118; rw [q0]; omega) _) (cwV 1 hts gX12_sums_X12_begin rfl rfl rfl hy_X12_begin ⟨Nat.le_of_ble_eq_true rfl, Nat.le_of_ble_eq_true rfl⟩) (z_preV (i := 0) hK hW rfl rfl) rfl rfl hl.1 rfl (lv_room (Nat.le_of_ble_eq_true rfl)) dX12_sums_26 ⟨Nat.le_of_ble_eq_true rfl, Nat.le_of_ble_eq_true rfl⟩) (fun u1 H locs hp hW hS => ?_)
    obtain ⟨I255, J257, e9, hI255md, fI255, hp⟩ := hp
    rw [e9] at hW
    have f256 := z_fr_sub (L := L_X12_sums_1) f252 fI255 (by decide)
    have k258 : 0 ≤ (I255 0 31).toInt ∧ (I255 0 31).toInt ≤ 500 := by rw [fI255 0 31 (by decide)]; exact (by show 0 ≤ (I251 0 31).toInt ∧ (I251 0 31).toInt ≤ 500; rw [eI251, z_up_n (by decide)]; exact hmp.1)
    have k259 : 0 ≤ (I255 0 33).toInt ∧ (I255 0 33).toInt ≤ 500 := by rw [fI255 0 33 (by decide)]; exact (by show 0 ≤ (I251 0 33).toInt ∧ (I251 0 33).toInt ≤ 500; rw [eI251, z_up_n (by decide)]; exact hmp.2.1)
    have k260 : 0 ≤ (I255 0 34).toInt ∧ (I255 0 34).toInt ≤ 500 := by rw [fI255 0 34 (by decide)]; exact (by show 0 ≤ (I251 0 34).toInt ∧ (I251 0 34).toInt ≤ 500; rw [eI251, z_up_n (by decide)]; exact hmp.2.2.1)
    have k261 : 0 ≤ (I255 0 35).toInt ∧ (I255 0 35).toInt ≤ 500 := by rw [fI255 0 35 (by decide)]; exact (by show 0 ≤ (I251 0 35).toInt ∧ (I251 0 35).toInt ≤ 500; rw [eI251, z_up_n (by decide)]; exact hmp.2.2.2)
    have k262 : 0 ≤ (I255 0 36).toInt ∧ (I255 0 36).toInt ≤ 4 := by rw [fI255 0 36 (by decide)]; exact (by show 0 ≤ (I251 0 36).toInt ∧ (I251 0 36).toInt ≤ 4; rw [eI251, z_up_n (by decide)]; exact hmt.1)
    have k263 : 0 ≤ (I255 0 42).toInt ∧ (I255 0 42).toInt ≤ 1 := by rw [fI255 0 42 (by decide)]; exact (by show 0 ≤ (I251 0 42).toInt ∧ (I251 0 42).toInt ≤ 1; rw [eI251, z_up_n (by decide)]; exact hmt.2)
    have k264 : 0 ≤ (I255 0 40).toInt ∧ (I255 0 40).toInt ≤ 6199 := by rw [fI255 0 40 (by decide)]; exact (by show 0 ≤ (I251 0 40).toInt ∧ (I251 0 40).toInt ≤ 6199; rw [eI251, z_up_n (by decide)]; exact hmg)
    have k265 : 0 ≤ (I255 0 15).toInt ∧ (I255 0 15).toInt ≤ 6100 := by rw [fI255 0 15 (by decide)]; exact (by show 0 ≤ (I251 0 15).toInt ∧ (I251 0 15).toInt ≤ 6100; rw [eI251, z_up_n (by decide)]; exact hmn)
    have k266 : 0 ≤ (I255 0 35).toInt ∧ (I255 0 35).toInt ≤ (I255 0 34).toInt ∧ (I255 0 34).toInt ≤ (I255 0 33).toInt ∧ (I255 0 33).toInt ≤ 500 ∧ ((I255 0 36).toInt = 0 ∨ (I255 0 35).toInt + 1 ≤ (I255 0 34).toInt) := (by have q0 : (I255 0 35) = (I 0 35) := (by rw [fI255 0 35 (by decide), eI251, z_up_n (by decide)]); have q1 : (I255 0 34) = (I 0 34) := (by rw [fI255 0 34 (by decide), eI251, z_up_n (by decide)]); have q2 : (I255 0 33) = (I 0 33) := (by rw [fI255 0 33 (by decide), eI251, z_up_n (by decide)]); have q3 : (I255 0 36) = (I 0 36) := (by rw [fI255 0 36 (by decide), eI251, z_up_n (by decide)]); show 0 ≤ (I255 0 35).toInt ∧ (I255 0 35).toInt ≤ (I255 0 34).toInt ∧ (I255 0 34).toInt ≤ (I255 0 33).toInt ∧ (I255 0 33).toInt ≤ 500 ∧ ((I255 0 36).toInt = 0 ∨ (I255 0 35).toInt + 1 ≤ (I255 0 34).toInt); rw [q0, q1, q2, q3]; first | omega | decide)
    have k267 : (I255 0 35).toInt = (I 0 35).toInt := by rw [fI255 0 35 (by decide), eI251, z_up_n (by decide)]
    have k268 : (I255 0 34).toInt = (I 0 34).toInt := by rw [fI255 0 34 (by decide), eI251, z_up_n (by decide)]
    have k269 : (I255 0 36).toInt = (I 0 36).toInt := by rw [fI255 0 36 (by decide), eI251, z_up_n (by decide)]
    have k270 : (I255 0 42).toInt = (I 0 42).toInt := by rw [fI255 0 42 (by decide), eI251, z_up_n (by decide)]
    have k271 : (I255 0 39).toInt = (I 0 39).toInt := by rw [fI255 0 39 (by decide), eI251, z_up_n (by decide)]
    have k272 : (I255 0 15).toInt = (I 0 15).toInt := by rw [fI255 0 15 (by decide), eI251, z_up_n (by decide)]
    have k273 : (I255 0 40).toInt = (I 0 40).toInt := by rw [fI255 0 40 (by decide), eI251, z_up_n (by decide)]
    have h274 := hp
    exact z_vret hx hb hr hK hS (Nat.le_of_ble_eq_true rfl) (Nat.le_of_ble_eq_true rfl) hlocks dX12_sums_29 (shM, ad, I255, J257, PM ad) hW ⟨I255, J257, rfl, ⟨(by show 0 ≤ (I255 0 31).toInt ∧ (I255 0 31).toInt ≤ 500; exact k258), (by show 0 ≤ (I255 0 33).toInt ∧ (I255 0 33).toInt ≤ 500; exact k259), (by show 0 ≤ (I255 0 34).toInt ∧ (I255 0 34).toInt ≤ 500; exact k260), (by show 0 ≤ (I255 0 35).toInt ∧ (I255 0 35).toInt ≤ 500; exact k261)⟩, ⟨(by show 0 ≤ (I255 0 36).toInt ∧ (I255 0 36).toInt ≤ 4; exact k262), (by show 0 ≤ (I255 0 42).toInt ∧ (I255 0 42).toInt ≤ 1; exact k263)⟩, ⟨(by show 0 ≤ (I255 0 47).toInt ∧ (I255 0 47).toInt ≤ 119; exact hI255md.1), (by show 0 ≤ (I255 0 39).toInt ∧ (I255 0 39).toInt ≤ 100; exact hI255md.2)⟩, (by show 0 ≤ (I255 0 40).toInt ∧ (I255 0 40).toInt ≤ 6199; exact k264), (by show 0 ≤ (I255 0 15).toInt ∧ (I255 0 15).toInt ≤ 6100; exact k265), (z_Nd_fr a253 fI255 (by decide)), (by show 0 ≤ (I255 0 35).toInt ∧ (I255 0 35).toInt ≤ (I255 0 34).toInt ∧ (I255 0 34).toInt ≤ (I255 0 33).toInt ∧ (I255 0 33).toInt ≤ 500 ∧ ((I255 0 36).toInt = 0 ∨ (I255 0 35).toInt + 1 ≤ (I255 0 34).toInt); first | omega | decide), f256, ((Classical.em ((I255 0 42).toInt = 0)).elim (fun hw9 => Or.inr ⟨a1.toNatClampNeg + 2, by have w1 := z_fw_00 (a := va.toInt) (o := vo.toInt) (by omega); have w2 := z_fo_0n (a := va.toInt); have w3 := z_fw_0nm (a := 1) (o := vo.toInt) (by omega) (by omega); have w4 := z_fo_0n (a := 1); have w5 := z_fw_10 (a := 0) (o := -1) (by omega); have w6 := z_rk_0; have w7 := z_rk_1; exact z_PUSH (d := a1.toNatClampNeg) (w := 0) (a := 1) (o := vo.toInt) (s := vs.toInt) (wi := 1) hPS (fun i hi => ⟨by rw [eI251, z_up_n (by decide)], by rw [eI251, z_up_k (by omega)], by rw [eI251, z_up_n (by decide)], by rw [eI251, z_up_n (by decide)]⟩) (by rw [show I251 26 a1.toNatClampNeg = vw from (by rw [eI251, z_up_n (by decide)]; exact evw.symm)]; exact hvw) (by rw [show I251 27 a1.toNatClampNeg = 1 from (by rw [eI251, z_up_s])]; exact z_l1) (by rw [show I251 28 a1.toNatClampNeg = vo from (by rw [eI251, z_up_n (by decide)]; exact evo.symm)]) (by rw [show I251 29 a1.toNatClampNeg = vs from (by rw [eI251, z_up_n (by decide)]; exact evs.symm)]) (by unfold z_fv; omega) hwd (by rw [eI251, z_up_n (by decide)]; omega) h274 z_l1 (by omega) (by omega) (by omega) (by omega) (by omega) (by omega) (by omega) (by omega)⟩) Or.inl)⟩
noncomputable def L_X12_sums_0 : z_L := [(0, 35), (0, 36), (0, 37), (0, 38), (0, 34), (0, 42), (0, 32), (0, 39), (21, 999), (22, 999), (23, 999), (0, 15), (26, 999), (27, 999), (28, 999), (29, 999), (0, 47), (0, 40)]
set_option maxHeartbeats 8000000 in
set_option maxRecDepth 100000 in
theorem sx_X12_sums_0 (l : Launch) (G : z_G) (ad : Nat → Nat) (I : z_I) (J : z_J) (hmp : z_imp I) (hmt : z_imt I) (hmd : z_imd I) (hmg : z_img I) (hmn : z_imn I) (hNd : z_Nd I) (hrp : z_irp I) (B : Int) (a1 : Int32) (q1 : 0 ≤ a1.toInt ∧ a1.toInt ≤ 33) (hwd : (I 26 a1.toNatClampNeg).toInt = 1) (hPS : z_PS I (a1.toNatClampNeg + 1) B) : z_Mv l yX12_sums wsX12_sums { frames := 3, cells := 0, slots := 0, locals := 55 } [.ref (ad 0), .int a1, .int 0] G (shM, ad, I, J, PM ad) (fun u1 => ∃ (I1 : z_I) (J1 : z_J), u1 = (shM, ad, I1, J1, PM ad) ∧ z_imp I1 ∧ z_imt I1 ∧ z_imd I1 ∧ z_img I1 ∧ z_imn I1 ∧ z_Nd I1 ∧ z_irp I1 ∧ z_fr L_X12_sums_0 I1 I ∧ (¬ (I1 0 42).toInt = 0 ∨ ∃ n, z_PS I1 n (B - 1))) 0 0 := by
  intro sz
  refine z_headQ (cc := cX12_sums) (maxL := 4) (ret := none) (by decide) rfl (Nat.le_of_ble_eq_true rfl) ?_
  intro p e s m below meth c0 ls hIn hK hsz hW hl
  obtain ⟨hx, hb, hr, hml, hown, hts, hlocks, hname⟩ := hIn
  subst hsz
  have hown : s.vm.findClass RX12 = some m.cls := hown
  have hA : ∀ q : Nat, s.heap.size ≤ q → z_A (shM, ad, I, J, PM ad) s.heap.size q := fun q h => Or.inr h
  generalize hAe : z_A (shM, ad, I, J, PM ad) s.heap.size = A at *
  have hS : va_S A s.heap s.heap [] := va_S.rf
  have hl : lv_has ls 4 [(0, .ref (ad 0)), (1, .int a1), (2, .int 0)] := hl
  obtain ⟨va, eva⟩ : ∃ y, y = I 27 a1.toNatClampNeg := ⟨_, rfl⟩
  obtain ⟨vo, evo⟩ : ∃ y, y = I 28 a1.toNatClampNeg := ⟨_, rfl⟩
  obtain ⟨vs, evs⟩ : ∃ y, y = I 29 a1.toNatClampNeg := ⟨_, rfl⟩
  have hT := z_top hPS
  unfold z_fv at hT
  rw [hwd, ← eva, ← evo, ← evs] at hT
  obtain ⟨t1, t2, t3, t4, t5, t6, t7, t8, t9, t10, t11, t12, t13, t14, t15, t16, t17, t18, t19, t20, t21⟩ := hT
  have hk9 := z_clt (x := a1) rfl q1.1
  have hcw := z_fwc_1 va.toInt vo.toInt
  have hcf := z_foc_1 va.toInt
  obtain ⟨vw, evw⟩ : ∃ y, y = I 26 a1.toNatClampNeg := ⟨_, rfl⟩
  have hvw : vw.toInt = 1 := by rw [evw]; exact hwd
  have krp : 0 ≤ (I 0 35).toInt ∧ (I 0 35).toInt ≤ (I 0 34).toInt ∧ (I 0 34).toInt ≤ (I 0 33).toInt ∧ (I 0 33).toInt ≤ 500 ∧ ((I 0 36).toInt = 0 ∨ (I 0 35).toInt + 1 ≤ (I 0 34).toInt) := hrp
  refine lv_aload_n hx hb dX12_sums_0 rfl (lv_at hl 0 rfl) ?_
  refine z_get (T := TX12) (N := 96) (ci := 12) (i := 0) (v := .ref (ad 27)) hx hb hts zj_X12_sums_X12 hown hK hW rfl rfl 44 (by decide) (hts (.fieldLink RX12 94 "PetrolBoardModel" "at" "[I") (me_s (me_l (me_l (List.mem_of_getElem? (i := 0) rfl))))) (fun _ h => h) rfl dX12_sums_1 ?_
  refine lv_iload_n hx hb dX12_sums_4 rfl (lv_at hl 1 rfl) ?_
  refine z_iald (i := 27) hx hb hK hW rfl (z_ix rfl (by omega) (by omega)) dX12_sums_5 ?_
  refine z_topi (v := va) eva.symm ?_
  refine lv_if_ne (tgt := 30) hx hb dX12_sums_6 (by decide) (fun c1 => ?_) (fun c1 => ?_)
  · have g2 := z_f_ne rfl z_l0 c1
    refine lv_aload_n hx hb dX12_sums_30 rfl (lv_at hl 0 rfl) ?_
    refine z_get (T := TX12) (N := 96) (ci := 12) (i := 0) (v := .ref (ad 28)) hx hb hts zj_X12_sums_X12 hown hK hW rfl rfl 45 (by decide) (hts (.fieldLink RX12 97 "PetrolBoardModel" "one" "[I") (me_s (me_l (me_l (List.mem_of_getElem? (i := 1) rfl))))) (fun _ h => h) rfl dX12_sums_31 ?_
    refine lv_iload_n hx hb dX12_sums_34 rfl (lv_at hl 1 rfl) ?_
    refine lv_aload_n hx hb dX12_sums_35 rfl (lv_at hl 0 rfl) ?_
    refine z_get (T := TX12) (N := 96) (ci := 12) (i := 0) (v := .ref (ad 28)) hx hb hts zj_X12_sums_X12 hown hK hW rfl rfl 45 (by decide) (hts (.fieldLink RX12 97 "PetrolBoardModel" "one" "[I") (me_s (me_l (me_l (List.mem_of_getElem? (i := 1) rfl))))) (fun _ h => h) rfl dX12_sums_36 ?_
    refine lv_iload_n hx hb dX12_sums_39 rfl (lv_at hl 1 rfl) ?_
    refine z_iald (i := 28) hx hb hK hW rfl (z_ix rfl (by omega) (by omega)) dX12_sums_40 ?_
    refine z_topi (v := vo) evo.symm ?_
    refine lv_if_ge (tgt := 51) hx hb dX12_sums_41 (by decide) (fun c3 => ?_) (fun c3 => ?_)
    · have g4 := z_f_ge rfl z_l0 c3
      refine lv_aload_n hx hb dX12_sums_51 rfl (lv_at hl 0 rfl) ?_
      refine lv_aload_n hx hb dX12_sums_52 rfl (lv_at hl 0 rfl) ?_
      refine z_get (T := TX12) (N := 96) (ci := 12) (i := 0) (v := .ref (ad 29)) hx hb hts zj_X12_sums_X12 hown hK hW rfl rfl 46 (by decide) (hts (.fieldLink RX12 100 "PetrolBoardModel" "sort" "[I") (me_s (me_l (me_l (List.mem_of_getElem? (i := 3) rfl))))) (fun _ h => h) rfl dX12_sums_53 ?_
      refine lv_iload_n hx hb dX12_sums_56 rfl (lv_at hl 1 rfl) ?_
      refine z_iald (i := 29) hx hb hK hW rfl (z_ix rfl (by omega) (by omega)) dX12_sums_57 ?_
      refine z_topi (v := vs) evs.symm ?_
      refine lv_aload_n hx hb dX12_sums_58 rfl (lv_at hl 0 rfl) ?_
      refine z_get (T := TX12) (N := 96) (ci := 12) (i := 0) (v := .ref (ad 28)) hx hb hts zj_X12_sums_X12 hown hK hW rfl rfl 45 (by decide) (hts (.fieldLink RX12 97 "PetrolBoardModel" "one" "[I") (me_s (me_l (me_l (List.mem_of_getElem? (i := 1) rfl))))) (fun _ h => h) rfl dX12_sums_59 ?_
      refine lv_iload_n hx hb dX12_sums_62 rfl (lv_at hl 1 rfl) ?_
      refine z_iald (i := 28) hx hb hK hW rfl (z_ix rfl (by omega) (by omega)) dX12_sums_63 ?_
      refine z_topi (v := vo) evo.symm ?_
      refine lv_aload_n hx hb dX12_sums_64 rfl (lv_at hl 0 rfl) ?_
      have r5 : 0 ≤ (I 0 40).toInt ∧ (I 0 40).toInt ≤ 6199 := hmg
      refine z_get (T := TX12) (N := 96) (ci := 12) (i := 0) (v := .int (I 0 40)) hx hb hts zj_X12_sums_X12 hown hK hW rfl rfl 40 (by decide) (hts (.fieldLink RX12 343 "PetrolBoardModel" "got" "I") (me_s (me_l (me_l (List.mem_of_getElem? (i := 2) rfl))))) (fun _ h => h) rfl dX12_sums_65 ?_
      refine z_ci hW hS hA (va_runV (As := [.int vs, .int vo, .int (I 0 40)]) (rest := [.int a1, .ref (ad 28)]) ⟨hx, hb, hml, hown, hts⟩ (sx_X12_node l G ad I J (by show 0 ≤ (I 0 15).toInt ∧ (I 0 15).toInt ≤ 6100; exact hmn) hNd vs vo (I 0 40) (by show (I 0 15).toInt ≤ 6099; omega) (by first | omega | decide) (by first | omega | decide) (by first | omega | decide) _) (cwV 3 hts gX12_sums_X12_node rfl rfl rfl hy_X12_node ⟨Nat.le_of_ble_eq_true rfl, Nat.le_of_ble_eq_true rfl⟩) (z_preV (i := 0) hK hW rfl rfl) rfl rfl hl.1 rfl (lv_room (Nat.le_of_ble_eq_true rfl)) dX12_sums_68 ⟨Nat.le_of_ble_eq_true rfl, Nat.le_of_ble_eq_true rfl⟩) (fun r u1 H locs hp hW hS => ?_)
      obtain ⟨I6, J8, e9, hI6mn, hI6Nd, fI6, hp⟩ := hp
      rw [e9] at hW
      have f7 := z_fr_sub (L := L_X12_sums_0) z_fr_0 fI6 (by decide)
      have k9 : 0 ≤ (I6 0 31).toInt ∧ (I6 0 31).toInt ≤ 500 := by rw [fI6 0 31 (by decide)]; exact (by show 0 ≤ (I 0 31).toInt ∧ (I 0 31).toInt ≤ 500; exact hmp.1)
      have k10 : 0 ≤ (I6 0 33).toInt ∧ (I6 0 33).toInt ≤ 500 := by rw [fI6 0 33 (by decide)]; exact (by show 0 ≤ (I 0 33).toInt ∧ (I 0 33).toInt ≤ 500; exact hmp.2.1)
      have k11 : 0 ≤ (I6 0 34).toInt ∧ (I6 0 34).toInt ≤ 500 := by rw [fI6 0 34 (by decide)]; exact (by show 0 ≤ (I 0 34).toInt ∧ (I 0 34).toInt ≤ 500; exact hmp.2.2.1)
      have k12 : 0 ≤ (I6 0 35).toInt ∧ (I6 0 35).toInt ≤ 500 := by rw [fI6 0 35 (by decide)]; exact (by show 0 ≤ (I 0 35).toInt ∧ (I 0 35).toInt ≤ 500; exact hmp.2.2.2)
      have k13 : 0 ≤ (I6 0 36).toInt ∧ (I6 0 36).toInt ≤ 4 := by rw [fI6 0 36 (by decide)]; exact (by show 0 ≤ (I 0 36).toInt ∧ (I 0 36).toInt ≤ 4; exact hmt.1)
      have k14 : 0 ≤ (I6 0 42).toInt ∧ (I6 0 42).toInt ≤ 1 := by rw [fI6 0 42 (by decide)]; exact (by show 0 ≤ (I 0 42).toInt ∧ (I 0 42).toInt ≤ 1; exact hmt.2)
      have k15 : 0 ≤ (I6 0 47).toInt ∧ (I6 0 47).toInt ≤ 119 := by rw [fI6 0 47 (by decide)]; exact (by show 0 ≤ (I 0 47).toInt ∧ (I 0 47).toInt ≤ 119; exact hmd.1)
      have k16 : 0 ≤ (I6 0 39).toInt ∧ (I6 0 39).toInt ≤ 100 := by rw [fI6 0 39 (by decide)]; exact (by show 0 ≤ (I 0 39).toInt ∧ (I 0 39).toInt ≤ 100; exact hmd.2)
      have k17 : 0 ≤ (I6 0 40).toInt ∧ (I6 0 40).toInt ≤ 6199 := by rw [fI6 0 40 (by decide)]; exact (by show 0 ≤ (I 0 40).toInt ∧ (I 0 40).toInt ≤ 6199; exact hmg)
      have k18 : 0 ≤ (I6 0 35).toInt ∧ (I6 0 35).toInt ≤ (I6 0 34).toInt ∧ (I6 0 34).toInt ≤ (I6 0 33).toInt ∧ (I6 0 33).toInt ≤ 500 ∧ ((I6 0 36).toInt = 0 ∨ (I6 0 35).toInt + 1 ≤ (I6 0 34).toInt) := (by have q0 : (I6 0 35) = (I 0 35) := (by rw [fI6 0 35 (by decide)]); have q1 : (I6 0 34) = (I 0 34) := (by rw [fI6 0 34 (by decide)]); have q2 : (I6 0 33) = (I 0 33) := (by rw [fI6 0 33 (by decide)]); have q3 : (I6 0 36) = (I 0 36) := (by rw [fI6 0 36 (by decide)]); show 0 ≤ (I6 0 35).toInt ∧ (I6 0 35).toInt ≤ (I6 0 34).toInt ∧ (I6 0 34).toInt ≤ (I6 0 33).toInt ∧ (I6 0 33).toInt ≤ 500 ∧ ((I6 0 36).toInt = 0 ∨ (I6 0 35).toInt + 1 ≤ (I6 0 34).toInt); rw [q0, q1, q2, q3]; first | omega | decide)
      have k19 : (I6 0 35).toInt = (I 0 35).toInt := by rw [fI6 0 35 (by decide)]
      have k20 : (I6 0 34).toInt = (I 0 34).toInt := by rw [fI6 0 34 (by decide)]
      have k21 : (I6 0 36).toInt = (I 0 36).toInt := by rw [fI6 0 36 (by decide)]
      have k22 : (I6 0 42).toInt = (I 0 42).toInt := by rw [fI6 0 42 (by decide)]
      have k23 : (I6 0 47).toInt = (I 0 47).toInt := by rw [fI6 0 47 (by decide)]
      have k24 : (I6 0 39).toInt = (I 0 39).toInt := by rw [fI6 0 39 (by decide)]
      have k25 : (I6 0 40).toInt = (I 0 40).toInt := by rw [fI6 0 40 (by decide)]
      refine lv_topi (fun x26 ex26 => ?_)
      rw [← ex26] at hp
      obtain ⟨h27, h28⟩ := hp
      have h29 : 0 ≤ x26.toInt ∧ x26.toInt ≤ 6100 := (by have q9 : 0 ≤ (I 0 15).toInt ∧ (I 0 15).toInt ≤ 6100 := (by show 0 ≤ (I 0 15).toInt ∧ (I 0 15).toInt ≤ 6100; exact hmn); omega)
      refine z_iast (i := 28) hx hb hK hW hS rfl (z_ix rfl (by omega) (by omega)) dX12_sums_71 (fun H locs hz1 hW hS => ?_)
      obtain ⟨I30, eI30⟩ : ∃ K : z_I, K = z_up I6 28 a1.toNatClampNeg x26 := ⟨_, rfl⟩
      rw [← eI30] at hW
      have f31 := z_fr_a f7 (show z_wa L_X12_sums_0 28 = true by decide) eI30
      have a32 := z_Nd_n hI6Nd (by decide) eI30
      refine lv_iload_n hx hb dX12_sums_72 rfl (lv_at hl 2 rfl) ?_
      refine lv_if_eq (tgt := 106) hx hb dX12_sums_73 (by decide) (fun c33 => ?_) (fun c33 => absurd (by decide) c33)
      refine lv_aload_n hx hb dX12_sums_106 rfl (lv_at hl 0 rfl) ?_
      refine lv_bipush (v := 42) hx hb dX12_sums_107 (by decide) ?_
      refine z_ci hW hS hA (va_runV (As := [.int 42]) (rest := []) ⟨hx, hb, hml, hown, hts⟩ (sx_X12_isSign l G ad I30 J8 ⟨(by show 0 ≤ (I30 0 36).toInt ∧ (I30 0 36).toInt ≤ 4; rw [eI30, z_up_n (by decide)]; exact k13), (by show 0 ≤ (I30 0 42).toInt ∧ (I30 0 42).toInt ≤ 1; rw [eI30, z_up_n (by decide)]; exact k14)⟩ 42 _) (cwV 1 hts gX12_sums_X12_isSign rfl rfl rfl hy_X12_isSign ⟨Nat.le_of_ble_eq_true rfl, Nat.le_of_ble_eq_true rfl⟩) (z_preV (i := 0) hK hW rfl rfl) rfl rfl hl.1 rfl (lv_room (Nat.le_of_ble_eq_true rfl)) dX12_sums_109 ⟨Nat.le_of_ble_eq_true rfl, Nat.le_of_ble_eq_true rfl⟩) (fun r u1 H locs hp hW hS => ?_)
      obtain ⟨e9, hp⟩ := hp
      rw [e9] at hW
      rcases hp with ⟨rfl, h34⟩ | rfl
      · rw [show (I30 0 36) = (I6 0 36) from by rw [eI30, z_up_n (by decide)]] at h34
        have h35 : (I6 0 35).toInt + 1 ≤ (I6 0 34).toInt := by omega
        refine lv_if_eq (tgt := 119) hx hb dX12_sums_112 (by decide) (fun c36 => absurd c36 (by decide)) (fun c36 => ?_)
        refine lv_iconst (v := 4) hx hb dX12_sums_115 (by decide) ?_
        refine lv_goto (tgt := 133) hx hb dX12_sums_116 (by decide) ?_
        refine lv_istore_n (lv' := [(3, .int 4), (0, .ref (ad 0)), (1, .int a1), (2, .int 0)]) hx hb dX12_sums_133 rfl hl (by decide) rfl (fun ls hl => ?_)
        refine lv_iload_n hx hb dX12_sums_134 rfl (lv_at hl 0 rfl) ?_
        refine lv_if_le (tgt := 165) hx hb dX12_sums_135 (by decide) (fun c37 => absurd c37 (by decide)) (fun c37 => ?_)
        refine lv_aload_n hx hb dX12_sums_138 rfl (lv_at hl 1 rfl) ?_
        refine z_cv hW hS hA (va_runV (As := []) (rest := []) ⟨hx, hb, hml, hown, hts⟩ (sx_X12_next l G ad I30 J8 ⟨(by show 0 ≤ (I30 0 31).toInt ∧ (I30 0 31).toInt ≤ 500; rw [eI30, z_up_n (by decide)]; exact k9), (by show 0 ≤ (I30 0 33).toInt ∧ (I30 0 33).toInt ≤ 500; rw [eI30, z_up_n (by decide)]; exact k10), (by show 0 ≤ (I30 0 34).toInt ∧ (I30 0 34).toInt ≤ 500; rw [eI30, z_up_n (by decide)]; exact k11), (by show 0 ≤ (I30 0 35).toInt ∧ (I30 0 35).toInt ≤ 500; rw [eI30, z_up_n (by decide)]; exact k12)⟩ ⟨(by show 0 ≤ (I30 0 36).toInt ∧ (I30 0 36).toInt ≤ 4; rw [eI30, z_up_n (by decide)]; exact k13), (by show 0 ≤ (I30 0 42).toInt ∧ (I30 0 42).toInt ≤ 1; rw [eI30, z_up_n (by decide)]; exact k14)⟩ (by have q0 : (I30 0 34) = (I6 0 34) := (by rw [eI30, z_up_n (by decide)]); have q1 : (I30 0 33) = (I6 0 33) := (by rw [eI30, z_up_n (by decide)]); show 0 ≤ (I30 0 34).toInt ∧ (I30 0 34).toInt ≤ (I30 0 33).toInt ∧ (I30 0 33).toInt ≤ 500; rw [q0, q1]; first | omega | decide)  _) (cwV 0 hts gX12_sums_X12_next rfl rfl rfl hy_X12_next ⟨Nat.le_of_ble_eq_true rfl, Nat.le_of_ble_eq_true rfl⟩) (z_preV (i := 0) hK hW rfl rfl) rfl rfl hl.1 rfl (lv_room (Nat.le_of_ble_eq_true rfl)) dX12_sums_139 ⟨Nat.le_of_ble_eq_true rfl, Nat.le_of_ble_eq_true rfl⟩) (fun u1 H locs hp hW hS => ?_)
        obtain ⟨I38, J40, e9, hI38mp, hI38mt, hI38rp, fI38, hp⟩ := hp
        rw [e9] at hW
        have f39 := z_fr_sub (L := L_X12_sums_0) f31 fI38 (by decide)
        have k41 : 0 ≤ (I38 0 47).toInt ∧ (I38 0 47).toInt ≤ 119 := by rw [fI38 0 47 (by decide)]; exact (by show 0 ≤ (I30 0 47).toInt ∧ (I30 0 47).toInt ≤ 119; rw [eI30, z_up_n (by decide)]; exact k15)
        have k42 : 0 ≤ (I38 0 39).toInt ∧ (I38 0 39).toInt ≤ 100 := by rw [fI38 0 39 (by decide)]; exact (by show 0 ≤ (I30 0 39).toInt ∧ (I30 0 39).toInt ≤ 100; rw [eI30, z_up_n (by decide)]; exact k16)
        have k43 : 0 ≤ (I38 0 40).toInt ∧ (I38 0 40).toInt ≤ 6199 := by rw [fI38 0 40 (by decide)]; exact (by show 0 ≤ (I30 0 40).toInt ∧ (I30 0 40).toInt ≤ 6199; rw [eI30, z_up_n (by decide)]; exact k17)
        have k44 : 0 ≤ (I38 0 15).toInt ∧ (I38 0 15).toInt ≤ 6100 := by rw [fI38 0 15 (by decide)]; exact (by show 0 ≤ (I30 0 15).toInt ∧ (I30 0 15).toInt ≤ 6100; rw [eI30, z_up_n (by decide)]; exact hI6mn)
        have k45 : 0 ≤ (I38 0 35).toInt ∧ (I38 0 35).toInt ≤ (I38 0 34).toInt ∧ (I38 0 34).toInt ≤ (I38 0 33).toInt ∧ (I38 0 33).toInt ≤ 500 ∧ ((I38 0 36).toInt = 0 ∨ (I38 0 35).toInt + 1 ≤ (I38 0 34).toInt) := hI38rp
        have k46 : (I38 0 42).toInt = (I6 0 42).toInt := by rw [fI38 0 42 (by decide), eI30, z_up_n (by decide)]
        have k47 : (I38 0 47).toInt = (I6 0 47).toInt := by rw [fI38 0 47 (by decide), eI30, z_up_n (by decide)]
        have k48 : (I38 0 39).toInt = (I6 0 39).toInt := by rw [fI38 0 39 (by decide), eI30, z_up_n (by decide)]
        have k49 : (I38 0 15).toInt = (I6 0 15).toInt := by rw [fI38 0 15 (by decide), eI30, z_up_n (by decide)]
        have k50 : (I38 0 40).toInt = (I6 0 40).toInt := by rw [fI38 0 40 (by decide), eI30, z_up_n (by decide)]
        have h51 := hp
        rw [show (I30 0 34) = (I6 0 34) from by rw [eI30, z_up_n (by decide)]] at h51
        refine lv_aload_n hx hb dX12_sums_142 rfl (lv_at hl 1 rfl) ?_
        refine z_get (T := TX12) (N := 96) (ci := 12) (i := 0) (v := .ref (ad 29)) hx hb hts zj_X12_sums_X12 hown hK hW rfl rfl 46 (by decide) (hts (.fieldLink RX12 100 "PetrolBoardModel" "sort" "[I") (me_s (me_l (me_l (List.mem_of_getElem? (i := 3) rfl))))) (fun _ h => h) rfl dX12_sums_143 ?_
        refine lv_iload_n hx hb dX12_sums_146 rfl (lv_at hl 2 rfl) ?_
        refine lv_iload_n hx hb dX12_sums_147 rfl (lv_at hl 0 rfl) ?_
        refine z_iast (i := 29) hx hb hK hW hS rfl (z_ix rfl (by omega) (by omega)) dX12_sums_148 (fun H locs hz1 hW hS => ?_)
        obtain ⟨I52, eI52⟩ : ∃ K : z_I, K = z_up I38 29 a1.toNatClampNeg 4 := ⟨_, rfl⟩
        rw [← eI52] at hW
        have f53 := z_fr_a f39 (show z_wa L_X12_sums_0 29 = true by decide) eI52
        have a54 := z_Nd_n (z_Nd_fr a32 fI38 (by decide)) (by decide) eI52
        refine lv_aload_n hx hb dX12_sums_149 rfl (lv_at hl 1 rfl) ?_
        refine lv_iload_n hx hb dX12_sums_150 rfl (lv_at hl 3 rfl) ?_
        refine lv_if_eq (tgt := 158) hx hb dX12_sums_151 (by decide) (fun c55 => ?_) (fun c55 => absurd (by decide) c55)
        refine lv_iconst (v := 2) hx hb dX12_sums_158 (by decide) ?_
        refine z_cv hW hS hA (va_runV (As := [.int 2]) (rest := []) ⟨hx, hb, hml, hown, hts⟩ (sx_X12_begin l G ad I52 J40 ⟨(by show 0 ≤ (I52 0 47).toInt ∧ (I52 0 47).toInt ≤ 119; rw [eI52, z_up_n (by decide)]; exact k41), (by show 0 ≤ (I52 0 39).toInt ∧ (I52 0 39).toInt ≤ 100; rw [eI52, z_up_n (by decide)]; exact k42)⟩ 2 (by have q0 : (I52 0 47) = (I38 0 47) := (by rw [eI52, z_up_n (by decide)]); show (I52 0 47).toInt ≤ 118; rw [q0]; omega) _) (cwV 1 hts gX12_sums_X12_begin rfl rfl rfl hy_X12_begin ⟨Nat.le_of_ble_eq_true rfl, Nat.le_of_ble_eq_true rfl⟩) (z_preV (i := 0) hK hW rfl rfl) rfl rfl hl.1 rfl (lv_room (Nat.le_of_ble_eq_true rfl)) dX12_sums_159 ⟨Nat.le_of_ble_eq_true rfl, Nat.le_of_ble_eq_true rfl⟩) (fun u1 H locs hp hW hS => ?_)
        obtain ⟨I56, J58, e9, hI56md, fI56, hp⟩ := hp
        rw [e9] at hW
        have f57 := z_fr_sub (L := L_X12_sums_0) f53 fI56 (by decide)
        have k59 : 0 ≤ (I56 0 31).toInt ∧ (I56 0 31).toInt ≤ 500 := by rw [fI56 0 31 (by decide)]; exact (by show 0 ≤ (I52 0 31).toInt ∧ (I52 0 31).toInt ≤ 500; rw [eI52, z_up_n (by decide)]; exact hI38mp.1)
        have k60 : 0 ≤ (I56 0 33).toInt ∧ (I56 0 33).toInt ≤ 500 := by rw [fI56 0 33 (by decide)]; exact (by show 0 ≤ (I52 0 33).toInt ∧ (I52 0 33).toInt ≤ 500; rw [eI52, z_up_n (by decide)]; exact hI38mp.2.1)
        have k61 : 0 ≤ (I56 0 34).toInt ∧ (I56 0 34).toInt ≤ 500 := by rw [fI56 0 34 (by decide)]; exact (by show 0 ≤ (I52 0 34).toInt ∧ (I52 0 34).toInt ≤ 500; rw [eI52, z_up_n (by decide)]; exact hI38mp.2.2.1)
        have k62 : 0 ≤ (I56 0 35).toInt ∧ (I56 0 35).toInt ≤ 500 := by rw [fI56 0 35 (by decide)]; exact (by show 0 ≤ (I52 0 35).toInt ∧ (I52 0 35).toInt ≤ 500; rw [eI52, z_up_n (by decide)]; exact hI38mp.2.2.2)
        have k63 : 0 ≤ (I56 0 36).toInt ∧ (I56 0 36).toInt ≤ 4 := by rw [fI56 0 36 (by decide)]; exact (by show 0 ≤ (I52 0 36).toInt ∧ (I52 0 36).toInt ≤ 4; rw [eI52, z_up_n (by decide)]; exact hI38mt.1)
        have k64 : 0 ≤ (I56 0 42).toInt ∧ (I56 0 42).toInt ≤ 1 := by rw [fI56 0 42 (by decide)]; exact (by show 0 ≤ (I52 0 42).toInt ∧ (I52 0 42).toInt ≤ 1; rw [eI52, z_up_n (by decide)]; exact hI38mt.2)
        have k65 : 0 ≤ (I56 0 40).toInt ∧ (I56 0 40).toInt ≤ 6199 := by rw [fI56 0 40 (by decide)]; exact (by show 0 ≤ (I52 0 40).toInt ∧ (I52 0 40).toInt ≤ 6199; rw [eI52, z_up_n (by decide)]; exact k43)
        have k66 : 0 ≤ (I56 0 15).toInt ∧ (I56 0 15).toInt ≤ 6100 := by rw [fI56 0 15 (by decide)]; exact (by show 0 ≤ (I52 0 15).toInt ∧ (I52 0 15).toInt ≤ 6100; rw [eI52, z_up_n (by decide)]; exact k44)
        have k67 : 0 ≤ (I56 0 35).toInt ∧ (I56 0 35).toInt ≤ (I56 0 34).toInt ∧ (I56 0 34).toInt ≤ (I56 0 33).toInt ∧ (I56 0 33).toInt ≤ 500 ∧ ((I56 0 36).toInt = 0 ∨ (I56 0 35).toInt + 1 ≤ (I56 0 34).toInt) := (by have q0 : (I56 0 35) = (I38 0 35) := (by rw [fI56 0 35 (by decide), eI52, z_up_n (by decide)]); have q1 : (I56 0 34) = (I38 0 34) := (by rw [fI56 0 34 (by decide), eI52, z_up_n (by decide)]); have q2 : (I56 0 33) = (I38 0 33) := (by rw [fI56 0 33 (by decide), eI52, z_up_n (by decide)]); have q3 : (I56 0 36) = (I38 0 36) := (by rw [fI56 0 36 (by decide), eI52, z_up_n (by decide)]); show 0 ≤ (I56 0 35).toInt ∧ (I56 0 35).toInt ≤ (I56 0 34).toInt ∧ (I56 0 34).toInt ≤ (I56 0 33).toInt ∧ (I56 0 33).toInt ≤ 500 ∧ ((I56 0 36).toInt = 0 ∨ (I56 0 35).toInt + 1 ≤ (I56 0 34).toInt); rw [q0, q1, q2, q3]; first | omega | decide)
        have k68 : (I56 0 35).toInt = (I38 0 35).toInt := by rw [fI56 0 35 (by decide), eI52, z_up_n (by decide)]
        have k69 : (I56 0 34).toInt = (I38 0 34).toInt := by rw [fI56 0 34 (by decide), eI52, z_up_n (by decide)]
        have k70 : (I56 0 36).toInt = (I38 0 36).toInt := by rw [fI56 0 36 (by decide), eI52, z_up_n (by decide)]
        have k71 : (I56 0 42).toInt = (I38 0 42).toInt := by rw [fI56 0 42 (by decide), eI52, z_up_n (by decide)]
        have k72 : (I56 0 39).toInt = (I38 0 39).toInt := by rw [fI56 0 39 (by decide), eI52, z_up_n (by decide)]
        have k73 : (I56 0 15).toInt = (I38 0 15).toInt := by rw [fI56 0 15 (by decide), eI52, z_up_n (by decide)]
        have k74 : (I56 0 40).toInt = (I38 0 40).toInt := by rw [fI56 0 40 (by decide), eI52, z_up_n (by decide)]
        have h75 := hp
        refine lv_goto (tgt := 175) hx hb dX12_sums_162 (by decide) ?_
        exact z_vret hx hb hr hK hS (Nat.le_of_ble_eq_true rfl) (Nat.le_of_ble_eq_true rfl) hlocks dX12_sums_175 (shM, ad, I56, J58, PM ad) hW ⟨I56, J58, rfl, ⟨(by show 0 ≤ (I56 0 31).toInt ∧ (I56 0 31).toInt ≤ 500; exact k59), (by show 0 ≤ (I56 0 33).toInt ∧ (I56 0 33).toInt ≤ 500; exact k60), (by show 0 ≤ (I56 0 34).toInt ∧ (I56 0 34).toInt ≤ 500; exact k61), (by show 0 ≤ (I56 0 35).toInt ∧ (I56 0 35).toInt ≤ 500; exact k62)⟩, ⟨(by show 0 ≤ (I56 0 36).toInt ∧ (I56 0 36).toInt ≤ 4; exact k63), (by show 0 ≤ (I56 0 42).toInt ∧ (I56 0 42).toInt ≤ 1; exact k64)⟩, ⟨(by show 0 ≤ (I56 0 47).toInt ∧ (I56 0 47).toInt ≤ 119; exact hI56md.1), (by show 0 ≤ (I56 0 39).toInt ∧ (I56 0 39).toInt ≤ 100; exact hI56md.2)⟩, (by show 0 ≤ (I56 0 40).toInt ∧ (I56 0 40).toInt ≤ 6199; exact k65), (by show 0 ≤ (I56 0 15).toInt ∧ (I56 0 15).toInt ≤ 6100; exact k66), (z_Nd_fr a54 fI56 (by decide)), (by show 0 ≤ (I56 0 35).toInt ∧ (I56 0 35).toInt ≤ (I56 0 34).toInt ∧ (I56 0 34).toInt ≤ (I56 0 33).toInt ∧ (I56 0 33).toInt ≤ 500 ∧ ((I56 0 36).toInt = 0 ∨ (I56 0 35).toInt + 1 ≤ (I56 0 34).toInt); first | omega | decide), f57, ((Classical.em ((I56 0 42).toInt = 0)).elim (fun hw9 => Or.inr ⟨a1.toNatClampNeg + 2, by have w1 := z_fw_1np (a := va.toInt) (o := vo.toInt) (by omega) (by omega); have w2 := z_fo_1n (a := va.toInt); have w3 := z_fw_1np (a := va.toInt) (o := x26.toInt) (by omega) (by omega); have w4 := z_fo_1n (a := va.toInt); have w5 := z_fw_20 (a := 0) (o := -1) (by omega); have w6 := z_rk_1; have w7 := z_rk_2; exact z_PUSH (d := a1.toNatClampNeg) (w := 1) (a := va.toInt) (o := x26.toInt) (s := 4) (wi := 2) hPS (fun i hi => ⟨by rw [eI52, z_up_n (by decide), fI38 26 i (z_wr_c (by decide)), eI30, z_up_n (by decide), fI6 26 i (z_wr_c (by decide))], by rw [eI52, z_up_n (by decide), fI38 27 i (z_wr_c (by decide)), eI30, z_up_n (by decide), fI6 27 i (z_wr_c (by decide))], by rw [eI52, z_up_n (by decide), fI38 28 i (z_wr_c (by decide)), eI30, z_up_k (by omega), fI6 28 i (z_wr_c (by decide))], by rw [eI52, z_up_k (by omega), fI38 29 i (z_wr_c (by decide)), eI30, z_up_n (by decide), fI6 29 i (z_wr_c (by decide))]⟩) (by rw [show I52 26 a1.toNatClampNeg = vw from (by rw [eI52, z_up_n (by decide), fI38 26 a1.toNatClampNeg (z_wr_c (by decide)), eI30, z_up_n (by decide), fI6 26 a1.toNatClampNeg (z_wr_c (by decide))]; exact evw.symm)]; exact hvw) (by rw [show I52 27 a1.toNatClampNeg = va from (by rw [eI52, z_up_n (by decide), fI38 27 a1.toNatClampNeg (z_wr_c (by decide)), eI30, z_up_n (by decide), fI6 27 a1.toNatClampNeg (z_wr_c (by decide))]; exact eva.symm)]) (by rw [show I52 28 a1.toNatClampNeg = x26 from (by rw [eI52, z_up_n (by decide), fI38 28 a1.toNatClampNeg (z_wr_c (by decide)), eI30, z_up_s])]) (by rw [show I52 29 a1.toNatClampNeg = 4 from (by rw [eI52, z_up_s])]; exact z_l4) (by unfold z_fv; omega) hwd (by rw [eI52, z_up_n (by decide)]; omega) h75 z_l2 (by omega) (by omega) (by omega) (by omega) (by omega) (by omega) (by omega) (by omega)⟩) Or.inl)⟩
      · refine lv_if_eq (tgt := 119) hx hb dX12_sums_112 (by decide) (fun c76 => ?_) (fun c76 => absurd (by decide) c76)
        refine lv_aload_n hx hb dX12_sums_119 rfl (lv_at hl 0 rfl) ?_
        refine lv_bipush (v := 47) hx hb dX12_sums_120 (by decide) ?_
        refine z_ci hW hS hA (va_runV (As := [.int 47]) (rest := []) ⟨hx, hb, hml, hown, hts⟩ (sx_X12_isSign l G ad I30 J8 ⟨(by show 0 ≤ (I30 0 36).toInt ∧ (I30 0 36).toInt ≤ 4; rw [eI30, z_up_n (by decide)]; exact k13), (by show 0 ≤ (I30 0 42).toInt ∧ (I30 0 42).toInt ≤ 1; rw [eI30, z_up_n (by decide)]; exact k14)⟩ 47 _) (cwV 1 hts gX12_sums_X12_isSign rfl rfl rfl hy_X12_isSign ⟨Nat.le_of_ble_eq_true rfl, Nat.le_of_ble_eq_true rfl⟩) (z_preV (i := 0) hK hW rfl rfl) rfl rfl hl.1 rfl (lv_room (Nat.le_of_ble_eq_true rfl)) dX12_sums_122 ⟨Nat.le_of_ble_eq_true rfl, Nat.le_of_ble_eq_true rfl⟩) (fun r u1 H locs hp hW hS => ?_)
        obtain ⟨e9, hp⟩ := hp
        rw [e9] at hW
        rcases hp with ⟨rfl, h77⟩ | rfl
        · rw [show (I30 0 36) = (I6 0 36) from by rw [eI30, z_up_n (by decide)]] at h77
          have h78 : (I6 0 35).toInt + 1 ≤ (I6 0 34).toInt := by omega
          refine lv_if_eq (tgt := 132) hx hb dX12_sums_125 (by decide) (fun c79 => absurd c79 (by decide)) (fun c79 => ?_)
          refine lv_iconst (v := 5) hx hb dX12_sums_128 (by decide) ?_
          refine lv_goto (tgt := 133) hx hb dX12_sums_129 (by decide) ?_
          refine lv_istore_n (lv' := [(3, .int 5), (0, .ref (ad 0)), (1, .int a1), (2, .int 0)]) hx hb dX12_sums_133 rfl hl (by decide) rfl (fun ls hl => ?_)
          refine lv_iload_n hx hb dX12_sums_134 rfl (lv_at hl 0 rfl) ?_
          refine lv_if_le (tgt := 165) hx hb dX12_sums_135 (by decide) (fun c80 => absurd c80 (by decide)) (fun c80 => ?_)
          refine lv_aload_n hx hb dX12_sums_138 rfl (lv_at hl 1 rfl) ?_
          refine z_cv hW hS hA (va_runV (As := []) (rest := []) ⟨hx, hb, hml, hown, hts⟩ (sx_X12_next l G ad I30 J8 ⟨(by show 0 ≤ (I30 0 31).toInt ∧ (I30 0 31).toInt ≤ 500; rw [eI30, z_up_n (by decide)]; exact k9), (by show 0 ≤ (I30 0 33).toInt ∧ (I30 0 33).toInt ≤ 500; rw [eI30, z_up_n (by decide)]; exact k10), (by show 0 ≤ (I30 0 34).toInt ∧ (I30 0 34).toInt ≤ 500; rw [eI30, z_up_n (by decide)]; exact k11), (by show 0 ≤ (I30 0 35).toInt ∧ (I30 0 35).toInt ≤ 500; rw [eI30, z_up_n (by decide)]; exact k12)⟩ ⟨(by show 0 ≤ (I30 0 36).toInt ∧ (I30 0 36).toInt ≤ 4; rw [eI30, z_up_n (by decide)]; exact k13), (by show 0 ≤ (I30 0 42).toInt ∧ (I30 0 42).toInt ≤ 1; rw [eI30, z_up_n (by decide)]; exact k14)⟩ (by have q0 : (I30 0 34) = (I6 0 34) := (by rw [eI30, z_up_n (by decide)]); have q1 : (I30 0 33) = (I6 0 33) := (by rw [eI30, z_up_n (by decide)]); show 0 ≤ (I30 0 34).toInt ∧ (I30 0 34).toInt ≤ (I30 0 33).toInt ∧ (I30 0 33).toInt ≤ 500; rw [q0, q1]; first | omega | decide)  _) (cwV 0 hts gX12_sums_X12_next rfl rfl rfl hy_X12_next ⟨Nat.le_of_ble_eq_true rfl, Nat.le_of_ble_eq_true rfl⟩) (z_preV (i := 0) hK hW rfl rfl) rfl rfl hl.1 rfl (lv_room (Nat.le_of_ble_eq_true rfl)) dX12_sums_139 ⟨Nat.le_of_ble_eq_true rfl, Nat.le_of_ble_eq_true rfl⟩) (fun u1 H locs hp hW hS => ?_)
          obtain ⟨I81, J83, e9, hI81mp, hI81mt, hI81rp, fI81, hp⟩ := hp
          rw [e9] at hW
          have f82 := z_fr_sub (L := L_X12_sums_0) f31 fI81 (by decide)
          have k84 : 0 ≤ (I81 0 47).toInt ∧ (I81 0 47).toInt ≤ 119 := by rw [fI81 0 47 (by decide)]; exact (by show 0 ≤ (I30 0 47).toInt ∧ (I30 0 47).toInt ≤ 119; rw [eI30, z_up_n (by decide)]; exact k15)
          have k85 : 0 ≤ (I81 0 39).toInt ∧ (I81 0 39).toInt ≤ 100 := by rw [fI81 0 39 (by decide)]; exact (by show 0 ≤ (I30 0 39).toInt ∧ (I30 0 39).toInt ≤ 100; rw [eI30, z_up_n (by decide)]; exact k16)
          have k86 : 0 ≤ (I81 0 40).toInt ∧ (I81 0 40).toInt ≤ 6199 := by rw [fI81 0 40 (by decide)]; exact (by show 0 ≤ (I30 0 40).toInt ∧ (I30 0 40).toInt ≤ 6199; rw [eI30, z_up_n (by decide)]; exact k17)
          have k87 : 0 ≤ (I81 0 15).toInt ∧ (I81 0 15).toInt ≤ 6100 := by rw [fI81 0 15 (by decide)]; exact (by show 0 ≤ (I30 0 15).toInt ∧ (I30 0 15).toInt ≤ 6100; rw [eI30, z_up_n (by decide)]; exact hI6mn)
          have k88 : 0 ≤ (I81 0 35).toInt ∧ (I81 0 35).toInt ≤ (I81 0 34).toInt ∧ (I81 0 34).toInt ≤ (I81 0 33).toInt ∧ (I81 0 33).toInt ≤ 500 ∧ ((I81 0 36).toInt = 0 ∨ (I81 0 35).toInt + 1 ≤ (I81 0 34).toInt) := hI81rp
          have k89 : (I81 0 42).toInt = (I6 0 42).toInt := by rw [fI81 0 42 (by decide), eI30, z_up_n (by decide)]
          have k90 : (I81 0 47).toInt = (I6 0 47).toInt := by rw [fI81 0 47 (by decide), eI30, z_up_n (by decide)]
          have k91 : (I81 0 39).toInt = (I6 0 39).toInt := by rw [fI81 0 39 (by decide), eI30, z_up_n (by decide)]
          have k92 : (I81 0 15).toInt = (I6 0 15).toInt := by rw [fI81 0 15 (by decide), eI30, z_up_n (by decide)]
          have k93 : (I81 0 40).toInt = (I6 0 40).toInt := by rw [fI81 0 40 (by decide), eI30, z_up_n (by decide)]
          have h94 := hp
          rw [show (I30 0 34) = (I6 0 34) from by rw [eI30, z_up_n (by decide)]] at h94
          refine lv_aload_n hx hb dX12_sums_142 rfl (lv_at hl 1 rfl) ?_
          refine z_get (T := TX12) (N := 96) (ci := 12) (i := 0) (v := .ref (ad 29)) hx hb hts zj_X12_sums_X12 hown hK hW rfl rfl 46 (by decide) (hts (.fieldLink RX12 100 "PetrolBoardModel" "sort" "[I") (me_s (me_l (me_l (List.mem_of_getElem? (i := 3) rfl))))) (fun _ h => h) rfl dX12_sums_143 ?_
          refine lv_iload_n hx hb dX12_sums_146 rfl (lv_at hl 2 rfl) ?_
          refine lv_iload_n hx hb dX12_sums_147 rfl (lv_at hl 0 rfl) ?_
          refine z_iast (i := 29) hx hb hK hW hS rfl (z_ix rfl (by omega) (by omega)) dX12_sums_148 (fun H locs hz1 hW hS => ?_)
          obtain ⟨I95, eI95⟩ : ∃ K : z_I, K = z_up I81 29 a1.toNatClampNeg 5 := ⟨_, rfl⟩
          rw [← eI95] at hW
          have f96 := z_fr_a f82 (show z_wa L_X12_sums_0 29 = true by decide) eI95
          have a97 := z_Nd_n (z_Nd_fr a32 fI81 (by decide)) (by decide) eI95
          refine lv_aload_n hx hb dX12_sums_149 rfl (lv_at hl 1 rfl) ?_
          refine lv_iload_n hx hb dX12_sums_150 rfl (lv_at hl 3 rfl) ?_
          refine lv_if_eq (tgt := 158) hx hb dX12_sums_151 (by decide) (fun c98 => ?_) (fun c98 => absurd (by decide) c98)
          refine lv_iconst (v := 2) hx hb dX12_sums_158 (by decide) ?_
          refine z_cv hW hS hA (va_runV (As := [.int 2]) (rest := []) ⟨hx, hb, hml, hown, hts⟩ (sx_X12_begin l G ad I95 J83 ⟨(by show 0 ≤ (I95 0 47).toInt ∧ (I95 0 47).toInt ≤ 119; rw [eI95, z_up_n (by decide)]; exact k84), (by show 0 ≤ (I95 0 39).toInt ∧ (I95 0 39).toInt ≤ 100; rw [eI95, z_up_n (by decide)]; exact k85)⟩ 2 (by have q0 : (I95 0 47) = (I81 0 47) := (by rw [eI95, z_up_n (by decide)]); show (I95 0 47).toInt ≤ 118; rw [q0]; omega) _) (cwV 1 hts gX12_sums_X12_begin rfl rfl rfl hy_X12_begin ⟨Nat.le_of_ble_eq_true rfl, Nat.le_of_ble_eq_true rfl⟩) (z_preV (i := 0) hK hW rfl rfl) rfl rfl hl.1 rfl (lv_room (Nat.le_of_ble_eq_true rfl)) dX12_sums_159 ⟨Nat.le_of_ble_eq_true rfl, Nat.le_of_ble_eq_true rfl⟩) (fun u1 H locs hp hW hS => ?_)
          obtain ⟨I99, J101, e9, hI99md, fI99, hp⟩ := hp
          rw [e9] at hW
          have f100 := z_fr_sub (L := L_X12_sums_0) f96 fI99 (by decide)
          have k102 : 0 ≤ (I99 0 31).toInt ∧ (I99 0 31).toInt ≤ 500 := by rw [fI99 0 31 (by decide)]; exact (by show 0 ≤ (I95 0 31).toInt ∧ (I95 0 31).toInt ≤ 500; rw [eI95, z_up_n (by decide)]; exact hI81mp.1)
          have k103 : 0 ≤ (I99 0 33).toInt ∧ (I99 0 33).toInt ≤ 500 := by rw [fI99 0 33 (by decide)]; exact (by show 0 ≤ (I95 0 33).toInt ∧ (I95 0 33).toInt ≤ 500; rw [eI95, z_up_n (by decide)]; exact hI81mp.2.1)
          have k104 : 0 ≤ (I99 0 34).toInt ∧ (I99 0 34).toInt ≤ 500 := by rw [fI99 0 34 (by decide)]; exact (by show 0 ≤ (I95 0 34).toInt ∧ (I95 0 34).toInt ≤ 500; rw [eI95, z_up_n (by decide)]; exact hI81mp.2.2.1)
          have k105 : 0 ≤ (I99 0 35).toInt ∧ (I99 0 35).toInt ≤ 500 := by rw [fI99 0 35 (by decide)]; exact (by show 0 ≤ (I95 0 35).toInt ∧ (I95 0 35).toInt ≤ 500; rw [eI95, z_up_n (by decide)]; exact hI81mp.2.2.2)
          have k106 : 0 ≤ (I99 0 36).toInt ∧ (I99 0 36).toInt ≤ 4 := by rw [fI99 0 36 (by decide)]; exact (by show 0 ≤ (I95 0 36).toInt ∧ (I95 0 36).toInt ≤ 4; rw [eI95, z_up_n (by decide)]; exact hI81mt.1)
          have k107 : 0 ≤ (I99 0 42).toInt ∧ (I99 0 42).toInt ≤ 1 := by rw [fI99 0 42 (by decide)]; exact (by show 0 ≤ (I95 0 42).toInt ∧ (I95 0 42).toInt ≤ 1; rw [eI95, z_up_n (by decide)]; exact hI81mt.2)
          have k108 : 0 ≤ (I99 0 40).toInt ∧ (I99 0 40).toInt ≤ 6199 := by rw [fI99 0 40 (by decide)]; exact (by show 0 ≤ (I95 0 40).toInt ∧ (I95 0 40).toInt ≤ 6199; rw [eI95, z_up_n (by decide)]; exact k86)
          have k109 : 0 ≤ (I99 0 15).toInt ∧ (I99 0 15).toInt ≤ 6100 := by rw [fI99 0 15 (by decide)]; exact (by show 0 ≤ (I95 0 15).toInt ∧ (I95 0 15).toInt ≤ 6100; rw [eI95, z_up_n (by decide)]; exact k87)
          have k110 : 0 ≤ (I99 0 35).toInt ∧ (I99 0 35).toInt ≤ (I99 0 34).toInt ∧ (I99 0 34).toInt ≤ (I99 0 33).toInt ∧ (I99 0 33).toInt ≤ 500 ∧ ((I99 0 36).toInt = 0 ∨ (I99 0 35).toInt + 1 ≤ (I99 0 34).toInt) := (by have q0 : (I99 0 35) = (I81 0 35) := (by rw [fI99 0 35 (by decide), eI95, z_up_n (by decide)]); have q1 : (I99 0 34) = (I81 0 34) := (by rw [fI99 0 34 (by decide), eI95, z_up_n (by decide)]); have q2 : (I99 0 33) = (I81 0 33) := (by rw [fI99 0 33 (by decide), eI95, z_up_n (by decide)]); have q3 : (I99 0 36) = (I81 0 36) := (by rw [fI99 0 36 (by decide), eI95, z_up_n (by decide)]); show 0 ≤ (I99 0 35).toInt ∧ (I99 0 35).toInt ≤ (I99 0 34).toInt ∧ (I99 0 34).toInt ≤ (I99 0 33).toInt ∧ (I99 0 33).toInt ≤ 500 ∧ ((I99 0 36).toInt = 0 ∨ (I99 0 35).toInt + 1 ≤ (I99 0 34).toInt); rw [q0, q1, q2, q3]; first | omega | decide)
          have k111 : (I99 0 35).toInt = (I81 0 35).toInt := by rw [fI99 0 35 (by decide), eI95, z_up_n (by decide)]
          have k112 : (I99 0 34).toInt = (I81 0 34).toInt := by rw [fI99 0 34 (by decide), eI95, z_up_n (by decide)]
          have k113 : (I99 0 36).toInt = (I81 0 36).toInt := by rw [fI99 0 36 (by decide), eI95, z_up_n (by decide)]
          have k114 : (I99 0 42).toInt = (I81 0 42).toInt := by rw [fI99 0 42 (by decide), eI95, z_up_n (by decide)]
          have k115 : (I99 0 39).toInt = (I81 0 39).toInt := by rw [fI99 0 39 (by decide), eI95, z_up_n (by decide)]
          have k116 : (I99 0 15).toInt = (I81 0 15).toInt := by rw [fI99 0 15 (by decide), eI95, z_up_n (by decide)]
          have k117 : (I99 0 40).toInt = (I81 0 40).toInt := by rw [fI99 0 40 (by decide), eI95, z_up_n (by decide)]
          have h118 := hp
          refine lv_goto (tgt := 175) hx hb dX12_sums_162 (by decide) ?_
          exact z_vret hx hb hr hK hS (Nat.le_of_ble_eq_true rfl) (Nat.le_of_ble_eq_true rfl) hlocks dX12_sums_175 (shM, ad, I99, J101, PM ad) hW ⟨I99, J101, rfl, ⟨(by show 0 ≤ (I99 0 31).toInt ∧ (I99 0 31).toInt ≤ 500; exact k102), (by show 0 ≤ (I99 0 33).toInt ∧ (I99 0 33).toInt ≤ 500; exact k103), (by show 0 ≤ (I99 0 34).toInt ∧ (I99 0 34).toInt ≤ 500; exact k104), (by show 0 ≤ (I99 0 35).toInt ∧ (I99 0 35).toInt ≤ 500; exact k105)⟩, ⟨(by show 0 ≤ (I99 0 36).toInt ∧ (I99 0 36).toInt ≤ 4; exact k106), (by show 0 ≤ (I99 0 42).toInt ∧ (I99 0 42).toInt ≤ 1; exact k107)⟩, ⟨(by show 0 ≤ (I99 0 47).toInt ∧ (I99 0 47).toInt ≤ 119; exact hI99md.1), (by show 0 ≤ (I99 0 39).toInt ∧ (I99 0 39).toInt ≤ 100; exact hI99md.2)⟩, (by show 0 ≤ (I99 0 40).toInt ∧ (I99 0 40).toInt ≤ 6199; exact k108), (by show 0 ≤ (I99 0 15).toInt ∧ (I99 0 15).toInt ≤ 6100; exact k109), (z_Nd_fr a97 fI99 (by decide)), (by show 0 ≤ (I99 0 35).toInt ∧ (I99 0 35).toInt ≤ (I99 0 34).toInt ∧ (I99 0 34).toInt ≤ (I99 0 33).toInt ∧ (I99 0 33).toInt ≤ 500 ∧ ((I99 0 36).toInt = 0 ∨ (I99 0 35).toInt + 1 ≤ (I99 0 34).toInt); first | omega | decide), f100, ((Classical.em ((I99 0 42).toInt = 0)).elim (fun hw9 => Or.inr ⟨a1.toNatClampNeg + 2, by have w1 := z_fw_1np (a := va.toInt) (o := vo.toInt) (by omega) (by omega); have w2 := z_fo_1n (a := va.toInt); have w3 := z_fw_1np (a := va.toInt) (o := x26.toInt) (by omega) (by omega); have w4 := z_fo_1n (a := va.toInt); have w5 := z_fw_20 (a := 0) (o := -1) (by omega); have w6 := z_rk_1; have w7 := z_rk_2; exact z_PUSH (d := a1.toNatClampNeg) (w := 1) (a := va.toInt) (o := x26.toInt) (s := 5) (wi := 2) hPS (fun i hi => ⟨by rw [eI95, z_up_n (by decide), fI81 26 i (z_wr_c (by decide)), eI30, z_up_n (by decide), fI6 26 i (z_wr_c (by decide))], by rw [eI95, z_up_n (by decide), fI81 27 i (z_wr_c (by decide)), eI30, z_up_n (by decide), fI6 27 i (z_wr_c (by decide))], by rw [eI95, z_up_n (by decide), fI81 28 i (z_wr_c (by decide)), eI30, z_up_k (by omega), fI6 28 i (z_wr_c (by decide))], by rw [eI95, z_up_k (by omega), fI81 29 i (z_wr_c (by decide)), eI30, z_up_n (by decide), fI6 29 i (z_wr_c (by decide))]⟩) (by rw [show I95 26 a1.toNatClampNeg = vw from (by rw [eI95, z_up_n (by decide), fI81 26 a1.toNatClampNeg (z_wr_c (by decide)), eI30, z_up_n (by decide), fI6 26 a1.toNatClampNeg (z_wr_c (by decide))]; exact evw.symm)]; exact hvw) (by rw [show I95 27 a1.toNatClampNeg = va from (by rw [eI95, z_up_n (by decide), fI81 27 a1.toNatClampNeg (z_wr_c (by decide)), eI30, z_up_n (by decide), fI6 27 a1.toNatClampNeg (z_wr_c (by decide))]; exact eva.symm)]) (by rw [show I95 28 a1.toNatClampNeg = x26 from (by rw [eI95, z_up_n (by decide), fI81 28 a1.toNatClampNeg (z_wr_c (by decide)), eI30, z_up_s])]) (by rw [show I95 29 a1.toNatClampNeg = 5 from (by rw [eI95, z_up_s])]; exact z_l5) (by unfold z_fv; omega) hwd (by rw [eI95, z_up_n (by decide)]; omega) h118 z_l2 (by omega) (by omega) (by omega) (by omega) (by omega) (by omega) (by omega) (by omega)⟩) Or.inl)⟩
        · refine lv_if_eq (tgt := 132) hx hb dX12_sums_125 (by decide) (fun c119 => ?_) (fun c119 => absurd (by decide) c119)
          refine lv_iconst (v := 0) hx hb dX12_sums_132 (by decide) ?_
          refine lv_istore_n (lv' := [(3, .int 0), (0, .ref (ad 0)), (1, .int a1), (2, .int 0)]) hx hb dX12_sums_133 rfl hl (by decide) rfl (fun ls hl => ?_)
          refine lv_iload_n hx hb dX12_sums_134 rfl (lv_at hl 0 rfl) ?_
          refine lv_if_le (tgt := 165) hx hb dX12_sums_135 (by decide) (fun c120 => ?_) (fun c120 => absurd (by decide) c120)
          refine lv_aload_n hx hb dX12_sums_165 rfl (lv_at hl 1 rfl) ?_
          refine lv_aload_n hx hb dX12_sums_166 rfl (lv_at hl 1 rfl) ?_
          refine z_get (T := TX12) (N := 96) (ci := 12) (i := 0) (v := .ref (ad 28)) hx hb hts zj_X12_sums_X12 hown hK hW rfl rfl 45 (by decide) (hts (.fieldLink RX12 97 "PetrolBoardModel" "one" "[I") (me_s (me_l (me_l (List.mem_of_getElem? (i := 1) rfl))))) (fun _ h => h) rfl dX12_sums_167 ?_
          refine lv_iload_n hx hb dX12_sums_170 rfl (lv_at hl 2 rfl) ?_
          refine z_iald (i := 28) hx hb hK hW rfl (z_ix rfl (by omega) (by omega)) dX12_sums_171 ?_
          refine z_topi (v := x26) (by rw [eI30, z_up_s]) ?_
          refine z_cv hW hS hA (va_runV (As := [.int x26]) (rest := []) ⟨hx, hb, hml, hown, hts⟩ (sx_X12_ends l G ad I30 J8 ⟨(by show 0 ≤ (I30 0 47).toInt ∧ (I30 0 47).toInt ≤ 119; rw [eI30, z_up_n (by decide)]; exact k15), (by show 0 ≤ (I30 0 39).toInt ∧ (I30 0 39).toInt ≤ 100; rw [eI30, z_up_n (by decide)]; exact k16)⟩ (by show 0 ≤ (I30 0 40).toInt ∧ (I30 0 40).toInt ≤ 6199; rw [eI30, z_up_n (by decide)]; exact k17) x26 (by first | omega | decide) (by have q0 : (I30 0 47) = (I6 0 47) := (by rw [eI30, z_up_n (by decide)]); show 1 ≤ (I30 0 47).toInt; rw [q0]; omega) _) (cwV 1 hts gX12_sums_X12_ends rfl rfl rfl hy_X12_ends ⟨Nat.le_of_ble_eq_true rfl, Nat.le_of_ble_eq_true rfl⟩) (z_preV (i := 0) hK hW rfl rfl) rfl rfl hl.1 rfl (lv_room (Nat.le_of_ble_eq_true rfl)) dX12_sums_172 ⟨Nat.le_of_ble_eq_true rfl, Nat.le_of_ble_eq_true rfl⟩) (fun u1 H locs hp hW hS => ?_)
          obtain ⟨I121, J123, e9, hI121md, hI121mg, fI121, hp⟩ := hp
          rw [e9] at hW
          have f122 := z_fr_sub (L := L_X12_sums_0) f31 fI121 (by decide)
          have k124 : 0 ≤ (I121 0 31).toInt ∧ (I121 0 31).toInt ≤ 500 := by rw [fI121 0 31 (by decide)]; exact (by show 0 ≤ (I30 0 31).toInt ∧ (I30 0 31).toInt ≤ 500; rw [eI30, z_up_n (by decide)]; exact k9)
          have k125 : 0 ≤ (I121 0 33).toInt ∧ (I121 0 33).toInt ≤ 500 := by rw [fI121 0 33 (by decide)]; exact (by show 0 ≤ (I30 0 33).toInt ∧ (I30 0 33).toInt ≤ 500; rw [eI30, z_up_n (by decide)]; exact k10)
          have k126 : 0 ≤ (I121 0 34).toInt ∧ (I121 0 34).toInt ≤ 500 := by rw [fI121 0 34 (by decide)]; exact (by show 0 ≤ (I30 0 34).toInt ∧ (I30 0 34).toInt ≤ 500; rw [eI30, z_up_n (by decide)]; exact k11)
          have k127 : 0 ≤ (I121 0 35).toInt ∧ (I121 0 35).toInt ≤ 500 := by rw [fI121 0 35 (by decide)]; exact (by show 0 ≤ (I30 0 35).toInt ∧ (I30 0 35).toInt ≤ 500; rw [eI30, z_up_n (by decide)]; exact k12)
          have k128 : 0 ≤ (I121 0 36).toInt ∧ (I121 0 36).toInt ≤ 4 := by rw [fI121 0 36 (by decide)]; exact (by show 0 ≤ (I30 0 36).toInt ∧ (I30 0 36).toInt ≤ 4; rw [eI30, z_up_n (by decide)]; exact k13)
          have k129 : 0 ≤ (I121 0 42).toInt ∧ (I121 0 42).toInt ≤ 1 := by rw [fI121 0 42 (by decide)]; exact (by show 0 ≤ (I30 0 42).toInt ∧ (I30 0 42).toInt ≤ 1; rw [eI30, z_up_n (by decide)]; exact k14)
          have k130 : 0 ≤ (I121 0 15).toInt ∧ (I121 0 15).toInt ≤ 6100 := by rw [fI121 0 15 (by decide)]; exact (by show 0 ≤ (I30 0 15).toInt ∧ (I30 0 15).toInt ≤ 6100; rw [eI30, z_up_n (by decide)]; exact hI6mn)
          have k131 : 0 ≤ (I121 0 35).toInt ∧ (I121 0 35).toInt ≤ (I121 0 34).toInt ∧ (I121 0 34).toInt ≤ (I121 0 33).toInt ∧ (I121 0 33).toInt ≤ 500 ∧ ((I121 0 36).toInt = 0 ∨ (I121 0 35).toInt + 1 ≤ (I121 0 34).toInt) := (by have q0 : (I121 0 35) = (I6 0 35) := (by rw [fI121 0 35 (by decide), eI30, z_up_n (by decide)]); have q1 : (I121 0 34) = (I6 0 34) := (by rw [fI121 0 34 (by decide), eI30, z_up_n (by decide)]); have q2 : (I121 0 33) = (I6 0 33) := (by rw [fI121 0 33 (by decide), eI30, z_up_n (by decide)]); have q3 : (I121 0 36) = (I6 0 36) := (by rw [fI121 0 36 (by decide), eI30, z_up_n (by decide)]); show 0 ≤ (I121 0 35).toInt ∧ (I121 0 35).toInt ≤ (I121 0 34).toInt ∧ (I121 0 34).toInt ≤ (I121 0 33).toInt ∧ (I121 0 33).toInt ≤ 500 ∧ ((I121 0 36).toInt = 0 ∨ (I121 0 35).toInt + 1 ≤ (I121 0 34).toInt); rw [q0, q1, q2, q3]; first | omega | decide)
          have k132 : (I121 0 35).toInt = (I6 0 35).toInt := by rw [fI121 0 35 (by decide), eI30, z_up_n (by decide)]
          have k133 : (I121 0 34).toInt = (I6 0 34).toInt := by rw [fI121 0 34 (by decide), eI30, z_up_n (by decide)]
          have k134 : (I121 0 36).toInt = (I6 0 36).toInt := by rw [fI121 0 36 (by decide), eI30, z_up_n (by decide)]
          have k135 : (I121 0 42).toInt = (I6 0 42).toInt := by rw [fI121 0 42 (by decide), eI30, z_up_n (by decide)]
          have k136 : (I121 0 39).toInt = (I6 0 39).toInt := by rw [fI121 0 39 (by decide), eI30, z_up_n (by decide)]
          have k137 : (I121 0 15).toInt = (I6 0 15).toInt := by rw [fI121 0 15 (by decide), eI30, z_up_n (by decide)]
          have h138 := hp
          rw [show (I30 0 47) = (I6 0 47) from by rw [eI30, z_up_n (by decide)]] at h138
          exact z_vret hx hb hr hK hS (Nat.le_of_ble_eq_true rfl) (Nat.le_of_ble_eq_true rfl) hlocks dX12_sums_175 (shM, ad, I121, J123, PM ad) hW ⟨I121, J123, rfl, ⟨(by show 0 ≤ (I121 0 31).toInt ∧ (I121 0 31).toInt ≤ 500; exact k124), (by show 0 ≤ (I121 0 33).toInt ∧ (I121 0 33).toInt ≤ 500; exact k125), (by show 0 ≤ (I121 0 34).toInt ∧ (I121 0 34).toInt ≤ 500; exact k126), (by show 0 ≤ (I121 0 35).toInt ∧ (I121 0 35).toInt ≤ 500; exact k127)⟩, ⟨(by show 0 ≤ (I121 0 36).toInt ∧ (I121 0 36).toInt ≤ 4; exact k128), (by show 0 ≤ (I121 0 42).toInt ∧ (I121 0 42).toInt ≤ 1; exact k129)⟩, ⟨(by show 0 ≤ (I121 0 47).toInt ∧ (I121 0 47).toInt ≤ 119; exact hI121md.1), (by show 0 ≤ (I121 0 39).toInt ∧ (I121 0 39).toInt ≤ 100; exact hI121md.2)⟩, (by show 0 ≤ (I121 0 40).toInt ∧ (I121 0 40).toInt ≤ 6199; exact hI121mg), (by show 0 ≤ (I121 0 15).toInt ∧ (I121 0 15).toInt ≤ 6100; exact k130), (z_Nd_fr a32 fI121 (by decide)), (by show 0 ≤ (I121 0 35).toInt ∧ (I121 0 35).toInt ≤ (I121 0 34).toInt ∧ (I121 0 34).toInt ≤ (I121 0 33).toInt ∧ (I121 0 33).toInt ≤ 500 ∧ ((I121 0 36).toInt = 0 ∨ (I121 0 35).toInt + 1 ≤ (I121 0 34).toInt); first | omega | decide), f122, ((Classical.em ((I121 0 42).toInt = 0)).elim (fun hw9 => Or.inr ⟨a1.toNatClampNeg, by have w1 := z_fw_1np (a := va.toInt) (o := vo.toInt) (by omega) (by omega); have w2 := z_fo_1n (a := va.toInt); exact z_POP (d := a1.toNatClampNeg) hPS (fun i hi => ⟨by rw [fI121 26 i (z_wr_c (by decide)), eI30, z_up_n (by decide), fI6 26 i (z_wr_c (by decide))], by rw [fI121 27 i (z_wr_c (by decide)), eI30, z_up_n (by decide), fI6 27 i (z_wr_c (by decide))], by rw [fI121 28 i (z_wr_c (by decide)), eI30, z_up_k (by omega), fI6 28 i (z_wr_c (by decide))], by rw [fI121 29 i (z_wr_c (by decide)), eI30, z_up_n (by decide), fI6 29 i (z_wr_c (by decide))]⟩) (by omega) (by omega) (by omega) (by omega) (by omega) (by omega)⟩) Or.inl)⟩
    · have g139 := z_f_nge rfl z_l0 c3
      refine lv_aload_n hx hb dX12_sums_44 rfl (lv_at hl 0 rfl) ?_
      have r140 : 0 ≤ (I 0 40).toInt ∧ (I 0 40).toInt ≤ 6199 := hmg
      refine z_get (T := TX12) (N := 96) (ci := 12) (i := 0) (v := .int (I 0 40)) hx hb hts zj_X12_sums_X12 hown hK hW rfl rfl 40 (by decide) (hts (.fieldLink RX12 343 "PetrolBoardModel" "got" "I") (me_s (me_l (me_l (List.mem_of_getElem? (i := 2) rfl))))) (fun _ h => h) rfl dX12_sums_45 ?_
      refine lv_goto (tgt := 71) hx hb dX12_sums_48 (by decide) ?_
      refine z_iast (i := 28) hx hb hK hW hS rfl (z_ix rfl (by omega) (by omega)) dX12_sums_71 (fun H locs hz1 hW hS => ?_)
      obtain ⟨I141, eI141⟩ : ∃ K : z_I, K = z_up I 28 a1.toNatClampNeg (I 0 40) := ⟨_, rfl⟩
      rw [← eI141] at hW
      have f142 := z_fr_a z_fr_0 (show z_wa L_X12_sums_0 28 = true by decide) eI141
      have a143 := z_Nd_n hNd (by decide) eI141
      refine lv_iload_n hx hb dX12_sums_72 rfl (lv_at hl 2 rfl) ?_
      refine lv_if_eq (tgt := 106) hx hb dX12_sums_73 (by decide) (fun c144 => ?_) (fun c144 => absurd (by decide) c144)
      refine lv_aload_n hx hb dX12_sums_106 rfl (lv_at hl 0 rfl) ?_
      refine lv_bipush (v := 42) hx hb dX12_sums_107 (by decide) ?_
      refine z_ci hW hS hA (va_runV (As := [.int 42]) (rest := []) ⟨hx, hb, hml, hown, hts⟩ (sx_X12_isSign l G ad I141 J ⟨(by show 0 ≤ (I141 0 36).toInt ∧ (I141 0 36).toInt ≤ 4; rw [eI141, z_up_n (by decide)]; exact hmt.1), (by show 0 ≤ (I141 0 42).toInt ∧ (I141 0 42).toInt ≤ 1; rw [eI141, z_up_n (by decide)]; exact hmt.2)⟩ 42 _) (cwV 1 hts gX12_sums_X12_isSign rfl rfl rfl hy_X12_isSign ⟨Nat.le_of_ble_eq_true rfl, Nat.le_of_ble_eq_true rfl⟩) (z_preV (i := 0) hK hW rfl rfl) rfl rfl hl.1 rfl (lv_room (Nat.le_of_ble_eq_true rfl)) dX12_sums_109 ⟨Nat.le_of_ble_eq_true rfl, Nat.le_of_ble_eq_true rfl⟩) (fun r u1 H locs hp hW hS => ?_)
      obtain ⟨e9, hp⟩ := hp
      rw [e9] at hW
      rcases hp with ⟨rfl, h145⟩ | rfl
      · rw [show (I141 0 36) = (I 0 36) from by rw [eI141, z_up_n (by decide)]] at h145
        have h146 : (I 0 35).toInt + 1 ≤ (I 0 34).toInt := by omega
        refine lv_if_eq (tgt := 119) hx hb dX12_sums_112 (by decide) (fun c147 => absurd c147 (by decide)) (fun c147 => ?_)
        refine lv_iconst (v := 4) hx hb dX12_sums_115 (by decide) ?_
        refine lv_goto (tgt := 133) hx hb dX12_sums_116 (by decide) ?_
        refine lv_istore_n (lv' := [(3, .int 4), (0, .ref (ad 0)), (1, .int a1), (2, .int 0)]) hx hb dX12_sums_133 rfl hl (by decide) rfl (fun ls hl => ?_)
        refine lv_iload_n hx hb dX12_sums_134 rfl (lv_at hl 0 rfl) ?_
        refine lv_if_le (tgt := 165) hx hb dX12_sums_135 (by decide) (fun c148 => absurd c148 (by decide)) (fun c148 => ?_)
        refine lv_aload_n hx hb dX12_sums_138 rfl (lv_at hl 1 rfl) ?_
        refine z_cv hW hS hA (va_runV (As := []) (rest := []) ⟨hx, hb, hml, hown, hts⟩ (sx_X12_next l G ad I141 J ⟨(by show 0 ≤ (I141 0 31).toInt ∧ (I141 0 31).toInt ≤ 500; rw [eI141, z_up_n (by decide)]; exact hmp.1), (by show 0 ≤ (I141 0 33).toInt ∧ (I141 0 33).toInt ≤ 500; rw [eI141, z_up_n (by decide)]; exact hmp.2.1), (by show 0 ≤ (I141 0 34).toInt ∧ (I141 0 34).toInt ≤ 500; rw [eI141, z_up_n (by decide)]; exact hmp.2.2.1), (by show 0 ≤ (I141 0 35).toInt ∧ (I141 0 35).toInt ≤ 500; rw [eI141, z_up_n (by decide)]; exact hmp.2.2.2)⟩ ⟨(by show 0 ≤ (I141 0 36).toInt ∧ (I141 0 36).toInt ≤ 4; rw [eI141, z_up_n (by decide)]; exact hmt.1), (by show 0 ≤ (I141 0 42).toInt ∧ (I141 0 42).toInt ≤ 1; rw [eI141, z_up_n (by decide)]; exact hmt.2)⟩ (by have q0 : (I141 0 34) = (I 0 34) := (by rw [eI141, z_up_n (by decide)]); have q1 : (I141 0 33) = (I 0 33) := (by rw [eI141, z_up_n (by decide)]); show 0 ≤ (I141 0 34).toInt ∧ (I141 0 34).toInt ≤ (I141 0 33).toInt ∧ (I141 0 33).toInt ≤ 500; rw [q0, q1]; first | omega | decide)  _) (cwV 0 hts gX12_sums_X12_next rfl rfl rfl hy_X12_next ⟨Nat.le_of_ble_eq_true rfl, Nat.le_of_ble_eq_true rfl⟩) (z_preV (i := 0) hK hW rfl rfl) rfl rfl hl.1 rfl (lv_room (Nat.le_of_ble_eq_true rfl)) dX12_sums_139 ⟨Nat.le_of_ble_eq_true rfl, Nat.le_of_ble_eq_true rfl⟩) (fun u1 H locs hp hW hS => ?_)
        obtain ⟨I149, J151, e9, hI149mp, hI149mt, hI149rp, fI149, hp⟩ := hp
        rw [e9] at hW
        have f150 := z_fr_sub (L := L_X12_sums_0) f142 fI149 (by decide)
        have k152 : 0 ≤ (I149 0 47).toInt ∧ (I149 0 47).toInt ≤ 119 := by rw [fI149 0 47 (by decide)]; exact (by show 0 ≤ (I141 0 47).toInt ∧ (I141 0 47).toInt ≤ 119; rw [eI141, z_up_n (by decide)]; exact hmd.1)
        have k153 : 0 ≤ (I149 0 39).toInt ∧ (I149 0 39).toInt ≤ 100 := by rw [fI149 0 39 (by decide)]; exact (by show 0 ≤ (I141 0 39).toInt ∧ (I141 0 39).toInt ≤ 100; rw [eI141, z_up_n (by decide)]; exact hmd.2)
        have k154 : 0 ≤ (I149 0 40).toInt ∧ (I149 0 40).toInt ≤ 6199 := by rw [fI149 0 40 (by decide)]; exact (by show 0 ≤ (I141 0 40).toInt ∧ (I141 0 40).toInt ≤ 6199; rw [eI141, z_up_n (by decide)]; exact hmg)
        have k155 : 0 ≤ (I149 0 15).toInt ∧ (I149 0 15).toInt ≤ 6100 := by rw [fI149 0 15 (by decide)]; exact (by show 0 ≤ (I141 0 15).toInt ∧ (I141 0 15).toInt ≤ 6100; rw [eI141, z_up_n (by decide)]; exact hmn)
        have k156 : 0 ≤ (I149 0 35).toInt ∧ (I149 0 35).toInt ≤ (I149 0 34).toInt ∧ (I149 0 34).toInt ≤ (I149 0 33).toInt ∧ (I149 0 33).toInt ≤ 500 ∧ ((I149 0 36).toInt = 0 ∨ (I149 0 35).toInt + 1 ≤ (I149 0 34).toInt) := hI149rp
        have k157 : (I149 0 42).toInt = (I 0 42).toInt := by rw [fI149 0 42 (by decide), eI141, z_up_n (by decide)]
        have k158 : (I149 0 47).toInt = (I 0 47).toInt := by rw [fI149 0 47 (by decide), eI141, z_up_n (by decide)]
        have k159 : (I149 0 39).toInt = (I 0 39).toInt := by rw [fI149 0 39 (by decide), eI141, z_up_n (by decide)]
        have k160 : (I149 0 15).toInt = (I 0 15).toInt := by rw [fI149 0 15 (by decide), eI141, z_up_n (by decide)]
        have k161 : (I149 0 40).toInt = (I 0 40).toInt := by rw [fI149 0 40 (by decide), eI141, z_up_n (by decide)]
        have h162 := hp
        rw [show (I141 0 34) = (I 0 34) from by rw [eI141, z_up_n (by decide)]] at h162
        refine lv_aload_n hx hb dX12_sums_142 rfl (lv_at hl 1 rfl) ?_
        refine z_get (T := TX12) (N := 96) (ci := 12) (i := 0) (v := .ref (ad 29)) hx hb hts zj_X12_sums_X12 hown hK hW rfl rfl 46 (by decide) (hts (.fieldLink RX12 100 "PetrolBoardModel" "sort" "[I") (me_s (me_l (me_l (List.mem_of_getElem? (i := 3) rfl))))) (fun _ h => h) rfl dX12_sums_143 ?_
        refine lv_iload_n hx hb dX12_sums_146 rfl (lv_at hl 2 rfl) ?_
        refine lv_iload_n hx hb dX12_sums_147 rfl (lv_at hl 0 rfl) ?_
        refine z_iast (i := 29) hx hb hK hW hS rfl (z_ix rfl (by omega) (by omega)) dX12_sums_148 (fun H locs hz1 hW hS => ?_)
        obtain ⟨I163, eI163⟩ : ∃ K : z_I, K = z_up I149 29 a1.toNatClampNeg 4 := ⟨_, rfl⟩
        rw [← eI163] at hW
        have f164 := z_fr_a f150 (show z_wa L_X12_sums_0 29 = true by decide) eI163
        have a165 := z_Nd_n (z_Nd_fr a143 fI149 (by decide)) (by decide) eI163
        refine lv_aload_n hx hb dX12_sums_149 rfl (lv_at hl 1 rfl) ?_
        refine lv_iload_n hx hb dX12_sums_150 rfl (lv_at hl 3 rfl) ?_
        refine lv_if_eq (tgt := 158) hx hb dX12_sums_151 (by decide) (fun c166 => ?_) (fun c166 => absurd (by decide) c166)
        refine lv_iconst (v := 2) hx hb dX12_sums_158 (by decide) ?_
        refine z_cv hW hS hA (va_runV (As := [.int 2]) (rest := []) ⟨hx, hb, hml, hown, hts⟩ (sx_X12_begin l G ad I163 J151 ⟨(by show 0 ≤ (I163 0 47).toInt ∧ (I163 0 47).toInt ≤ 119; rw [eI163, z_up_n (by decide)]; exact k152), (by show 0 ≤ (I163 0 39).toInt ∧ (I163 0 39).toInt ≤ 100; rw [eI163, z_up_n (by decide)]; exact k153)⟩ 2 (by have q0 : (I163 0 47) = (I149 0 47) := (by rw [eI163, z_up_n (by decide)]); show (I163 0 47).toInt ≤ 118; rw [q0]; omega) _) (cwV 1 hts gX12_sums_X12_begin rfl rfl rfl hy_X12_begin ⟨Nat.le_of_ble_eq_true rfl, Nat.le_of_ble_eq_true rfl⟩) (z_preV (i := 0) hK hW rfl rfl) rfl rfl hl.1 rfl (lv_room (Nat.le_of_ble_eq_true rfl)) dX12_sums_159 ⟨Nat.le_of_ble_eq_true rfl, Nat.le_of_ble_eq_true rfl⟩) (fun u1 H locs hp hW hS => ?_)
        obtain ⟨I167, J169, e9, hI167md, fI167, hp⟩ := hp
        rw [e9] at hW
        have f168 := z_fr_sub (L := L_X12_sums_0) f164 fI167 (by decide)
        have k170 : 0 ≤ (I167 0 31).toInt ∧ (I167 0 31).toInt ≤ 500 := by rw [fI167 0 31 (by decide)]; exact (by show 0 ≤ (I163 0 31).toInt ∧ (I163 0 31).toInt ≤ 500; rw [eI163, z_up_n (by decide)]; exact hI149mp.1)
        have k171 : 0 ≤ (I167 0 33).toInt ∧ (I167 0 33).toInt ≤ 500 := by rw [fI167 0 33 (by decide)]; exact (by show 0 ≤ (I163 0 33).toInt ∧ (I163 0 33).toInt ≤ 500; rw [eI163, z_up_n (by decide)]; exact hI149mp.2.1)
        have k172 : 0 ≤ (I167 0 34).toInt ∧ (I167 0 34).toInt ≤ 500 := by rw [fI167 0 34 (by decide)]; exact (by show 0 ≤ (I163 0 34).toInt ∧ (I163 0 34).toInt ≤ 500; rw [eI163, z_up_n (by decide)]; exact hI149mp.2.2.1)
        have k173 : 0 ≤ (I167 0 35).toInt ∧ (I167 0 35).toInt ≤ 500 := by rw [fI167 0 35 (by decide)]; exact (by show 0 ≤ (I163 0 35).toInt ∧ (I163 0 35).toInt ≤ 500; rw [eI163, z_up_n (by decide)]; exact hI149mp.2.2.2)
        have k174 : 0 ≤ (I167 0 36).toInt ∧ (I167 0 36).toInt ≤ 4 := by rw [fI167 0 36 (by decide)]; exact (by show 0 ≤ (I163 0 36).toInt ∧ (I163 0 36).toInt ≤ 4; rw [eI163, z_up_n (by decide)]; exact hI149mt.1)
        have k175 : 0 ≤ (I167 0 42).toInt ∧ (I167 0 42).toInt ≤ 1 := by rw [fI167 0 42 (by decide)]; exact (by show 0 ≤ (I163 0 42).toInt ∧ (I163 0 42).toInt ≤ 1; rw [eI163, z_up_n (by decide)]; exact hI149mt.2)
        have k176 : 0 ≤ (I167 0 40).toInt ∧ (I167 0 40).toInt ≤ 6199 := by rw [fI167 0 40 (by decide)]; exact (by show 0 ≤ (I163 0 40).toInt ∧ (I163 0 40).toInt ≤ 6199; rw [eI163, z_up_n (by decide)]; exact k154)
        have k177 : 0 ≤ (I167 0 15).toInt ∧ (I167 0 15).toInt ≤ 6100 := by rw [fI167 0 15 (by decide)]; exact (by show 0 ≤ (I163 0 15).toInt ∧ (I163 0 15).toInt ≤ 6100; rw [eI163, z_up_n (by decide)]; exact k155)
        have k178 : 0 ≤ (I167 0 35).toInt ∧ (I167 0 35).toInt ≤ (I167 0 34).toInt ∧ (I167 0 34).toInt ≤ (I167 0 33).toInt ∧ (I167 0 33).toInt ≤ 500 ∧ ((I167 0 36).toInt = 0 ∨ (I167 0 35).toInt + 1 ≤ (I167 0 34).toInt) := (by have q0 : (I167 0 35) = (I149 0 35) := (by rw [fI167 0 35 (by decide), eI163, z_up_n (by decide)]); have q1 : (I167 0 34) = (I149 0 34) := (by rw [fI167 0 34 (by decide), eI163, z_up_n (by decide)]); have q2 : (I167 0 33) = (I149 0 33) := (by rw [fI167 0 33 (by decide), eI163, z_up_n (by decide)]); have q3 : (I167 0 36) = (I149 0 36) := (by rw [fI167 0 36 (by decide), eI163, z_up_n (by decide)]); show 0 ≤ (I167 0 35).toInt ∧ (I167 0 35).toInt ≤ (I167 0 34).toInt ∧ (I167 0 34).toInt ≤ (I167 0 33).toInt ∧ (I167 0 33).toInt ≤ 500 ∧ ((I167 0 36).toInt = 0 ∨ (I167 0 35).toInt + 1 ≤ (I167 0 34).toInt); rw [q0, q1, q2, q3]; first | omega | decide)
        have k179 : (I167 0 35).toInt = (I149 0 35).toInt := by rw [fI167 0 35 (by decide), eI163, z_up_n (by decide)]
        have k180 : (I167 0 34).toInt = (I149 0 34).toInt := by rw [fI167 0 34 (by decide), eI163, z_up_n (by decide)]
        have k181 : (I167 0 36).toInt = (I149 0 36).toInt := by rw [fI167 0 36 (by decide), eI163, z_up_n (by decide)]
        have k182 : (I167 0 42).toInt = (I149 0 42).toInt := by rw [fI167 0 42 (by decide), eI163, z_up_n (by decide)]
        have k183 : (I167 0 39).toInt = (I149 0 39).toInt := by rw [fI167 0 39 (by decide), eI163, z_up_n (by decide)]
        have k184 : (I167 0 15).toInt = (I149 0 15).toInt := by rw [fI167 0 15 (by decide), eI163, z_up_n (by decide)]
        have k185 : (I167 0 40).toInt = (I149 0 40).toInt := by rw [fI167 0 40 (by decide), eI163, z_up_n (by decide)]
        have h186 := hp
        refine lv_goto (tgt := 175) hx hb dX12_sums_162 (by decide) ?_
        exact z_vret hx hb hr hK hS (Nat.le_of_ble_eq_true rfl) (Nat.le_of_ble_eq_true rfl) hlocks dX12_sums_175 (shM, ad, I167, J169, PM ad) hW ⟨I167, J169, rfl, ⟨(by show 0 ≤ (I167 0 31).toInt ∧ (I167 0 31).toInt ≤ 500; exact k170), (by show 0 ≤ (I167 0 33).toInt ∧ (I167 0 33).toInt ≤ 500; exact k171), (by show 0 ≤ (I167 0 34).toInt ∧ (I167 0 34).toInt ≤ 500; exact k172), (by show 0 ≤ (I167 0 35).toInt ∧ (I167 0 35).toInt ≤ 500; exact k173)⟩, ⟨(by show 0 ≤ (I167 0 36).toInt ∧ (I167 0 36).toInt ≤ 4; exact k174), (by show 0 ≤ (I167 0 42).toInt ∧ (I167 0 42).toInt ≤ 1; exact k175)⟩, ⟨(by show 0 ≤ (I167 0 47).toInt ∧ (I167 0 47).toInt ≤ 119; exact hI167md.1), (by show 0 ≤ (I167 0 39).toInt ∧ (I167 0 39).toInt ≤ 100; exact hI167md.2)⟩, (by show 0 ≤ (I167 0 40).toInt ∧ (I167 0 40).toInt ≤ 6199; exact k176), (by show 0 ≤ (I167 0 15).toInt ∧ (I167 0 15).toInt ≤ 6100; exact k177), (z_Nd_fr a165 fI167 (by decide)), (by show 0 ≤ (I167 0 35).toInt ∧ (I167 0 35).toInt ≤ (I167 0 34).toInt ∧ (I167 0 34).toInt ≤ (I167 0 33).toInt ∧ (I167 0 33).toInt ≤ 500 ∧ ((I167 0 36).toInt = 0 ∨ (I167 0 35).toInt + 1 ≤ (I167 0 34).toInt); first | omega | decide), f168, ((Classical.em ((I167 0 42).toInt = 0)).elim (fun hw9 => Or.inr ⟨a1.toNatClampNeg + 2, by have w1 := z_fw_1nm (a := va.toInt) (o := vo.toInt) (by omega) (by omega); have w2 := z_fo_1n (a := va.toInt); have w3 := z_fw_1np (a := va.toInt) (o := (I 0 40).toInt) (by omega) (by omega); have w4 := z_fo_1n (a := va.toInt); have w5 := z_fw_20 (a := 0) (o := -1) (by omega); have w6 := z_rk_1; have w7 := z_rk_2; exact z_PUSH (d := a1.toNatClampNeg) (w := 1) (a := va.toInt) (o := (I 0 40).toInt) (s := 4) (wi := 2) hPS (fun i hi => ⟨by rw [eI163, z_up_n (by decide), fI149 26 i (z_wr_c (by decide)), eI141, z_up_n (by decide)], by rw [eI163, z_up_n (by decide), fI149 27 i (z_wr_c (by decide)), eI141, z_up_n (by decide)], by rw [eI163, z_up_n (by decide), fI149 28 i (z_wr_c (by decide)), eI141, z_up_k (by omega)], by rw [eI163, z_up_k (by omega), fI149 29 i (z_wr_c (by decide)), eI141, z_up_n (by decide)]⟩) (by rw [show I163 26 a1.toNatClampNeg = vw from (by rw [eI163, z_up_n (by decide), fI149 26 a1.toNatClampNeg (z_wr_c (by decide)), eI141, z_up_n (by decide)]; exact evw.symm)]; exact hvw) (by rw [show I163 27 a1.toNatClampNeg = va from (by rw [eI163, z_up_n (by decide), fI149 27 a1.toNatClampNeg (z_wr_c (by decide)), eI141, z_up_n (by decide)]; exact eva.symm)]) (by rw [show I163 28 a1.toNatClampNeg = (I 0 40) from (by rw [eI163, z_up_n (by decide), fI149 28 a1.toNatClampNeg (z_wr_c (by decide)), eI141, z_up_s])]) (by rw [show I163 29 a1.toNatClampNeg = 4 from (by rw [eI163, z_up_s])]; exact z_l4) (by unfold z_fv; omega) hwd (by rw [eI163, z_up_n (by decide)]; omega) h186 z_l2 (by omega) (by omega) (by omega) (by omega) (by omega) (by omega) (by omega) (by omega)⟩) Or.inl)⟩
      · refine lv_if_eq (tgt := 119) hx hb dX12_sums_112 (by decide) (fun c187 => ?_) (fun c187 => absurd (by decide) c187)
        refine lv_aload_n hx hb dX12_sums_119 rfl (lv_at hl 0 rfl) ?_
        refine lv_bipush (v := 47) hx hb dX12_sums_120 (by decide) ?_
        refine z_ci hW hS hA (va_runV (As := [.int 47]) (rest := []) ⟨hx, hb, hml, hown, hts⟩ (sx_X12_isSign l G ad I141 J ⟨(by show 0 ≤ (I141 0 36).toInt ∧ (I141 0 36).toInt ≤ 4; rw [eI141, z_up_n (by decide)]; exact hmt.1), (by show 0 ≤ (I141 0 42).toInt ∧ (I141 0 42).toInt ≤ 1; rw [eI141, z_up_n (by decide)]; exact hmt.2)⟩ 47 _) (cwV 1 hts gX12_sums_X12_isSign rfl rfl rfl hy_X12_isSign ⟨Nat.le_of_ble_eq_true rfl, Nat.le_of_ble_eq_true rfl⟩) (z_preV (i := 0) hK hW rfl rfl) rfl rfl hl.1 rfl (lv_room (Nat.le_of_ble_eq_true rfl)) dX12_sums_122 ⟨Nat.le_of_ble_eq_true rfl, Nat.le_of_ble_eq_true rfl⟩) (fun r u1 H locs hp hW hS => ?_)
        obtain ⟨e9, hp⟩ := hp
        rw [e9] at hW
        rcases hp with ⟨rfl, h188⟩ | rfl
        · rw [show (I141 0 36) = (I 0 36) from by rw [eI141, z_up_n (by decide)]] at h188
          have h189 : (I 0 35).toInt + 1 ≤ (I 0 34).toInt := by omega
          refine lv_if_eq (tgt := 132) hx hb dX12_sums_125 (by decide) (fun c190 => absurd c190 (by decide)) (fun c190 => ?_)
          refine lv_iconst (v := 5) hx hb dX12_sums_128 (by decide) ?_
          refine lv_goto (tgt := 133) hx hb dX12_sums_129 (by decide) ?_
          refine lv_istore_n (lv' := [(3, .int 5), (0, .ref (ad 0)), (1, .int a1), (2, .int 0)]) hx hb dX12_sums_133 rfl hl (by decide) rfl (fun ls hl => ?_)
          refine lv_iload_n hx hb dX12_sums_134 rfl (lv_at hl 0 rfl) ?_
          refine lv_if_le (tgt := 165) hx hb dX12_sums_135 (by decide) (fun c191 => absurd c191 (by decide)) (fun c191 => ?_)
          refine lv_aload_n hx hb dX12_sums_138 rfl (lv_at hl 1 rfl) ?_
          refine z_cv hW hS hA (va_runV (As := []) (rest := []) ⟨hx, hb, hml, hown, hts⟩ (sx_X12_next l G ad I141 J ⟨(by show 0 ≤ (I141 0 31).toInt ∧ (I141 0 31).toInt ≤ 500; rw [eI141, z_up_n (by decide)]; exact hmp.1), (by show 0 ≤ (I141 0 33).toInt ∧ (I141 0 33).toInt ≤ 500; rw [eI141, z_up_n (by decide)]; exact hmp.2.1), (by show 0 ≤ (I141 0 34).toInt ∧ (I141 0 34).toInt ≤ 500; rw [eI141, z_up_n (by decide)]; exact hmp.2.2.1), (by show 0 ≤ (I141 0 35).toInt ∧ (I141 0 35).toInt ≤ 500; rw [eI141, z_up_n (by decide)]; exact hmp.2.2.2)⟩ ⟨(by show 0 ≤ (I141 0 36).toInt ∧ (I141 0 36).toInt ≤ 4; rw [eI141, z_up_n (by decide)]; exact hmt.1), (by show 0 ≤ (I141 0 42).toInt ∧ (I141 0 42).toInt ≤ 1; rw [eI141, z_up_n (by decide)]; exact hmt.2)⟩ (by have q0 : (I141 0 34) = (I 0 34) := (by rw [eI141, z_up_n (by decide)]); have q1 : (I141 0 33) = (I 0 33) := (by rw [eI141, z_up_n (by decide)]); show 0 ≤ (I141 0 34).toInt ∧ (I141 0 34).toInt ≤ (I141 0 33).toInt ∧ (I141 0 33).toInt ≤ 500; rw [q0, q1]; first | omega | decide)  _) (cwV 0 hts gX12_sums_X12_next rfl rfl rfl hy_X12_next ⟨Nat.le_of_ble_eq_true rfl, Nat.le_of_ble_eq_true rfl⟩) (z_preV (i := 0) hK hW rfl rfl) rfl rfl hl.1 rfl (lv_room (Nat.le_of_ble_eq_true rfl)) dX12_sums_139 ⟨Nat.le_of_ble_eq_true rfl, Nat.le_of_ble_eq_true rfl⟩) (fun u1 H locs hp hW hS => ?_)
          obtain ⟨I192, J194, e9, hI192mp, hI192mt, hI192rp, fI192, hp⟩ := hp
          rw [e9] at hW
          have f193 := z_fr_sub (L := L_X12_sums_0) f142 fI192 (by decide)
          have k195 : 0 ≤ (I192 0 47).toInt ∧ (I192 0 47).toInt ≤ 119 := by rw [fI192 0 47 (by decide)]; exact (by show 0 ≤ (I141 0 47).toInt ∧ (I141 0 47).toInt ≤ 119; rw [eI141, z_up_n (by decide)]; exact hmd.1)
          have k196 : 0 ≤ (I192 0 39).toInt ∧ (I192 0 39).toInt ≤ 100 := by rw [fI192 0 39 (by decide)]; exact (by show 0 ≤ (I141 0 39).toInt ∧ (I141 0 39).toInt ≤ 100; rw [eI141, z_up_n (by decide)]; exact hmd.2)
          have k197 : 0 ≤ (I192 0 40).toInt ∧ (I192 0 40).toInt ≤ 6199 := by rw [fI192 0 40 (by decide)]; exact (by show 0 ≤ (I141 0 40).toInt ∧ (I141 0 40).toInt ≤ 6199; rw [eI141, z_up_n (by decide)]; exact hmg)
          have k198 : 0 ≤ (I192 0 15).toInt ∧ (I192 0 15).toInt ≤ 6100 := by rw [fI192 0 15 (by decide)]; exact (by show 0 ≤ (I141 0 15).toInt ∧ (I141 0 15).toInt ≤ 6100; rw [eI141, z_up_n (by decide)]; exact hmn)
          have k199 : 0 ≤ (I192 0 35).toInt ∧ (I192 0 35).toInt ≤ (I192 0 34).toInt ∧ (I192 0 34).toInt ≤ (I192 0 33).toInt ∧ (I192 0 33).toInt ≤ 500 ∧ ((I192 0 36).toInt = 0 ∨ (I192 0 35).toInt + 1 ≤ (I192 0 34).toInt) := hI192rp
          have k200 : (I192 0 42).toInt = (I 0 42).toInt := by rw [fI192 0 42 (by decide), eI141, z_up_n (by decide)]
          have k201 : (I192 0 47).toInt = (I 0 47).toInt := by rw [fI192 0 47 (by decide), eI141, z_up_n (by decide)]
          have k202 : (I192 0 39).toInt = (I 0 39).toInt := by rw [fI192 0 39 (by decide), eI141, z_up_n (by decide)]
          have k203 : (I192 0 15).toInt = (I 0 15).toInt := by rw [fI192 0 15 (by decide), eI141, z_up_n (by decide)]
          have k204 : (I192 0 40).toInt = (I 0 40).toInt := by rw [fI192 0 40 (by decide), eI141, z_up_n (by decide)]
          have h205 := hp
          rw [show (I141 0 34) = (I 0 34) from by rw [eI141, z_up_n (by decide)]] at h205
          refine lv_aload_n hx hb dX12_sums_142 rfl (lv_at hl 1 rfl) ?_
          refine z_get (T := TX12) (N := 96) (ci := 12) (i := 0) (v := .ref (ad 29)) hx hb hts zj_X12_sums_X12 hown hK hW rfl rfl 46 (by decide) (hts (.fieldLink RX12 100 "PetrolBoardModel" "sort" "[I") (me_s (me_l (me_l (List.mem_of_getElem? (i := 3) rfl))))) (fun _ h => h) rfl dX12_sums_143 ?_
          refine lv_iload_n hx hb dX12_sums_146 rfl (lv_at hl 2 rfl) ?_
          refine lv_iload_n hx hb dX12_sums_147 rfl (lv_at hl 0 rfl) ?_
          refine z_iast (i := 29) hx hb hK hW hS rfl (z_ix rfl (by omega) (by omega)) dX12_sums_148 (fun H locs hz1 hW hS => ?_)
          obtain ⟨I206, eI206⟩ : ∃ K : z_I, K = z_up I192 29 a1.toNatClampNeg 5 := ⟨_, rfl⟩
          rw [← eI206] at hW
          have f207 := z_fr_a f193 (show z_wa L_X12_sums_0 29 = true by decide) eI206
          have a208 := z_Nd_n (z_Nd_fr a143 fI192 (by decide)) (by decide) eI206
          refine lv_aload_n hx hb dX12_sums_149 rfl (lv_at hl 1 rfl) ?_
          refine lv_iload_n hx hb dX12_sums_150 rfl (lv_at hl 3 rfl) ?_
          refine lv_if_eq (tgt := 158) hx hb dX12_sums_151 (by decide) (fun c209 => ?_) (fun c209 => absurd (by decide) c209)
          refine lv_iconst (v := 2) hx hb dX12_sums_158 (by decide) ?_
          refine z_cv hW hS hA (va_runV (As := [.int 2]) (rest := []) ⟨hx, hb, hml, hown, hts⟩ (sx_X12_begin l G ad I206 J194 ⟨(by show 0 ≤ (I206 0 47).toInt ∧ (I206 0 47).toInt ≤ 119; rw [eI206, z_up_n (by decide)]; exact k195), (by show 0 ≤ (I206 0 39).toInt ∧ (I206 0 39).toInt ≤ 100; rw [eI206, z_up_n (by decide)]; exact k196)⟩ 2 (by have q0 : (I206 0 47) = (I192 0 47) := (by rw [eI206, z_up_n (by decide)]); show (I206 0 47).toInt ≤ 118; rw [q0]; omega) _) (cwV 1 hts gX12_sums_X12_begin rfl rfl rfl hy_X12_begin ⟨Nat.le_of_ble_eq_true rfl, Nat.le_of_ble_eq_true rfl⟩) (z_preV (i := 0) hK hW rfl rfl) rfl rfl hl.1 rfl (lv_room (Nat.le_of_ble_eq_true rfl)) dX12_sums_159 ⟨Nat.le_of_ble_eq_true rfl, Nat.le_of_ble_eq_true rfl⟩) (fun u1 H locs hp hW hS => ?_)
          obtain ⟨I210, J212, e9, hI210md, fI210, hp⟩ := hp
          rw [e9] at hW
          have f211 := z_fr_sub (L := L_X12_sums_0) f207 fI210 (by decide)
          have k213 : 0 ≤ (I210 0 31).toInt ∧ (I210 0 31).toInt ≤ 500 := by rw [fI210 0 31 (by decide)]; exact (by show 0 ≤ (I206 0 31).toInt ∧ (I206 0 31).toInt ≤ 500; rw [eI206, z_up_n (by decide)]; exact hI192mp.1)
          have k214 : 0 ≤ (I210 0 33).toInt ∧ (I210 0 33).toInt ≤ 500 := by rw [fI210 0 33 (by decide)]; exact (by show 0 ≤ (I206 0 33).toInt ∧ (I206 0 33).toInt ≤ 500; rw [eI206, z_up_n (by decide)]; exact hI192mp.2.1)
          have k215 : 0 ≤ (I210 0 34).toInt ∧ (I210 0 34).toInt ≤ 500 := by rw [fI210 0 34 (by decide)]; exact (by show 0 ≤ (I206 0 34).toInt ∧ (I206 0 34).toInt ≤ 500; rw [eI206, z_up_n (by decide)]; exact hI192mp.2.2.1)
          have k216 : 0 ≤ (I210 0 35).toInt ∧ (I210 0 35).toInt ≤ 500 := by rw [fI210 0 35 (by decide)]; exact (by show 0 ≤ (I206 0 35).toInt ∧ (I206 0 35).toInt ≤ 500; rw [eI206, z_up_n (by decide)]; exact hI192mp.2.2.2)
          have k217 : 0 ≤ (I210 0 36).toInt ∧ (I210 0 36).toInt ≤ 4 := by rw [fI210 0 36 (by decide)]; exact (by show 0 ≤ (I206 0 36).toInt ∧ (I206 0 36).toInt ≤ 4; rw [eI206, z_up_n (by decide)]; exact hI192mt.1)
          have k218 : 0 ≤ (I210 0 42).toInt ∧ (I210 0 42).toInt ≤ 1 := by rw [fI210 0 42 (by decide)]; exact (by show 0 ≤ (I206 0 42).toInt ∧ (I206 0 42).toInt ≤ 1; rw [eI206, z_up_n (by decide)]; exact hI192mt.2)
          have k219 : 0 ≤ (I210 0 40).toInt ∧ (I210 0 40).toInt ≤ 6199 := by rw [fI210 0 40 (by decide)]; exact (by show 0 ≤ (I206 0 40).toInt ∧ (I206 0 40).toInt ≤ 6199; rw [eI206, z_up_n (by decide)]; exact k197)
          have k220 : 0 ≤ (I210 0 15).toInt ∧ (I210 0 15).toInt ≤ 6100 := by rw [fI210 0 15 (by decide)]; exact (by show 0 ≤ (I206 0 15).toInt ∧ (I206 0 15).toInt ≤ 6100; rw [eI206, z_up_n (by decide)]; exact k198)
          have k221 : 0 ≤ (I210 0 35).toInt ∧ (I210 0 35).toInt ≤ (I210 0 34).toInt ∧ (I210 0 34).toInt ≤ (I210 0 33).toInt ∧ (I210 0 33).toInt ≤ 500 ∧ ((I210 0 36).toInt = 0 ∨ (I210 0 35).toInt + 1 ≤ (I210 0 34).toInt) := (by have q0 : (I210 0 35) = (I192 0 35) := (by rw [fI210 0 35 (by decide), eI206, z_up_n (by decide)]); have q1 : (I210 0 34) = (I192 0 34) := (by rw [fI210 0 34 (by decide), eI206, z_up_n (by decide)]); have q2 : (I210 0 33) = (I192 0 33) := (by rw [fI210 0 33 (by decide), eI206, z_up_n (by decide)]); have q3 : (I210 0 36) = (I192 0 36) := (by rw [fI210 0 36 (by decide), eI206, z_up_n (by decide)]); show 0 ≤ (I210 0 35).toInt ∧ (I210 0 35).toInt ≤ (I210 0 34).toInt ∧ (I210 0 34).toInt ≤ (I210 0 33).toInt ∧ (I210 0 33).toInt ≤ 500 ∧ ((I210 0 36).toInt = 0 ∨ (I210 0 35).toInt + 1 ≤ (I210 0 34).toInt); rw [q0, q1, q2, q3]; first | omega | decide)
          have k222 : (I210 0 35).toInt = (I192 0 35).toInt := by rw [fI210 0 35 (by decide), eI206, z_up_n (by decide)]
          have k223 : (I210 0 34).toInt = (I192 0 34).toInt := by rw [fI210 0 34 (by decide), eI206, z_up_n (by decide)]
          have k224 : (I210 0 36).toInt = (I192 0 36).toInt := by rw [fI210 0 36 (by decide), eI206, z_up_n (by decide)]
          have k225 : (I210 0 42).toInt = (I192 0 42).toInt := by rw [fI210 0 42 (by decide), eI206, z_up_n (by decide)]
          have k226 : (I210 0 39).toInt = (I192 0 39).toInt := by rw [fI210 0 39 (by decide), eI206, z_up_n (by decide)]
          have k227 : (I210 0 15).toInt = (I192 0 15).toInt := by rw [fI210 0 15 (by decide), eI206, z_up_n (by decide)]
          have k228 : (I210 0 40).toInt = (I192 0 40).toInt := by rw [fI210 0 40 (by decide), eI206, z_up_n (by decide)]
          have h229 := hp
          refine lv_goto (tgt := 175) hx hb dX12_sums_162 (by decide) ?_
          exact z_vret hx hb hr hK hS (Nat.le_of_ble_eq_true rfl) (Nat.le_of_ble_eq_true rfl) hlocks dX12_sums_175 (shM, ad, I210, J212, PM ad) hW ⟨I210, J212, rfl, ⟨(by show 0 ≤ (I210 0 31).toInt ∧ (I210 0 31).toInt ≤ 500; exact k213), (by show 0 ≤ (I210 0 33).toInt ∧ (I210 0 33).toInt ≤ 500; exact k214), (by show 0 ≤ (I210 0 34).toInt ∧ (I210 0 34).toInt ≤ 500; exact k215), (by show 0 ≤ (I210 0 35).toInt ∧ (I210 0 35).toInt ≤ 500; exact k216)⟩, ⟨(by show 0 ≤ (I210 0 36).toInt ∧ (I210 0 36).toInt ≤ 4; exact k217), (by show 0 ≤ (I210 0 42).toInt ∧ (I210 0 42).toInt ≤ 1; exact k218)⟩, ⟨(by show 0 ≤ (I210 0 47).toInt ∧ (I210 0 47).toInt ≤ 119; exact hI210md.1), (by show 0 ≤ (I210 0 39).toInt ∧ (I210 0 39).toInt ≤ 100; exact hI210md.2)⟩, (by show 0 ≤ (I210 0 40).toInt ∧ (I210 0 40).toInt ≤ 6199; exact k219), (by show 0 ≤ (I210 0 15).toInt ∧ (I210 0 15).toInt ≤ 6100; exact k220), (z_Nd_fr a208 fI210 (by decide)), (by show 0 ≤ (I210 0 35).toInt ∧ (I210 0 35).toInt ≤ (I210 0 34).toInt ∧ (I210 0 34).toInt ≤ (I210 0 33).toInt ∧ (I210 0 33).toInt ≤ 500 ∧ ((I210 0 36).toInt = 0 ∨ (I210 0 35).toInt + 1 ≤ (I210 0 34).toInt); first | omega | decide), f211, ((Classical.em ((I210 0 42).toInt = 0)).elim (fun hw9 => Or.inr ⟨a1.toNatClampNeg + 2, by have w1 := z_fw_1nm (a := va.toInt) (o := vo.toInt) (by omega) (by omega); have w2 := z_fo_1n (a := va.toInt); have w3 := z_fw_1np (a := va.toInt) (o := (I 0 40).toInt) (by omega) (by omega); have w4 := z_fo_1n (a := va.toInt); have w5 := z_fw_20 (a := 0) (o := -1) (by omega); have w6 := z_rk_1; have w7 := z_rk_2; exact z_PUSH (d := a1.toNatClampNeg) (w := 1) (a := va.toInt) (o := (I 0 40).toInt) (s := 5) (wi := 2) hPS (fun i hi => ⟨by rw [eI206, z_up_n (by decide), fI192 26 i (z_wr_c (by decide)), eI141, z_up_n (by decide)], by rw [eI206, z_up_n (by decide), fI192 27 i (z_wr_c (by decide)), eI141, z_up_n (by decide)], by rw [eI206, z_up_n (by decide), fI192 28 i (z_wr_c (by decide)), eI141, z_up_k (by omega)], by rw [eI206, z_up_k (by omega), fI192 29 i (z_wr_c (by decide)), eI141, z_up_n (by decide)]⟩) (by rw [show I206 26 a1.toNatClampNeg = vw from (by rw [eI206, z_up_n (by decide), fI192 26 a1.toNatClampNeg (z_wr_c (by decide)), eI141, z_up_n (by decide)]; exact evw.symm)]; exact hvw) (by rw [show I206 27 a1.toNatClampNeg = va from (by rw [eI206, z_up_n (by decide), fI192 27 a1.toNatClampNeg (z_wr_c (by decide)), eI141, z_up_n (by decide)]; exact eva.symm)]) (by rw [show I206 28 a1.toNatClampNeg = (I 0 40) from (by rw [eI206, z_up_n (by decide), fI192 28 a1.toNatClampNeg (z_wr_c (by decide)), eI141, z_up_s])]) (by rw [show I206 29 a1.toNatClampNeg = 5 from (by rw [eI206, z_up_s])]; exact z_l5) (by unfold z_fv; omega) hwd (by rw [eI206, z_up_n (by decide)]; omega) h229 z_l2 (by omega) (by omega) (by omega) (by omega) (by omega) (by omega) (by omega) (by omega)⟩) Or.inl)⟩
        · refine lv_if_eq (tgt := 132) hx hb dX12_sums_125 (by decide) (fun c230 => ?_) (fun c230 => absurd (by decide) c230)
          refine lv_iconst (v := 0) hx hb dX12_sums_132 (by decide) ?_
          refine lv_istore_n (lv' := [(3, .int 0), (0, .ref (ad 0)), (1, .int a1), (2, .int 0)]) hx hb dX12_sums_133 rfl hl (by decide) rfl (fun ls hl => ?_)
          refine lv_iload_n hx hb dX12_sums_134 rfl (lv_at hl 0 rfl) ?_
          refine lv_if_le (tgt := 165) hx hb dX12_sums_135 (by decide) (fun c231 => ?_) (fun c231 => absurd (by decide) c231)
          refine lv_aload_n hx hb dX12_sums_165 rfl (lv_at hl 1 rfl) ?_
          refine lv_aload_n hx hb dX12_sums_166 rfl (lv_at hl 1 rfl) ?_
          refine z_get (T := TX12) (N := 96) (ci := 12) (i := 0) (v := .ref (ad 28)) hx hb hts zj_X12_sums_X12 hown hK hW rfl rfl 45 (by decide) (hts (.fieldLink RX12 97 "PetrolBoardModel" "one" "[I") (me_s (me_l (me_l (List.mem_of_getElem? (i := 1) rfl))))) (fun _ h => h) rfl dX12_sums_167 ?_
          refine lv_iload_n hx hb dX12_sums_170 rfl (lv_at hl 2 rfl) ?_
          refine z_iald (i := 28) hx hb hK hW rfl (z_ix rfl (by omega) (by omega)) dX12_sums_171 ?_
          refine z_topi (v := (I 0 40)) (by rw [eI141, z_up_s]) ?_
          refine z_cv hW hS hA (va_runV (As := [.int (I 0 40)]) (rest := []) ⟨hx, hb, hml, hown, hts⟩ (sx_X12_ends l G ad I141 J ⟨(by show 0 ≤ (I141 0 47).toInt ∧ (I141 0 47).toInt ≤ 119; rw [eI141, z_up_n (by decide)]; exact hmd.1), (by show 0 ≤ (I141 0 39).toInt ∧ (I141 0 39).toInt ≤ 100; rw [eI141, z_up_n (by decide)]; exact hmd.2)⟩ (by show 0 ≤ (I141 0 40).toInt ∧ (I141 0 40).toInt ≤ 6199; rw [eI141, z_up_n (by decide)]; exact hmg) (I 0 40) (by first | omega | decide) (by have q0 : (I141 0 47) = (I 0 47) := (by rw [eI141, z_up_n (by decide)]); show 1 ≤ (I141 0 47).toInt; rw [q0]; omega) _) (cwV 1 hts gX12_sums_X12_ends rfl rfl rfl hy_X12_ends ⟨Nat.le_of_ble_eq_true rfl, Nat.le_of_ble_eq_true rfl⟩) (z_preV (i := 0) hK hW rfl rfl) rfl rfl hl.1 rfl (lv_room (Nat.le_of_ble_eq_true rfl)) dX12_sums_172 ⟨Nat.le_of_ble_eq_true rfl, Nat.le_of_ble_eq_true rfl⟩) (fun u1 H locs hp hW hS => ?_)
          obtain ⟨I232, J234, e9, hI232md, hI232mg, fI232, hp⟩ := hp
          rw [e9] at hW
          have f233 := z_fr_sub (L := L_X12_sums_0) f142 fI232 (by decide)
          have k235 : 0 ≤ (I232 0 31).toInt ∧ (I232 0 31).toInt ≤ 500 := by rw [fI232 0 31 (by decide)]; exact (by show 0 ≤ (I141 0 31).toInt ∧ (I141 0 31).toInt ≤ 500; rw [eI141, z_up_n (by decide)]; exact hmp.1)
          have k236 : 0 ≤ (I232 0 33).toInt ∧ (I232 0 33).toInt ≤ 500 := by rw [fI232 0 33 (by decide)]; exact (by show 0 ≤ (I141 0 33).toInt ∧ (I141 0 33).toInt ≤ 500; rw [eI141, z_up_n (by decide)]; exact hmp.2.1)
          have k237 : 0 ≤ (I232 0 34).toInt ∧ (I232 0 34).toInt ≤ 500 := by rw [fI232 0 34 (by decide)]; exact (by show 0 ≤ (I141 0 34).toInt ∧ (I141 0 34).toInt ≤ 500; rw [eI141, z_up_n (by decide)]; exact hmp.2.2.1)
          have k238 : 0 ≤ (I232 0 35).toInt ∧ (I232 0 35).toInt ≤ 500 := by rw [fI232 0 35 (by decide)]; exact (by show 0 ≤ (I141 0 35).toInt ∧ (I141 0 35).toInt ≤ 500; rw [eI141, z_up_n (by decide)]; exact hmp.2.2.2)
          have k239 : 0 ≤ (I232 0 36).toInt ∧ (I232 0 36).toInt ≤ 4 := by rw [fI232 0 36 (by decide)]; exact (by show 0 ≤ (I141 0 36).toInt ∧ (I141 0 36).toInt ≤ 4; rw [eI141, z_up_n (by decide)]; exact hmt.1)
          have k240 : 0 ≤ (I232 0 42).toInt ∧ (I232 0 42).toInt ≤ 1 := by rw [fI232 0 42 (by decide)]; exact (by show 0 ≤ (I141 0 42).toInt ∧ (I141 0 42).toInt ≤ 1; rw [eI141, z_up_n (by decide)]; exact hmt.2)
          have k241 : 0 ≤ (I232 0 15).toInt ∧ (I232 0 15).toInt ≤ 6100 := by rw [fI232 0 15 (by decide)]; exact (by show 0 ≤ (I141 0 15).toInt ∧ (I141 0 15).toInt ≤ 6100; rw [eI141, z_up_n (by decide)]; exact hmn)
          have k242 : 0 ≤ (I232 0 35).toInt ∧ (I232 0 35).toInt ≤ (I232 0 34).toInt ∧ (I232 0 34).toInt ≤ (I232 0 33).toInt ∧ (I232 0 33).toInt ≤ 500 ∧ ((I232 0 36).toInt = 0 ∨ (I232 0 35).toInt + 1 ≤ (I232 0 34).toInt) := (by have q0 : (I232 0 35) = (I 0 35) := (by rw [fI232 0 35 (by decide), eI141, z_up_n (by decide)]); have q1 : (I232 0 34) = (I 0 34) := (by rw [fI232 0 34 (by decide), eI141, z_up_n (by decide)]); have q2 : (I232 0 33) = (I 0 33) := (by rw [fI232 0 33 (by decide), eI141, z_up_n (by decide)]); have q3 : (I232 0 36) = (I 0 36) := (by rw [fI232 0 36 (by decide), eI141, z_up_n (by decide)]); show 0 ≤ (I232 0 35).toInt ∧ (I232 0 35).toInt ≤ (I232 0 34).toInt ∧ (I232 0 34).toInt ≤ (I232 0 33).toInt ∧ (I232 0 33).toInt ≤ 500 ∧ ((I232 0 36).toInt = 0 ∨ (I232 0 35).toInt + 1 ≤ (I232 0 34).toInt); rw [q0, q1, q2, q3]; first | omega | decide)
          have k243 : (I232 0 35).toInt = (I 0 35).toInt := by rw [fI232 0 35 (by decide), eI141, z_up_n (by decide)]
          have k244 : (I232 0 34).toInt = (I 0 34).toInt := by rw [fI232 0 34 (by decide), eI141, z_up_n (by decide)]
          have k245 : (I232 0 36).toInt = (I 0 36).toInt := by rw [fI232 0 36 (by decide), eI141, z_up_n (by decide)]
          have k246 : (I232 0 42).toInt = (I 0 42).toInt := by rw [fI232 0 42 (by decide), eI141, z_up_n (by decide)]
          have k247 : (I232 0 39).toInt = (I 0 39).toInt := by rw [fI232 0 39 (by decide), eI141, z_up_n (by decide)]
          have k248 : (I232 0 15).toInt = (I 0 15).toInt := by rw [fI232 0 15 (by decide), eI141, z_up_n (by decide)]
          have h249 := hp
          rw [show (I141 0 47) = (I 0 47) from by rw [eI141, z_up_n (by decide)]] at h249
          exact z_vret hx hb hr hK hS (Nat.le_of_ble_eq_true rfl) (Nat.le_of_ble_eq_true rfl) hlocks dX12_sums_175 (shM, ad, I232, J234, PM ad) hW ⟨I232, J234, rfl, ⟨(by show 0 ≤ (I232 0 31).toInt ∧ (I232 0 31).toInt ≤ 500; exact k235), (by show 0 ≤ (I232 0 33).toInt ∧ (I232 0 33).toInt ≤ 500; exact k236), (by show 0 ≤ (I232 0 34).toInt ∧ (I232 0 34).toInt ≤ 500; exact k237), (by show 0 ≤ (I232 0 35).toInt ∧ (I232 0 35).toInt ≤ 500; exact k238)⟩, ⟨(by show 0 ≤ (I232 0 36).toInt ∧ (I232 0 36).toInt ≤ 4; exact k239), (by show 0 ≤ (I232 0 42).toInt ∧ (I232 0 42).toInt ≤ 1; exact k240)⟩, ⟨(by show 0 ≤ (I232 0 47).toInt ∧ (I232 0 47).toInt ≤ 119; exact hI232md.1), (by show 0 ≤ (I232 0 39).toInt ∧ (I232 0 39).toInt ≤ 100; exact hI232md.2)⟩, (by show 0 ≤ (I232 0 40).toInt ∧ (I232 0 40).toInt ≤ 6199; exact hI232mg), (by show 0 ≤ (I232 0 15).toInt ∧ (I232 0 15).toInt ≤ 6100; exact k241), (z_Nd_fr a143 fI232 (by decide)), (by show 0 ≤ (I232 0 35).toInt ∧ (I232 0 35).toInt ≤ (I232 0 34).toInt ∧ (I232 0 34).toInt ≤ (I232 0 33).toInt ∧ (I232 0 33).toInt ≤ 500 ∧ ((I232 0 36).toInt = 0 ∨ (I232 0 35).toInt + 1 ≤ (I232 0 34).toInt); first | omega | decide), f233, ((Classical.em ((I232 0 42).toInt = 0)).elim (fun hw9 => Or.inr ⟨a1.toNatClampNeg, by have w1 := z_fw_1nm (a := va.toInt) (o := vo.toInt) (by omega) (by omega); have w2 := z_fo_1n (a := va.toInt); exact z_POP (d := a1.toNatClampNeg) hPS (fun i hi => ⟨by rw [fI232 26 i (z_wr_c (by decide)), eI141, z_up_n (by decide)], by rw [fI232 27 i (z_wr_c (by decide)), eI141, z_up_n (by decide)], by rw [fI232 28 i (z_wr_c (by decide)), eI141, z_up_k (by omega)], by rw [fI232 29 i (z_wr_c (by decide)), eI141, z_up_n (by decide)]⟩) (by omega) (by omega) (by omega) (by omega) (by omega) (by omega)⟩) Or.inl)⟩
  · have g250 := z_f_eq rfl z_l0 c1
    refine lv_aload_n hx hb dX12_sums_9 rfl (lv_at hl 0 rfl) ?_
    refine z_get (T := TX12) (N := 96) (ci := 12) (i := 0) (v := .ref (ad 27)) hx hb hts zj_X12_sums_X12 hown hK hW rfl rfl 44 (by decide) (hts (.fieldLink RX12 94 "PetrolBoardModel" "at" "[I") (me_s (me_l (me_l (List.mem_of_getElem? (i := 0) rfl))))) (fun _ h => h) rfl dX12_sums_10 ?_
    refine lv_iload_n hx hb dX12_sums_13 rfl (lv_at hl 1 rfl) ?_
    refine lv_iconst (v := 1) hx hb dX12_sums_14 (by decide) ?_
    refine z_iast (i := 27) hx hb hK hW hS rfl (z_ix rfl (by omega) (by omega)) dX12_sums_15 (fun H locs hz1 hW hS => ?_)
    obtain ⟨I251, eI251⟩ : ∃ K : z_I, K = z_up I 27 a1.toNatClampNeg 1 := ⟨_, rfl⟩
    rw [← eI251] at hW
    have f252 := z_fr_a z_fr_0 (show z_wa L_X12_sums_0 27 = true by decide) eI251
    have a253 := z_Nd_n hNd (by decide) eI251
    refine lv_aload_n hx hb dX12_sums_16 rfl (lv_at hl 0 rfl) ?_
    refine lv_iload_n hx hb dX12_sums_17 rfl (lv_at hl 2 rfl) ?_
    refine lv_if_eq (tgt := 25) hx hb dX12_sums_18 (by decide) (fun c254 => ?_) (fun c254 => absurd (by decide) c254)
    refine lv_iconst (v := 2) hx hb dX12_sums_25 (by decide) ?_
    refine z_cv hW hS hA (va_runV (As := [.int 2]) (rest := []) ⟨hx, hb, hml, hown, hts⟩ (sx_X12_begin l G ad I251 J ⟨(by show 0 ≤ (I251 0 47).toInt ∧ (I251 0 47).toInt ≤ 119; rw [eI251, z_up_n (by decide)]; exact hmd.1), (by show 0 ≤ (I251 0 39).toInt ∧ (I251 0 39).toInt ≤ 100; rw [eI251, z_up_n (by decide)]; exact hmd.2)⟩ 2 (by have q0 : (I251 0 47) = (I 0 47) := (by rw [eI251, z_up_n (by decide)]); show (I251 0 47).toInt ≤ 118; rw [q0]; omega) _) (cwV 1 hts gX12_sums_X12_begin rfl rfl rfl hy_X12_begin ⟨Nat.le_of_ble_eq_true rfl, Nat.le_of_ble_eq_true rfl⟩) (z_preV (i := 0) hK hW rfl rfl) rfl rfl hl.1 rfl (lv_room (Nat.le_of_ble_eq_true rfl)) dX12_sums_26 ⟨Nat.le_of_ble_eq_true rfl, Nat.le_of_ble_eq_true rfl⟩) (fun u1 H locs hp hW hS => ?_)
    obtain ⟨I255, J257, e9, hI255md, fI255, hp⟩ := hp
    rw [e9] at hW
    have f256 := z_fr_sub (L := L_X12_sums_0) f252 fI255 (by decide)
    have k258 : 0 ≤ (I255 0 31).toInt ∧ (I255 0 31).toInt ≤ 500 := by rw [fI255 0 31 (by decide)]; exact (by show 0 ≤ (I251 0 31).toInt ∧ (I251 0 31).toInt ≤ 500; rw [eI251, z_up_n (by decide)]; exact hmp.1)
    have k259 : 0 ≤ (I255 0 33).toInt ∧ (I255 0 33).toInt ≤ 500 := by rw [fI255 0 33 (by decide)]; exact (by show 0 ≤ (I251 0 33).toInt ∧ (I251 0 33).toInt ≤ 500; rw [eI251, z_up_n (by decide)]; exact hmp.2.1)
    have k260 : 0 ≤ (I255 0 34).toInt ∧ (I255 0 34).toInt ≤ 500 := by rw [fI255 0 34 (by decide)]; exact (by show 0 ≤ (I251 0 34).toInt ∧ (I251 0 34).toInt ≤ 500; rw [eI251, z_up_n (by decide)]; exact hmp.2.2.1)
    have k261 : 0 ≤ (I255 0 35).toInt ∧ (I255 0 35).toInt ≤ 500 := by rw [fI255 0 35 (by decide)]; exact (by show 0 ≤ (I251 0 35).toInt ∧ (I251 0 35).toInt ≤ 500; rw [eI251, z_up_n (by decide)]; exact hmp.2.2.2)
    have k262 : 0 ≤ (I255 0 36).toInt ∧ (I255 0 36).toInt ≤ 4 := by rw [fI255 0 36 (by decide)]; exact (by show 0 ≤ (I251 0 36).toInt ∧ (I251 0 36).toInt ≤ 4; rw [eI251, z_up_n (by decide)]; exact hmt.1)
    have k263 : 0 ≤ (I255 0 42).toInt ∧ (I255 0 42).toInt ≤ 1 := by rw [fI255 0 42 (by decide)]; exact (by show 0 ≤ (I251 0 42).toInt ∧ (I251 0 42).toInt ≤ 1; rw [eI251, z_up_n (by decide)]; exact hmt.2)
    have k264 : 0 ≤ (I255 0 40).toInt ∧ (I255 0 40).toInt ≤ 6199 := by rw [fI255 0 40 (by decide)]; exact (by show 0 ≤ (I251 0 40).toInt ∧ (I251 0 40).toInt ≤ 6199; rw [eI251, z_up_n (by decide)]; exact hmg)
    have k265 : 0 ≤ (I255 0 15).toInt ∧ (I255 0 15).toInt ≤ 6100 := by rw [fI255 0 15 (by decide)]; exact (by show 0 ≤ (I251 0 15).toInt ∧ (I251 0 15).toInt ≤ 6100; rw [eI251, z_up_n (by decide)]; exact hmn)
    have k266 : 0 ≤ (I255 0 35).toInt ∧ (I255 0 35).toInt ≤ (I255 0 34).toInt ∧ (I255 0 34).toInt ≤ (I255 0 33).toInt ∧ (I255 0 33).toInt ≤ 500 ∧ ((I255 0 36).toInt = 0 ∨ (I255 0 35).toInt + 1 ≤ (I255 0 34).toInt) := (by have q0 : (I255 0 35) = (I 0 35) := (by rw [fI255 0 35 (by decide), eI251, z_up_n (by decide)]); have q1 : (I255 0 34) = (I 0 34) := (by rw [fI255 0 34 (by decide), eI251, z_up_n (by decide)]); have q2 : (I255 0 33) = (I 0 33) := (by rw [fI255 0 33 (by decide), eI251, z_up_n (by decide)]); have q3 : (I255 0 36) = (I 0 36) := (by rw [fI255 0 36 (by decide), eI251, z_up_n (by decide)]); show 0 ≤ (I255 0 35).toInt ∧ (I255 0 35).toInt ≤ (I255 0 34).toInt ∧ (I255 0 34).toInt ≤ (I255 0 33).toInt ∧ (I255 0 33).toInt ≤ 500 ∧ ((I255 0 36).toInt = 0 ∨ (I255 0 35).toInt + 1 ≤ (I255 0 34).toInt); rw [q0, q1, q2, q3]; first | omega | decide)
    have k267 : (I255 0 35).toInt = (I 0 35).toInt := by rw [fI255 0 35 (by decide), eI251, z_up_n (by decide)]
    have k268 : (I255 0 34).toInt = (I 0 34).toInt := by rw [fI255 0 34 (by decide), eI251, z_up_n (by decide)]
    have k269 : (I255 0 36).toInt = (I 0 36).toInt := by rw [fI255 0 36 (by decide), eI251, z_up_n (by decide)]
    have k270 : (I255 0 42).toInt = (I 0 42).toInt := by rw [fI255 0 42 (by decide), eI251, z_up_n (by decide)]
    have k271 : (I255 0 39).toInt = (I 0 39).toInt := by rw [fI255 0 39 (by decide), eI251, z_up_n (by decide)]
    have k272 : (I255 0 15).toInt = (I 0 15).toInt := by rw [fI255 0 15 (by decide), eI251, z_up_n (by decide)]
    have k273 : (I255 0 40).toInt = (I 0 40).toInt := by rw [fI255 0 40 (by decide), eI251, z_up_n (by decide)]
    have h274 := hp
    exact z_vret hx hb hr hK hS (Nat.le_of_ble_eq_true rfl) (Nat.le_of_ble_eq_true rfl) hlocks dX12_sums_29 (shM, ad, I255, J257, PM ad) hW ⟨I255, J257, rfl, ⟨(by show 0 ≤ (I255 0 31).toInt ∧ (I255 0 31).toInt ≤ 500; exact k258), (by show 0 ≤ (I255 0 33).toInt ∧ (I255 0 33).toInt ≤ 500; exact k259), (by show 0 ≤ (I255 0 34).toInt ∧ (I255 0 34).toInt ≤ 500; exact k260), (by show 0 ≤ (I255 0 35).toInt ∧ (I255 0 35).toInt ≤ 500; exact k261)⟩, ⟨(by show 0 ≤ (I255 0 36).toInt ∧ (I255 0 36).toInt ≤ 4; exact k262), (by show 0 ≤ (I255 0 42).toInt ∧ (I255 0 42).toInt ≤ 1; exact k263)⟩, ⟨(by show 0 ≤ (I255 0 47).toInt ∧ (I255 0 47).toInt ≤ 119; exact hI255md.1), (by show 0 ≤ (I255 0 39).toInt ∧ (I255 0 39).toInt ≤ 100; exact hI255md.2)⟩, (by show 0 ≤ (I255 0 40).toInt ∧ (I255 0 40).toInt ≤ 6199; exact k264), (by show 0 ≤ (I255 0 15).toInt ∧ (I255 0 15).toInt ≤ 6100; exact k265), (z_Nd_fr a253 fI255 (by decide)), (by show 0 ≤ (I255 0 35).toInt ∧ (I255 0 35).toInt ≤ (I255 0 34).toInt ∧ (I255 0 34).toInt ≤ (I255 0 33).toInt ∧ (I255 0 33).toInt ≤ 500 ∧ ((I255 0 36).toInt = 0 ∨ (I255 0 35).toInt + 1 ≤ (I255 0 34).toInt); first | omega | decide), f256, ((Classical.em ((I255 0 42).toInt = 0)).elim (fun hw9 => Or.inr ⟨a1.toNatClampNeg + 2, by have w1 := z_fw_10 (a := va.toInt) (o := vo.toInt) (by omega); have w2 := z_fo_1n (a := va.toInt); have w3 := z_fw_1nm (a := 1) (o := vo.toInt) (by omega) (by omega); have w4 := z_fo_1n (a := 1); have w5 := z_fw_20 (a := 0) (o := -1) (by omega); have w6 := z_rk_1; have w7 := z_rk_2; exact z_PUSH (d := a1.toNatClampNeg) (w := 1) (a := 1) (o := vo.toInt) (s := vs.toInt) (wi := 2) hPS (fun i hi => ⟨by rw [eI251, z_up_n (by decide)], by rw [eI251, z_up_k (by omega)], by rw [eI251, z_up_n (by decide)], by rw [eI251, z_up_n (by decide)]⟩) (by rw [show I251 26 a1.toNatClampNeg = vw from (by rw [eI251, z_up_n (by decide)]; exact evw.symm)]; exact hvw) (by rw [show I251 27 a1.toNatClampNeg = 1 from (by rw [eI251, z_up_s])]; exact z_l1) (by rw [show I251 28 a1.toNatClampNeg = vo from (by rw [eI251, z_up_n (by decide)]; exact evo.symm)]) (by rw [show I251 29 a1.toNatClampNeg = vs from (by rw [eI251, z_up_n (by decide)]; exact evs.symm)]) (by unfold z_fv; omega) hwd (by rw [eI251, z_up_n (by decide)]; omega) h274 z_l2 (by omega) (by omega) (by omega) (by omega) (by omega) (by omega) (by omega) (by omega)⟩) Or.inl)⟩
noncomputable def L_X12_atom : z_L := [(0, 35), (0, 36), (0, 37), (0, 38), (0, 34), (0, 42), (0, 32), (0, 39), (21, 999), (22, 999), (23, 999), (0, 15), (26, 999), (27, 999), (28, 999), (29, 999), (0, 47), (0, 40)]
theorem zj_X12_atom_X12 : ∀ w ∈ wsX120, w ∈ wsX12_atom := fun w h => (List.mem_cons_of_mem _ (List.mem_append_right _ h))
set_option maxHeartbeats 8000000 in
set_option maxRecDepth 100000 in
theorem sx_X12_atom (l : Launch) (G : z_G) (ad : Nat → Nat) (I : z_I) (J : z_J) (hmp : z_imp I) (hmt : z_imt I) (hmd : z_imd I) (hmg : z_img I) (hmn : z_imn I) (hNd : z_Nd I) (hrp : z_irp I) (B : Int) (a1 : Int32) (q1 : 0 ≤ a1.toInt ∧ a1.toInt ≤ 33) (hwd : (I 26 a1.toNatClampNeg).toInt = 2) (hPS : z_PS I (a1.toNatClampNeg + 1) B) : z_Mv l yX12_atom wsX12_atom { frames := 4, cells := 0, slots := 0, locals := 76 } [.ref (ad 0), .int a1] G (shM, ad, I, J, PM ad) (fun u1 => ∃ (I1 : z_I) (J1 : z_J), u1 = (shM, ad, I1, J1, PM ad) ∧ z_imp I1 ∧ z_imt I1 ∧ z_imd I1 ∧ z_img I1 ∧ z_imn I1 ∧ z_Nd I1 ∧ z_irp I1 ∧ z_fr L_X12_atom I1 I ∧ (¬ (I1 0 42).toInt = 0 ∨ ∃ n, z_PS I1 n (B - 1))) 0 0 := by
  intro sz
  refine z_headQ (cc := cX12_atom) (maxL := 3) (ret := none) (by decide) rfl (Nat.le_of_ble_eq_true rfl) ?_
  intro p e s m below meth c0 ls hIn hK hsz hW hl
  obtain ⟨hx, hb, hr, hml, hown, hts, hlocks, hname⟩ := hIn
  subst hsz
  have hown : s.vm.findClass RX12 = some m.cls := hown
  have hA : ∀ q : Nat, s.heap.size ≤ q → z_A (shM, ad, I, J, PM ad) s.heap.size q := fun q h => Or.inr h
  generalize hAe : z_A (shM, ad, I, J, PM ad) s.heap.size = A at *
  have hS : va_S A s.heap s.heap [] := va_S.rf
  have hl : lv_has ls 3 [(0, .ref (ad 0)), (1, .int a1)] := hl
  obtain ⟨va, eva⟩ : ∃ y, y = I 27 a1.toNatClampNeg := ⟨_, rfl⟩
  obtain ⟨vo, evo⟩ : ∃ y, y = I 28 a1.toNatClampNeg := ⟨_, rfl⟩
  obtain ⟨vs, evs⟩ : ∃ y, y = I 29 a1.toNatClampNeg := ⟨_, rfl⟩
  have hT := z_top hPS
  unfold z_fv at hT
  rw [hwd, ← eva, ← evo, ← evs] at hT
  obtain ⟨t1, t2, t3, t4, t5, t6, t7, t8, t9, t10, t11, t12, t13, t14, t15, t16, t17, t18, t19, t20, t21⟩ := hT
  have hk9 := z_clt (x := a1) rfl q1.1
  have hcw := z_fwc_2 va.toInt vo.toInt
  have hcf := z_foc_2 va.toInt
  obtain ⟨vw, evw⟩ : ∃ y, y = I 26 a1.toNatClampNeg := ⟨_, rfl⟩
  have hvw : vw.toInt = 2 := by rw [evw]; exact hwd
  have krp : 0 ≤ (I 0 35).toInt ∧ (I 0 35).toInt ≤ (I 0 34).toInt ∧ (I 0 34).toInt ≤ (I 0 33).toInt ∧ (I 0 33).toInt ≤ 500 ∧ ((I 0 36).toInt = 0 ∨ (I 0 35).toInt + 1 ≤ (I 0 34).toInt) := hrp
  refine lv_aload_n hx hb dX12_atom_0 rfl (lv_at hl 0 rfl) ?_
  refine z_get (T := TX12) (N := 96) (ci := 12) (i := 0) (v := .ref (ad 27)) hx hb hts zj_X12_atom_X12 hown hK hW rfl rfl 44 (by decide) (hts (.fieldLink RX12 94 "PetrolBoardModel" "at" "[I") (me_s (me_l (me_l (List.mem_of_getElem? (i := 0) rfl))))) (fun _ h => h) rfl dX12_atom_1 ?_
  refine lv_iload_n hx hb dX12_atom_4 rfl (lv_at hl 1 rfl) ?_
  refine z_iald (i := 27) hx hb hK hW rfl (z_ix rfl (by omega) (by omega)) dX12_atom_5 ?_
  refine z_topi (v := va) eva.symm ?_
  refine lv_if_ne (tgt := 198) hx hb dX12_atom_6 (by decide) (fun c1 => ?_) (fun c1 => ?_)
  · have g2 := z_f_ne rfl z_l0 c1
    refine lv_aload_n hx hb dX12_atom_198 rfl (lv_at hl 0 rfl) ?_
    refine z_get (T := TX12) (N := 96) (ci := 12) (i := 0) (v := .ref (ad 27)) hx hb hts zj_X12_atom_X12 hown hK hW rfl rfl 44 (by decide) (hts (.fieldLink RX12 94 "PetrolBoardModel" "at" "[I") (me_s (me_l (me_l (List.mem_of_getElem? (i := 0) rfl))))) (fun _ h => h) rfl dX12_atom_199 ?_
    refine lv_iload_n hx hb dX12_atom_202 rfl (lv_at hl 1 rfl) ?_
    refine z_iald (i := 27) hx hb hK hW rfl (z_ix rfl (by omega) (by omega)) dX12_atom_203 ?_
    refine z_topi (v := va) eva.symm ?_
    refine lv_iconst (v := 2) hx hb dX12_atom_204 (by decide) ?_
    refine lv_icmp_ne (tgt := 246) hx hb dX12_atom_205 (by decide) (fun c3 => ?_) (fun c3 => ?_)
    · have g4 := z_f_ne rfl z_l2 c3
      refine lv_aload_n hx hb dX12_atom_246 rfl (lv_at hl 0 rfl) ?_
      refine lv_bipush (v := 41) hx hb dX12_atom_247 (by decide) ?_
      refine z_cv hW hS hA (va_runV (As := [.int 41]) (rest := []) ⟨hx, hb, hml, hown, hts⟩ (sx_X12_must l G ad I J ⟨(by show 0 ≤ (I 0 31).toInt ∧ (I 0 31).toInt ≤ 500; exact hmp.1), (by show 0 ≤ (I 0 33).toInt ∧ (I 0 33).toInt ≤ 500; exact hmp.2.1), (by show 0 ≤ (I 0 34).toInt ∧ (I 0 34).toInt ≤ 500; exact hmp.2.2.1), (by show 0 ≤ (I 0 35).toInt ∧ (I 0 35).toInt ≤ 500; exact hmp.2.2.2)⟩ ⟨(by show 0 ≤ (I 0 36).toInt ∧ (I 0 36).toInt ≤ 4; exact hmt.1), (by show 0 ≤ (I 0 42).toInt ∧ (I 0 42).toInt ≤ 1; exact hmt.2)⟩ (by show 0 ≤ (I 0 35).toInt ∧ (I 0 35).toInt ≤ (I 0 34).toInt ∧ (I 0 34).toInt ≤ (I 0 33).toInt ∧ (I 0 33).toInt ≤ 500 ∧ ((I 0 36).toInt = 0 ∨ (I 0 35).toInt + 1 ≤ (I 0 34).toInt); first | omega | decide) 41 _) (cwV 1 hts gX12_atom_X12_must rfl rfl rfl hy_X12_must ⟨Nat.le_of_ble_eq_true rfl, Nat.le_of_ble_eq_true rfl⟩) (z_preV (i := 0) hK hW rfl rfl) rfl rfl hl.1 rfl (lv_room (Nat.le_of_ble_eq_true rfl)) dX12_atom_249 ⟨Nat.le_of_ble_eq_true rfl, Nat.le_of_ble_eq_true rfl⟩) (fun u1 H locs hp hW hS => ?_)
      obtain ⟨I5, J7, e9, hI5mp, hI5mt, hI5rp, fI5, hp⟩ := hp
      rw [e9] at hW
      have f6 := z_fr_sub (L := L_X12_atom) z_fr_0 fI5 (by decide)
      have k8 : 0 ≤ (I5 0 47).toInt ∧ (I5 0 47).toInt ≤ 119 := by rw [fI5 0 47 (by decide)]; exact (by show 0 ≤ (I 0 47).toInt ∧ (I 0 47).toInt ≤ 119; exact hmd.1)
      have k9 : 0 ≤ (I5 0 39).toInt ∧ (I5 0 39).toInt ≤ 100 := by rw [fI5 0 39 (by decide)]; exact (by show 0 ≤ (I 0 39).toInt ∧ (I 0 39).toInt ≤ 100; exact hmd.2)
      have k10 : 0 ≤ (I5 0 40).toInt ∧ (I5 0 40).toInt ≤ 6199 := by rw [fI5 0 40 (by decide)]; exact (by show 0 ≤ (I 0 40).toInt ∧ (I 0 40).toInt ≤ 6199; exact hmg)
      have k11 : 0 ≤ (I5 0 15).toInt ∧ (I5 0 15).toInt ≤ 6100 := by rw [fI5 0 15 (by decide)]; exact (by show 0 ≤ (I 0 15).toInt ∧ (I 0 15).toInt ≤ 6100; exact hmn)
      have k12 : 0 ≤ (I5 0 35).toInt ∧ (I5 0 35).toInt ≤ (I5 0 34).toInt ∧ (I5 0 34).toInt ≤ (I5 0 33).toInt ∧ (I5 0 33).toInt ≤ 500 ∧ ((I5 0 36).toInt = 0 ∨ (I5 0 35).toInt + 1 ≤ (I5 0 34).toInt) := hI5rp
      have k13 : (I5 0 47).toInt = (I 0 47).toInt := by rw [fI5 0 47 (by decide)]
      have k14 : (I5 0 39).toInt = (I 0 39).toInt := by rw [fI5 0 39 (by decide)]
      have k15 : (I5 0 15).toInt = (I 0 15).toInt := by rw [fI5 0 15 (by decide)]
      have k16 : (I5 0 40).toInt = (I 0 40).toInt := by rw [fI5 0 40 (by decide)]
      have h17 := hp
      refine lv_aload_n hx hb dX12_atom_252 rfl (lv_at hl 0 rfl) ?_
      refine lv_dup hx hb dX12_atom_253 rfl ?_
      have r18 : 0 ≤ (I5 0 39).toInt ∧ (I5 0 39).toInt ≤ 100 := k9
      refine z_get (T := TX12) (N := 96) (ci := 12) (i := 0) (v := .int (I5 0 39)) hx hb hts zj_X12_atom_X12 hown hK hW rfl rfl 39 (by decide) (hts (.fieldLink RX12 346 "PetrolBoardModel" "open" "I") (me_s (me_l (me_l (List.mem_of_getElem? (i := 10) rfl))))) (fun _ h => h) rfl dX12_atom_254 ?_
      refine lv_iconst (v := 1) hx hb dX12_atom_257 (by decide) ?_
      refine lv_isub hx hb dX12_atom_258 ?_
      refine lv_topi (fun x19 ex19 => ?_)
      have tx19 : x19.toInt = (I5 0 39).toInt - 1 := z_tsub ex19 rfl z_l1 (by omega) (by omega)
      refine z_put (T := TX12) (N := 96) (ci := 12) (i := 0) (v := .int x19) (I1 := z_up I5 0 39 x19) (J1 := J7) (P1 := PM ad) hx hb hts zj_X12_atom_X12 tyX12 tyX12_ok nmX12 hown hK hW hS rfl rfl 39 (by decide) (hts (.fieldLink RX12 346 "PetrolBoardModel" "open" "I") (me_s (me_l (me_l (List.mem_of_getElem? (i := 10) rfl))))) (fun _ h => h) rfl rfl rfl (by first | rfl | exact congrArg _ z_up_s) (fun a b h ty => z_vI h ty) dX12_atom_259 (fun H locs hz1 hW hS => ?_)
      obtain ⟨I20, eI20⟩ : ∃ K : z_I, K = z_up I5 0 39 x19 := ⟨_, rfl⟩
      rw [← eI20] at hW
      have f21 := z_fr_k f6 (show z_wr L_X12_atom 0 39 = true by decide) eI20
      have a22 := z_Nd_n (z_Nd_fr hNd fI5 (by decide)) (by decide) eI20
      refine lv_aload_n hx hb dX12_atom_262 rfl (lv_at hl 0 rfl) ?_
      have r23 : 0 ≤ (I5 0 42).toInt ∧ (I5 0 42).toInt ≤ 1 := hI5mt.2
      refine z_get (T := TX12) (N := 96) (ci := 12) (i := 0) (v := .int (I5 0 42)) hx hb hts zj_X12_atom_X12 hown hK hW rfl rfl 42 (by decide) (hts (.fieldLink RX12 294 "PetrolBoardModel" "isWrong" "Z") (me_s (me_l (me_l (List.mem_of_getElem? (i := 6) rfl))))) (fun _ h => h) (congrArg Value.int (by rw [eI20, z_up_k (by decide)])) dX12_atom_263 ?_
      refine lv_if_eq (tgt := 270) hx hb dX12_atom_266 (by decide) (fun c24 => ?_) (fun c24 => ?_)
      · have g25 := z_f_eq rfl z_l0 c24
        refine lv_aload_n hx hb dX12_atom_270 rfl (lv_at hl 0 rfl) ?_
        refine lv_aload_n hx hb dX12_atom_271 rfl (lv_at hl 0 rfl) ?_
        refine z_get (T := TX12) (N := 96) (ci := 12) (i := 0) (v := .ref (ad 27)) hx hb hts zj_X12_atom_X12 hown hK hW rfl rfl 44 (by decide) (hts (.fieldLink RX12 94 "PetrolBoardModel" "at" "[I") (me_s (me_l (me_l (List.mem_of_getElem? (i := 0) rfl))))) (fun _ h => h) rfl dX12_atom_272 ?_
        refine lv_iload_n hx hb dX12_atom_275 rfl (lv_at hl 1 rfl) ?_
        refine z_iald (i := 27) hx hb hK hW rfl (z_ix rfl (by omega) (by omega)) dX12_atom_276 ?_
        refine z_topi (v := va) (by rw [eI20, z_up_n (by decide), fI5 27 a1.toNatClampNeg (z_wr_c (by decide))]; exact eva.symm) ?_
        refine lv_iconst (v := 1) hx hb dX12_atom_277 (by decide) ?_
        refine lv_icmp_ne (tgt := 288) hx hb dX12_atom_278 (by decide) (fun c26 => ?_) (fun c26 => ?_)
        · have g27 := z_f_ne rfl z_l1 c26
          refine lv_aload_n hx hb dX12_atom_288 rfl (lv_at hl 0 rfl) ?_
          refine lv_aload_n hx hb dX12_atom_289 rfl (lv_at hl 0 rfl) ?_
          refine z_get (T := TX12) (N := 96) (ci := 12) (i := 0) (v := .ref (ad 29)) hx hb hts zj_X12_atom_X12 hown hK hW rfl rfl 46 (by decide) (hts (.fieldLink RX12 100 "PetrolBoardModel" "sort" "[I") (me_s (me_l (me_l (List.mem_of_getElem? (i := 5) rfl))))) (fun _ h => h) rfl dX12_atom_290 ?_
          refine lv_iload_n hx hb dX12_atom_293 rfl (lv_at hl 1 rfl) ?_
          refine z_iald (i := 29) hx hb hK hW rfl (z_ix rfl (by omega) (by omega)) dX12_atom_294 ?_
          refine z_topi (v := vs) (by rw [eI20, z_up_n (by decide), fI5 29 a1.toNatClampNeg (z_wr_c (by decide))]; exact evs.symm) ?_
          refine lv_aload_n hx hb dX12_atom_295 rfl (lv_at hl 0 rfl) ?_
          refine z_get (T := TX12) (N := 96) (ci := 12) (i := 0) (v := .ref (ad 28)) hx hb hts zj_X12_atom_X12 hown hK hW rfl rfl 45 (by decide) (hts (.fieldLink RX12 97 "PetrolBoardModel" "one" "[I") (me_s (me_l (me_l (List.mem_of_getElem? (i := 8) rfl))))) (fun _ h => h) rfl dX12_atom_296 ?_
          refine lv_iload_n hx hb dX12_atom_299 rfl (lv_at hl 1 rfl) ?_
          refine z_iald (i := 28) hx hb hK hW rfl (z_ix rfl (by omega) (by omega)) dX12_atom_300 ?_
          refine z_topi (v := vo) (by rw [eI20, z_up_n (by decide), fI5 28 a1.toNatClampNeg (z_wr_c (by decide))]; exact evo.symm) ?_
          refine lv_aload_n hx hb dX12_atom_301 rfl (lv_at hl 0 rfl) ?_
          have r28 : 0 ≤ (I5 0 40).toInt ∧ (I5 0 40).toInt ≤ 6199 := k10
          refine z_get (T := TX12) (N := 96) (ci := 12) (i := 0) (v := .int (I5 0 40)) hx hb hts zj_X12_atom_X12 hown hK hW rfl rfl 40 (by decide) (hts (.fieldLink RX12 343 "PetrolBoardModel" "got" "I") (me_s (me_l (me_l (List.mem_of_getElem? (i := 9) rfl))))) (fun _ h => h) (congrArg Value.int (by rw [eI20, z_up_k (by decide)])) dX12_atom_302 ?_
          refine z_ci hW hS hA (va_runV (As := [.int vs, .int vo, .int (I5 0 40)]) (rest := [.ref (ad 0)]) ⟨hx, hb, hml, hown, hts⟩ (sx_X12_node l G ad I20 J7 (by show 0 ≤ (I20 0 15).toInt ∧ (I20 0 15).toInt ≤ 6100; rw [eI20, z_up_k (by decide)]; exact k11) a22 vs vo (I5 0 40) (by have q0 : (I20 0 15) = (I5 0 15) := (by rw [eI20, z_up_k (by decide)]); show (I20 0 15).toInt ≤ 6099; rw [q0]; omega) (by first | omega | decide) (by first | omega | decide) (by first | omega | decide) _) (cwV 3 hts gX12_atom_X12_node rfl rfl rfl hy_X12_node ⟨Nat.le_of_ble_eq_true rfl, Nat.le_of_ble_eq_true rfl⟩) (z_preV (i := 0) hK hW rfl rfl) rfl rfl hl.1 rfl (lv_room (Nat.le_of_ble_eq_true rfl)) dX12_atom_305 ⟨Nat.le_of_ble_eq_true rfl, Nat.le_of_ble_eq_true rfl⟩) (fun r u1 H locs hp hW hS => ?_)
          obtain ⟨I29, J31, e9, hI29mn, hI29Nd, fI29, hp⟩ := hp
          rw [e9] at hW
          have f30 := z_fr_sub (L := L_X12_atom) f21 fI29 (by decide)
          have k32 : 0 ≤ (I29 0 31).toInt ∧ (I29 0 31).toInt ≤ 500 := by rw [fI29 0 31 (by decide)]; exact (by show 0 ≤ (I20 0 31).toInt ∧ (I20 0 31).toInt ≤ 500; rw [eI20, z_up_k (by decide)]; exact hI5mp.1)
          have k33 : 0 ≤ (I29 0 33).toInt ∧ (I29 0 33).toInt ≤ 500 := by rw [fI29 0 33 (by decide)]; exact (by show 0 ≤ (I20 0 33).toInt ∧ (I20 0 33).toInt ≤ 500; rw [eI20, z_up_k (by decide)]; exact hI5mp.2.1)
          have k34 : 0 ≤ (I29 0 34).toInt ∧ (I29 0 34).toInt ≤ 500 := by rw [fI29 0 34 (by decide)]; exact (by show 0 ≤ (I20 0 34).toInt ∧ (I20 0 34).toInt ≤ 500; rw [eI20, z_up_k (by decide)]; exact hI5mp.2.2.1)
          have k35 : 0 ≤ (I29 0 35).toInt ∧ (I29 0 35).toInt ≤ 500 := by rw [fI29 0 35 (by decide)]; exact (by show 0 ≤ (I20 0 35).toInt ∧ (I20 0 35).toInt ≤ 500; rw [eI20, z_up_k (by decide)]; exact hI5mp.2.2.2)
          have k36 : 0 ≤ (I29 0 36).toInt ∧ (I29 0 36).toInt ≤ 4 := by rw [fI29 0 36 (by decide)]; exact (by show 0 ≤ (I20 0 36).toInt ∧ (I20 0 36).toInt ≤ 4; rw [eI20, z_up_k (by decide)]; exact hI5mt.1)
          have k37 : 0 ≤ (I29 0 42).toInt ∧ (I29 0 42).toInt ≤ 1 := by rw [fI29 0 42 (by decide)]; exact (by show 0 ≤ (I20 0 42).toInt ∧ (I20 0 42).toInt ≤ 1; rw [eI20, z_up_k (by decide)]; exact hI5mt.2)
          have k38 : 0 ≤ (I29 0 47).toInt ∧ (I29 0 47).toInt ≤ 119 := by rw [fI29 0 47 (by decide)]; exact (by show 0 ≤ (I20 0 47).toInt ∧ (I20 0 47).toInt ≤ 119; rw [eI20, z_up_k (by decide)]; exact k8)
          have k39 : 0 ≤ (I29 0 39).toInt ∧ (I29 0 39).toInt ≤ 100 := by rw [fI29 0 39 (by decide)]; exact (by show 0 ≤ (I20 0 39).toInt ∧ (I20 0 39).toInt ≤ 100; rw [eI20, z_up_s]; omega)
          have k40 : 0 ≤ (I29 0 40).toInt ∧ (I29 0 40).toInt ≤ 6199 := by rw [fI29 0 40 (by decide)]; exact (by show 0 ≤ (I20 0 40).toInt ∧ (I20 0 40).toInt ≤ 6199; rw [eI20, z_up_k (by decide)]; exact k10)
          have k41 : 0 ≤ (I29 0 35).toInt ∧ (I29 0 35).toInt ≤ (I29 0 34).toInt ∧ (I29 0 34).toInt ≤ (I29 0 33).toInt ∧ (I29 0 33).toInt ≤ 500 ∧ ((I29 0 36).toInt = 0 ∨ (I29 0 35).toInt + 1 ≤ (I29 0 34).toInt) := (by have q0 : (I29 0 35) = (I5 0 35) := (by rw [fI29 0 35 (by decide), eI20, z_up_k (by decide)]); have q1 : (I29 0 34) = (I5 0 34) := (by rw [fI29 0 34 (by decide), eI20, z_up_k (by decide)]); have q2 : (I29 0 33) = (I5 0 33) := (by rw [fI29 0 33 (by decide), eI20, z_up_k (by decide)]); have q3 : (I29 0 36) = (I5 0 36) := (by rw [fI29 0 36 (by decide), eI20, z_up_k (by decide)]); show 0 ≤ (I29 0 35).toInt ∧ (I29 0 35).toInt ≤ (I29 0 34).toInt ∧ (I29 0 34).toInt ≤ (I29 0 33).toInt ∧ (I29 0 33).toInt ≤ 500 ∧ ((I29 0 36).toInt = 0 ∨ (I29 0 35).toInt + 1 ≤ (I29 0 34).toInt); rw [q0, q1, q2, q3]; first | omega | decide)
          have k42 : (I29 0 35).toInt = (I5 0 35).toInt := by rw [fI29 0 35 (by decide), eI20, z_up_k (by decide)]
          have k43 : (I29 0 34).toInt = (I5 0 34).toInt := by rw [fI29 0 34 (by decide), eI20, z_up_k (by decide)]
          have k44 : (I29 0 36).toInt = (I5 0 36).toInt := by rw [fI29 0 36 (by decide), eI20, z_up_k (by decide)]
          have k45 : (I29 0 42).toInt = (I5 0 42).toInt := by rw [fI29 0 42 (by decide), eI20, z_up_k (by decide)]
          have k46 : (I29 0 47).toInt = (I5 0 47).toInt := by rw [fI29 0 47 (by decide), eI20, z_up_k (by decide)]
          have k47 : (I29 0 39).toInt = x19.toInt := by rw [fI29 0 39 (by decide), eI20, z_up_s]
          have k48 : (I29 0 40).toInt = (I5 0 40).toInt := by rw [fI29 0 40 (by decide), eI20, z_up_k (by decide)]
          refine lv_topi (fun x49 ex49 => ?_)
          rw [← ex49] at hp
          obtain ⟨h50, h51⟩ := hp
          have h52 : 0 ≤ x49.toInt ∧ x49.toInt ≤ 6100 := (by have q9 : 0 ≤ (I20 0 15).toInt ∧ (I20 0 15).toInt ≤ 6100 := (by show 0 ≤ (I20 0 15).toInt ∧ (I20 0 15).toInt ≤ 6100; rw [eI20, z_up_k (by decide)]; exact k11); omega)
          rw [show (I20 0 15) = (I5 0 15) from by rw [eI20, z_up_k (by decide)]] at h50
          rw [show (I20 0 15) = (I5 0 15) from by rw [eI20, z_up_k (by decide)]] at h51
          refine z_cv hW hS hA (va_runV (As := [.int x49]) (rest := []) ⟨hx, hb, hml, hown, hts⟩ (sx_X12_ends l G ad I29 J31 ⟨(by show 0 ≤ (I29 0 47).toInt ∧ (I29 0 47).toInt ≤ 119; exact k38), (by show 0 ≤ (I29 0 39).toInt ∧ (I29 0 39).toInt ≤ 100; exact k39)⟩ (by show 0 ≤ (I29 0 40).toInt ∧ (I29 0 40).toInt ≤ 6199; exact k40) x49 (by first | omega | decide) (by show 1 ≤ (I29 0 47).toInt; omega) _) (cwV 1 hts gX12_atom_X12_ends rfl rfl rfl hy_X12_ends ⟨Nat.le_of_ble_eq_true rfl, Nat.le_of_ble_eq_true rfl⟩) (z_preV (i := 0) hK hW rfl rfl) rfl rfl hl.1 rfl (lv_room (Nat.le_of_ble_eq_true rfl)) dX12_atom_308 ⟨Nat.le_of_ble_eq_true rfl, Nat.le_of_ble_eq_true rfl⟩) (fun u1 H locs hp hW hS => ?_)
          obtain ⟨I53, J55, e9, hI53md, hI53mg, fI53, hp⟩ := hp
          rw [e9] at hW
          have f54 := z_fr_sub (L := L_X12_atom) f30 fI53 (by decide)
          have k56 : 0 ≤ (I53 0 31).toInt ∧ (I53 0 31).toInt ≤ 500 := by rw [fI53 0 31 (by decide)]; exact (by show 0 ≤ (I29 0 31).toInt ∧ (I29 0 31).toInt ≤ 500; exact k32)
          have k57 : 0 ≤ (I53 0 33).toInt ∧ (I53 0 33).toInt ≤ 500 := by rw [fI53 0 33 (by decide)]; exact (by show 0 ≤ (I29 0 33).toInt ∧ (I29 0 33).toInt ≤ 500; exact k33)
          have k58 : 0 ≤ (I53 0 34).toInt ∧ (I53 0 34).toInt ≤ 500 := by rw [fI53 0 34 (by decide)]; exact (by show 0 ≤ (I29 0 34).toInt ∧ (I29 0 34).toInt ≤ 500; exact k34)
          have k59 : 0 ≤ (I53 0 35).toInt ∧ (I53 0 35).toInt ≤ 500 := by rw [fI53 0 35 (by decide)]; exact (by show 0 ≤ (I29 0 35).toInt ∧ (I29 0 35).toInt ≤ 500; exact k35)
          have k60 : 0 ≤ (I53 0 36).toInt ∧ (I53 0 36).toInt ≤ 4 := by rw [fI53 0 36 (by decide)]; exact (by show 0 ≤ (I29 0 36).toInt ∧ (I29 0 36).toInt ≤ 4; exact k36)
          have k61 : 0 ≤ (I53 0 42).toInt ∧ (I53 0 42).toInt ≤ 1 := by rw [fI53 0 42 (by decide)]; exact (by show 0 ≤ (I29 0 42).toInt ∧ (I29 0 42).toInt ≤ 1; exact k37)
          have k62 : 0 ≤ (I53 0 15).toInt ∧ (I53 0 15).toInt ≤ 6100 := by rw [fI53 0 15 (by decide)]; exact (by show 0 ≤ (I29 0 15).toInt ∧ (I29 0 15).toInt ≤ 6100; exact hI29mn)
          have k63 : 0 ≤ (I53 0 35).toInt ∧ (I53 0 35).toInt ≤ (I53 0 34).toInt ∧ (I53 0 34).toInt ≤ (I53 0 33).toInt ∧ (I53 0 33).toInt ≤ 500 ∧ ((I53 0 36).toInt = 0 ∨ (I53 0 35).toInt + 1 ≤ (I53 0 34).toInt) := (by have q0 : (I53 0 35) = (I29 0 35) := (by rw [fI53 0 35 (by decide)]); have q1 : (I53 0 34) = (I29 0 34) := (by rw [fI53 0 34 (by decide)]); have q2 : (I53 0 33) = (I29 0 33) := (by rw [fI53 0 33 (by decide)]); have q3 : (I53 0 36) = (I29 0 36) := (by rw [fI53 0 36 (by decide)]); show 0 ≤ (I53 0 35).toInt ∧ (I53 0 35).toInt ≤ (I53 0 34).toInt ∧ (I53 0 34).toInt ≤ (I53 0 33).toInt ∧ (I53 0 33).toInt ≤ 500 ∧ ((I53 0 36).toInt = 0 ∨ (I53 0 35).toInt + 1 ≤ (I53 0 34).toInt); rw [q0, q1, q2, q3]; first | omega | decide)
          have k64 : (I53 0 35).toInt = (I29 0 35).toInt := by rw [fI53 0 35 (by decide)]
          have k65 : (I53 0 34).toInt = (I29 0 34).toInt := by rw [fI53 0 34 (by decide)]
          have k66 : (I53 0 36).toInt = (I29 0 36).toInt := by rw [fI53 0 36 (by decide)]
          have k67 : (I53 0 42).toInt = (I29 0 42).toInt := by rw [fI53 0 42 (by decide)]
          have k68 : (I53 0 39).toInt = (I29 0 39).toInt := by rw [fI53 0 39 (by decide)]
          have k69 : (I53 0 15).toInt = (I29 0 15).toInt := by rw [fI53 0 15 (by decide)]
          have h70 := hp
          exact z_vret hx hb hr hK hS (Nat.le_of_ble_eq_true rfl) (Nat.le_of_ble_eq_true rfl) hlocks dX12_atom_311 (shM, ad, I53, J55, PM ad) hW ⟨I53, J55, rfl, ⟨(by show 0 ≤ (I53 0 31).toInt ∧ (I53 0 31).toInt ≤ 500; exact k56), (by show 0 ≤ (I53 0 33).toInt ∧ (I53 0 33).toInt ≤ 500; exact k57), (by show 0 ≤ (I53 0 34).toInt ∧ (I53 0 34).toInt ≤ 500; exact k58), (by show 0 ≤ (I53 0 35).toInt ∧ (I53 0 35).toInt ≤ 500; exact k59)⟩, ⟨(by show 0 ≤ (I53 0 36).toInt ∧ (I53 0 36).toInt ≤ 4; exact k60), (by show 0 ≤ (I53 0 42).toInt ∧ (I53 0 42).toInt ≤ 1; exact k61)⟩, ⟨(by show 0 ≤ (I53 0 47).toInt ∧ (I53 0 47).toInt ≤ 119; exact hI53md.1), (by show 0 ≤ (I53 0 39).toInt ∧ (I53 0 39).toInt ≤ 100; exact hI53md.2)⟩, (by show 0 ≤ (I53 0 40).toInt ∧ (I53 0 40).toInt ≤ 6199; exact hI53mg), (by show 0 ≤ (I53 0 15).toInt ∧ (I53 0 15).toInt ≤ 6100; exact k62), (z_Nd_fr hI29Nd fI53 (by decide)), (by show 0 ≤ (I53 0 35).toInt ∧ (I53 0 35).toInt ≤ (I53 0 34).toInt ∧ (I53 0 34).toInt ≤ (I53 0 33).toInt ∧ (I53 0 33).toInt ≤ 500 ∧ ((I53 0 36).toInt = 0 ∨ (I53 0 35).toInt + 1 ≤ (I53 0 34).toInt); first | omega | decide), f54, ((Classical.em ((I53 0 42).toInt = 0)).elim (fun hw9 => Or.inr ⟨a1.toNatClampNeg, by have w1 := z_fw_2n (a := va.toInt) (o := vo.toInt) (by omega); have w2 := z_fo_2y (a := va.toInt) (by omega); exact z_POP (d := a1.toNatClampNeg) hPS (fun i hi => ⟨by rw [fI53 26 i (z_wr_c (by decide)), fI29 26 i (z_wr_c (by decide)), eI20, z_up_n (by decide), fI5 26 i (z_wr_c (by decide))], by rw [fI53 27 i (z_wr_c (by decide)), fI29 27 i (z_wr_c (by decide)), eI20, z_up_n (by decide), fI5 27 i (z_wr_c (by decide))], by rw [fI53 28 i (z_wr_c (by decide)), fI29 28 i (z_wr_c (by decide)), eI20, z_up_n (by decide), fI5 28 i (z_wr_c (by decide))], by rw [fI53 29 i (z_wr_c (by decide)), fI29 29 i (z_wr_c (by decide)), eI20, z_up_n (by decide), fI5 29 i (z_wr_c (by decide))]⟩) (by omega) (by omega) (by omega) (by omega) (by omega) (by omega)⟩) Or.inl)⟩
        · have g71 := z_f_eq rfl z_l1 c26
          refine lv_aload_n hx hb dX12_atom_281 rfl (lv_at hl 0 rfl) ?_
          have r72 : 0 ≤ (I5 0 40).toInt ∧ (I5 0 40).toInt ≤ 6199 := k10
          refine z_get (T := TX12) (N := 96) (ci := 12) (i := 0) (v := .int (I5 0 40)) hx hb hts zj_X12_atom_X12 hown hK hW rfl rfl 40 (by decide) (hts (.fieldLink RX12 343 "PetrolBoardModel" "got" "I") (me_s (me_l (me_l (List.mem_of_getElem? (i := 9) rfl))))) (fun _ h => h) (congrArg Value.int (by rw [eI20, z_up_k (by decide)])) dX12_atom_282 ?_
          refine lv_goto (tgt := 308) hx hb dX12_atom_285 (by decide) ?_
          refine z_cv hW hS hA (va_runV (As := [.int (I5 0 40)]) (rest := []) ⟨hx, hb, hml, hown, hts⟩ (sx_X12_ends l G ad I20 J7 ⟨(by show 0 ≤ (I20 0 47).toInt ∧ (I20 0 47).toInt ≤ 119; rw [eI20, z_up_k (by decide)]; exact k8), (by show 0 ≤ (I20 0 39).toInt ∧ (I20 0 39).toInt ≤ 100; rw [eI20, z_up_s]; omega)⟩ (by show 0 ≤ (I20 0 40).toInt ∧ (I20 0 40).toInt ≤ 6199; rw [eI20, z_up_k (by decide)]; exact k10) (I5 0 40) (by first | omega | decide) (by have q0 : (I20 0 47) = (I5 0 47) := (by rw [eI20, z_up_k (by decide)]); show 1 ≤ (I20 0 47).toInt; rw [q0]; omega) _) (cwV 1 hts gX12_atom_X12_ends rfl rfl rfl hy_X12_ends ⟨Nat.le_of_ble_eq_true rfl, Nat.le_of_ble_eq_true rfl⟩) (z_preV (i := 0) hK hW rfl rfl) rfl rfl hl.1 rfl (lv_room (Nat.le_of_ble_eq_true rfl)) dX12_atom_308 ⟨Nat.le_of_ble_eq_true rfl, Nat.le_of_ble_eq_true rfl⟩) (fun u1 H locs hp hW hS => ?_)
          obtain ⟨I73, J75, e9, hI73md, hI73mg, fI73, hp⟩ := hp
          rw [e9] at hW
          have f74 := z_fr_sub (L := L_X12_atom) f21 fI73 (by decide)
          have k76 : 0 ≤ (I73 0 31).toInt ∧ (I73 0 31).toInt ≤ 500 := by rw [fI73 0 31 (by decide)]; exact (by show 0 ≤ (I20 0 31).toInt ∧ (I20 0 31).toInt ≤ 500; rw [eI20, z_up_k (by decide)]; exact hI5mp.1)
          have k77 : 0 ≤ (I73 0 33).toInt ∧ (I73 0 33).toInt ≤ 500 := by rw [fI73 0 33 (by decide)]; exact (by show 0 ≤ (I20 0 33).toInt ∧ (I20 0 33).toInt ≤ 500; rw [eI20, z_up_k (by decide)]; exact hI5mp.2.1)
          have k78 : 0 ≤ (I73 0 34).toInt ∧ (I73 0 34).toInt ≤ 500 := by rw [fI73 0 34 (by decide)]; exact (by show 0 ≤ (I20 0 34).toInt ∧ (I20 0 34).toInt ≤ 500; rw [eI20, z_up_k (by decide)]; exact hI5mp.2.2.1)
          have k79 : 0 ≤ (I73 0 35).toInt ∧ (I73 0 35).toInt ≤ 500 := by rw [fI73 0 35 (by decide)]; exact (by show 0 ≤ (I20 0 35).toInt ∧ (I20 0 35).toInt ≤ 500; rw [eI20, z_up_k (by decide)]; exact hI5mp.2.2.2)
          have k80 : 0 ≤ (I73 0 36).toInt ∧ (I73 0 36).toInt ≤ 4 := by rw [fI73 0 36 (by decide)]; exact (by show 0 ≤ (I20 0 36).toInt ∧ (I20 0 36).toInt ≤ 4; rw [eI20, z_up_k (by decide)]; exact hI5mt.1)
          have k81 : 0 ≤ (I73 0 42).toInt ∧ (I73 0 42).toInt ≤ 1 := by rw [fI73 0 42 (by decide)]; exact (by show 0 ≤ (I20 0 42).toInt ∧ (I20 0 42).toInt ≤ 1; rw [eI20, z_up_k (by decide)]; exact hI5mt.2)
          have k82 : (I73 0 39).toInt = x19.toInt := by rw [fI73 0 39 (by decide), eI20, z_up_s]
          have k83 : 0 ≤ (I73 0 15).toInt ∧ (I73 0 15).toInt ≤ 6100 := by rw [fI73 0 15 (by decide)]; exact (by show 0 ≤ (I20 0 15).toInt ∧ (I20 0 15).toInt ≤ 6100; rw [eI20, z_up_k (by decide)]; exact k11)
          have k84 : 0 ≤ (I73 0 35).toInt ∧ (I73 0 35).toInt ≤ (I73 0 34).toInt ∧ (I73 0 34).toInt ≤ (I73 0 33).toInt ∧ (I73 0 33).toInt ≤ 500 ∧ ((I73 0 36).toInt = 0 ∨ (I73 0 35).toInt + 1 ≤ (I73 0 34).toInt) := (by have q0 : (I73 0 35) = (I5 0 35) := (by rw [fI73 0 35 (by decide), eI20, z_up_k (by decide)]); have q1 : (I73 0 34) = (I5 0 34) := (by rw [fI73 0 34 (by decide), eI20, z_up_k (by decide)]); have q2 : (I73 0 33) = (I5 0 33) := (by rw [fI73 0 33 (by decide), eI20, z_up_k (by decide)]); have q3 : (I73 0 36) = (I5 0 36) := (by rw [fI73 0 36 (by decide), eI20, z_up_k (by decide)]); show 0 ≤ (I73 0 35).toInt ∧ (I73 0 35).toInt ≤ (I73 0 34).toInt ∧ (I73 0 34).toInt ≤ (I73 0 33).toInt ∧ (I73 0 33).toInt ≤ 500 ∧ ((I73 0 36).toInt = 0 ∨ (I73 0 35).toInt + 1 ≤ (I73 0 34).toInt); rw [q0, q1, q2, q3]; first | omega | decide)
          have k85 : (I73 0 35).toInt = (I5 0 35).toInt := by rw [fI73 0 35 (by decide), eI20, z_up_k (by decide)]
          have k86 : (I73 0 34).toInt = (I5 0 34).toInt := by rw [fI73 0 34 (by decide), eI20, z_up_k (by decide)]
          have k87 : (I73 0 36).toInt = (I5 0 36).toInt := by rw [fI73 0 36 (by decide), eI20, z_up_k (by decide)]
          have k88 : (I73 0 42).toInt = (I5 0 42).toInt := by rw [fI73 0 42 (by decide), eI20, z_up_k (by decide)]
          have k89 : (I73 0 39).toInt = x19.toInt := by rw [fI73 0 39 (by decide), eI20, z_up_s]
          have k90 : (I73 0 15).toInt = (I5 0 15).toInt := by rw [fI73 0 15 (by decide), eI20, z_up_k (by decide)]
          have h91 := hp
          rw [show (I20 0 47) = (I5 0 47) from by rw [eI20, z_up_k (by decide)]] at h91
          exact z_vret hx hb hr hK hS (Nat.le_of_ble_eq_true rfl) (Nat.le_of_ble_eq_true rfl) hlocks dX12_atom_311 (shM, ad, I73, J75, PM ad) hW ⟨I73, J75, rfl, ⟨(by show 0 ≤ (I73 0 31).toInt ∧ (I73 0 31).toInt ≤ 500; exact k76), (by show 0 ≤ (I73 0 33).toInt ∧ (I73 0 33).toInt ≤ 500; exact k77), (by show 0 ≤ (I73 0 34).toInt ∧ (I73 0 34).toInt ≤ 500; exact k78), (by show 0 ≤ (I73 0 35).toInt ∧ (I73 0 35).toInt ≤ 500; exact k79)⟩, ⟨(by show 0 ≤ (I73 0 36).toInt ∧ (I73 0 36).toInt ≤ 4; exact k80), (by show 0 ≤ (I73 0 42).toInt ∧ (I73 0 42).toInt ≤ 1; exact k81)⟩, ⟨(by show 0 ≤ (I73 0 47).toInt ∧ (I73 0 47).toInt ≤ 119; exact hI73md.1), (by show 0 ≤ (I73 0 39).toInt ∧ (I73 0 39).toInt ≤ 100; exact hI73md.2)⟩, (by show 0 ≤ (I73 0 40).toInt ∧ (I73 0 40).toInt ≤ 6199; exact hI73mg), (by show 0 ≤ (I73 0 15).toInt ∧ (I73 0 15).toInt ≤ 6100; exact k83), (z_Nd_fr a22 fI73 (by decide)), (by show 0 ≤ (I73 0 35).toInt ∧ (I73 0 35).toInt ≤ (I73 0 34).toInt ∧ (I73 0 34).toInt ≤ (I73 0 33).toInt ∧ (I73 0 33).toInt ≤ 500 ∧ ((I73 0 36).toInt = 0 ∨ (I73 0 35).toInt + 1 ≤ (I73 0 34).toInt); first | omega | decide), f74, ((Classical.em ((I73 0 42).toInt = 0)).elim (fun hw9 => Or.inr ⟨a1.toNatClampNeg, by have w1 := z_fw_2n (a := va.toInt) (o := vo.toInt) (by omega); have w2 := z_fo_2y (a := va.toInt) (by omega); exact z_POP (d := a1.toNatClampNeg) hPS (fun i hi => ⟨by rw [fI73 26 i (z_wr_c (by decide)), eI20, z_up_n (by decide), fI5 26 i (z_wr_c (by decide))], by rw [fI73 27 i (z_wr_c (by decide)), eI20, z_up_n (by decide), fI5 27 i (z_wr_c (by decide))], by rw [fI73 28 i (z_wr_c (by decide)), eI20, z_up_n (by decide), fI5 28 i (z_wr_c (by decide))], by rw [fI73 29 i (z_wr_c (by decide)), eI20, z_up_n (by decide), fI5 29 i (z_wr_c (by decide))]⟩) (by omega) (by omega) (by omega) (by omega) (by omega) (by omega)⟩) Or.inl)⟩
      · have g92 := z_f_ne rfl z_l0 c24
        exact z_vret hx hb hr hK hS (Nat.le_of_ble_eq_true rfl) (Nat.le_of_ble_eq_true rfl) hlocks dX12_atom_269 (shM, ad, I20, J7, PM ad) hW ⟨I20, J7, rfl, ⟨(by show 0 ≤ (I20 0 31).toInt ∧ (I20 0 31).toInt ≤ 500; rw [eI20, z_up_k (by decide)]; exact hI5mp.1), (by show 0 ≤ (I20 0 33).toInt ∧ (I20 0 33).toInt ≤ 500; rw [eI20, z_up_k (by decide)]; exact hI5mp.2.1), (by show 0 ≤ (I20 0 34).toInt ∧ (I20 0 34).toInt ≤ 500; rw [eI20, z_up_k (by decide)]; exact hI5mp.2.2.1), (by show 0 ≤ (I20 0 35).toInt ∧ (I20 0 35).toInt ≤ 500; rw [eI20, z_up_k (by decide)]; exact hI5mp.2.2.2)⟩, ⟨(by show 0 ≤ (I20 0 36).toInt ∧ (I20 0 36).toInt ≤ 4; rw [eI20, z_up_k (by decide)]; exact hI5mt.1), (by show 0 ≤ (I20 0 42).toInt ∧ (I20 0 42).toInt ≤ 1; rw [eI20, z_up_k (by decide)]; exact hI5mt.2)⟩, ⟨(by show 0 ≤ (I20 0 47).toInt ∧ (I20 0 47).toInt ≤ 119; rw [eI20, z_up_k (by decide)]; exact k8), (by show 0 ≤ (I20 0 39).toInt ∧ (I20 0 39).toInt ≤ 100; rw [eI20, z_up_s]; omega)⟩, (by show 0 ≤ (I20 0 40).toInt ∧ (I20 0 40).toInt ≤ 6199; rw [eI20, z_up_k (by decide)]; exact k10), (by show 0 ≤ (I20 0 15).toInt ∧ (I20 0 15).toInt ≤ 6100; rw [eI20, z_up_k (by decide)]; exact k11), a22, (by have q0 : (I20 0 35) = (I5 0 35) := (by rw [eI20, z_up_k (by decide)]); have q1 : (I20 0 34) = (I5 0 34) := (by rw [eI20, z_up_k (by decide)]); have q2 : (I20 0 33) = (I5 0 33) := (by rw [eI20, z_up_k (by decide)]); have q3 : (I20 0 36) = (I5 0 36) := (by rw [eI20, z_up_k (by decide)]); show 0 ≤ (I20 0 35).toInt ∧ (I20 0 35).toInt ≤ (I20 0 34).toInt ∧ (I20 0 34).toInt ≤ (I20 0 33).toInt ∧ (I20 0 33).toInt ≤ 500 ∧ ((I20 0 36).toInt = 0 ∨ (I20 0 35).toInt + 1 ≤ (I20 0 34).toInt); rw [q0, q1, q2, q3]; first | omega | decide), f21, (Or.inl (by have q0 : (I20 0 42) = (I5 0 42) := (by rw [eI20, z_up_k (by decide)]); show ¬ (I20 0 42).toInt = 0; rw [q0]; omega))⟩
    · have g93 := z_f_eq rfl z_l2 c3
      refine lv_aload_n hx hb dX12_atom_208 rfl (lv_at hl 0 rfl) ?_
      refine z_get (T := TX12) (N := 96) (ci := 12) (i := 0) (v := .ref (ad 28)) hx hb hts zj_X12_atom_X12 hown hK hW rfl rfl 45 (by decide) (hts (.fieldLink RX12 97 "PetrolBoardModel" "one" "[I") (me_s (me_l (me_l (List.mem_of_getElem? (i := 8) rfl))))) (fun _ h => h) rfl dX12_atom_209 ?_
      refine lv_iload_n hx hb dX12_atom_212 rfl (lv_at hl 1 rfl) ?_
      refine lv_aload_n hx hb dX12_atom_213 rfl (lv_at hl 0 rfl) ?_
      have r94 : 0 ≤ (I 0 40).toInt ∧ (I 0 40).toInt ≤ 6199 := hmg
      refine z_get (T := TX12) (N := 96) (ci := 12) (i := 0) (v := .int (I 0 40)) hx hb hts zj_X12_atom_X12 hown hK hW rfl rfl 40 (by decide) (hts (.fieldLink RX12 343 "PetrolBoardModel" "got" "I") (me_s (me_l (me_l (List.mem_of_getElem? (i := 9) rfl))))) (fun _ h => h) rfl dX12_atom_214 ?_
      refine z_iast (i := 28) hx hb hK hW hS rfl (z_ix rfl (by omega) (by omega)) dX12_atom_217 (fun H locs hz1 hW hS => ?_)
      obtain ⟨I95, eI95⟩ : ∃ K : z_I, K = z_up I 28 a1.toNatClampNeg (I 0 40) := ⟨_, rfl⟩
      rw [← eI95] at hW
      have f96 := z_fr_a z_fr_0 (show z_wa L_X12_atom 28 = true by decide) eI95
      have a97 := z_Nd_n hNd (by decide) eI95
      refine lv_aload_n hx hb dX12_atom_218 rfl (lv_at hl 0 rfl) ?_
      refine lv_bipush (v := 44) hx hb dX12_atom_219 (by decide) ?_
      refine z_cv hW hS hA (va_runV (As := [.int 44]) (rest := []) ⟨hx, hb, hml, hown, hts⟩ (sx_X12_must l G ad I95 J ⟨(by show 0 ≤ (I95 0 31).toInt ∧ (I95 0 31).toInt ≤ 500; rw [eI95, z_up_n (by decide)]; exact hmp.1), (by show 0 ≤ (I95 0 33).toInt ∧ (I95 0 33).toInt ≤ 500; rw [eI95, z_up_n (by decide)]; exact hmp.2.1), (by show 0 ≤ (I95 0 34).toInt ∧ (I95 0 34).toInt ≤ 500; rw [eI95, z_up_n (by decide)]; exact hmp.2.2.1), (by show 0 ≤ (I95 0 35).toInt ∧ (I95 0 35).toInt ≤ 500; rw [eI95, z_up_n (by decide)]; exact hmp.2.2.2)⟩ ⟨(by show 0 ≤ (I95 0 36).toInt ∧ (I95 0 36).toInt ≤ 4; rw [eI95, z_up_n (by decide)]; exact hmt.1), (by show 0 ≤ (I95 0 42).toInt ∧ (I95 0 42).toInt ≤ 1; rw [eI95, z_up_n (by decide)]; exact hmt.2)⟩ (by have q0 : (I95 0 35) = (I 0 35) := (by rw [eI95, z_up_n (by decide)]); have q1 : (I95 0 34) = (I 0 34) := (by rw [eI95, z_up_n (by decide)]); have q2 : (I95 0 33) = (I 0 33) := (by rw [eI95, z_up_n (by decide)]); have q3 : (I95 0 36) = (I 0 36) := (by rw [eI95, z_up_n (by decide)]); show 0 ≤ (I95 0 35).toInt ∧ (I95 0 35).toInt ≤ (I95 0 34).toInt ∧ (I95 0 34).toInt ≤ (I95 0 33).toInt ∧ (I95 0 33).toInt ≤ 500 ∧ ((I95 0 36).toInt = 0 ∨ (I95 0 35).toInt + 1 ≤ (I95 0 34).toInt); rw [q0, q1, q2, q3]; first | omega | decide) 44 _) (cwV 1 hts gX12_atom_X12_must rfl rfl rfl hy_X12_must ⟨Nat.le_of_ble_eq_true rfl, Nat.le_of_ble_eq_true rfl⟩) (z_preV (i := 0) hK hW rfl rfl) rfl rfl hl.1 rfl (lv_room (Nat.le_of_ble_eq_true rfl)) dX12_atom_221 ⟨Nat.le_of_ble_eq_true rfl, Nat.le_of_ble_eq_true rfl⟩) (fun u1 H locs hp hW hS => ?_)
      obtain ⟨I98, J100, e9, hI98mp, hI98mt, hI98rp, fI98, hp⟩ := hp
      rw [e9] at hW
      have f99 := z_fr_sub (L := L_X12_atom) f96 fI98 (by decide)
      have k101 : 0 ≤ (I98 0 47).toInt ∧ (I98 0 47).toInt ≤ 119 := by rw [fI98 0 47 (by decide)]; exact (by show 0 ≤ (I95 0 47).toInt ∧ (I95 0 47).toInt ≤ 119; rw [eI95, z_up_n (by decide)]; exact hmd.1)
      have k102 : 0 ≤ (I98 0 39).toInt ∧ (I98 0 39).toInt ≤ 100 := by rw [fI98 0 39 (by decide)]; exact (by show 0 ≤ (I95 0 39).toInt ∧ (I95 0 39).toInt ≤ 100; rw [eI95, z_up_n (by decide)]; exact hmd.2)
      have k103 : 0 ≤ (I98 0 40).toInt ∧ (I98 0 40).toInt ≤ 6199 := by rw [fI98 0 40 (by decide)]; exact (by show 0 ≤ (I95 0 40).toInt ∧ (I95 0 40).toInt ≤ 6199; rw [eI95, z_up_n (by decide)]; exact hmg)
      have k104 : 0 ≤ (I98 0 15).toInt ∧ (I98 0 15).toInt ≤ 6100 := by rw [fI98 0 15 (by decide)]; exact (by show 0 ≤ (I95 0 15).toInt ∧ (I95 0 15).toInt ≤ 6100; rw [eI95, z_up_n (by decide)]; exact hmn)
      have k105 : 0 ≤ (I98 0 35).toInt ∧ (I98 0 35).toInt ≤ (I98 0 34).toInt ∧ (I98 0 34).toInt ≤ (I98 0 33).toInt ∧ (I98 0 33).toInt ≤ 500 ∧ ((I98 0 36).toInt = 0 ∨ (I98 0 35).toInt + 1 ≤ (I98 0 34).toInt) := hI98rp
      have k106 : (I98 0 47).toInt = (I 0 47).toInt := by rw [fI98 0 47 (by decide), eI95, z_up_n (by decide)]
      have k107 : (I98 0 39).toInt = (I 0 39).toInt := by rw [fI98 0 39 (by decide), eI95, z_up_n (by decide)]
      have k108 : (I98 0 15).toInt = (I 0 15).toInt := by rw [fI98 0 15 (by decide), eI95, z_up_n (by decide)]
      have k109 : (I98 0 40).toInt = (I 0 40).toInt := by rw [fI98 0 40 (by decide), eI95, z_up_n (by decide)]
      have h110 := hp
      rw [show (I95 0 35) = (I 0 35) from by rw [eI95, z_up_n (by decide)]] at h110
      refine lv_aload_n hx hb dX12_atom_224 rfl (lv_at hl 0 rfl) ?_
      refine z_get (T := TX12) (N := 96) (ci := 12) (i := 0) (v := .ref (ad 27)) hx hb hts zj_X12_atom_X12 hown hK hW rfl rfl 44 (by decide) (hts (.fieldLink RX12 94 "PetrolBoardModel" "at" "[I") (me_s (me_l (me_l (List.mem_of_getElem? (i := 0) rfl))))) (fun _ h => h) rfl dX12_atom_225 ?_
      refine lv_iload_n hx hb dX12_atom_228 rfl (lv_at hl 1 rfl) ?_
      refine lv_iconst (v := 3) hx hb dX12_atom_229 (by decide) ?_
      refine z_iast (i := 27) hx hb hK hW hS rfl (z_ix rfl (by omega) (by omega)) dX12_atom_230 (fun H locs hz1 hW hS => ?_)
      obtain ⟨I111, eI111⟩ : ∃ K : z_I, K = z_up I98 27 a1.toNatClampNeg 3 := ⟨_, rfl⟩
      rw [← eI111] at hW
      have f112 := z_fr_a f99 (show z_wa L_X12_atom 27 = true by decide) eI111
      have a113 := z_Nd_n (z_Nd_fr a97 fI98 (by decide)) (by decide) eI111
      refine lv_aload_n hx hb dX12_atom_231 rfl (lv_at hl 0 rfl) ?_
      have r114 : 0 ≤ (I98 0 42).toInt ∧ (I98 0 42).toInt ≤ 1 := hI98mt.2
      refine z_get (T := TX12) (N := 96) (ci := 12) (i := 0) (v := .int (I98 0 42)) hx hb hts zj_X12_atom_X12 hown hK hW rfl rfl 42 (by decide) (hts (.fieldLink RX12 294 "PetrolBoardModel" "isWrong" "Z") (me_s (me_l (me_l (List.mem_of_getElem? (i := 6) rfl))))) (fun _ h => h) (congrArg Value.int (by rw [eI111, z_up_n (by decide)])) dX12_atom_232 ?_
      refine lv_if_ne (tgt := 311) hx hb dX12_atom_235 (by decide) (fun c115 => ?_) (fun c115 => ?_)
      · have g116 := z_f_ne rfl z_l0 c115
        exact z_vret hx hb hr hK hS (Nat.le_of_ble_eq_true rfl) (Nat.le_of_ble_eq_true rfl) hlocks dX12_atom_311 (shM, ad, I111, J100, PM ad) hW ⟨I111, J100, rfl, ⟨(by show 0 ≤ (I111 0 31).toInt ∧ (I111 0 31).toInt ≤ 500; rw [eI111, z_up_n (by decide)]; exact hI98mp.1), (by show 0 ≤ (I111 0 33).toInt ∧ (I111 0 33).toInt ≤ 500; rw [eI111, z_up_n (by decide)]; exact hI98mp.2.1), (by show 0 ≤ (I111 0 34).toInt ∧ (I111 0 34).toInt ≤ 500; rw [eI111, z_up_n (by decide)]; exact hI98mp.2.2.1), (by show 0 ≤ (I111 0 35).toInt ∧ (I111 0 35).toInt ≤ 500; rw [eI111, z_up_n (by decide)]; exact hI98mp.2.2.2)⟩, ⟨(by show 0 ≤ (I111 0 36).toInt ∧ (I111 0 36).toInt ≤ 4; rw [eI111, z_up_n (by decide)]; exact hI98mt.1), (by show 0 ≤ (I111 0 42).toInt ∧ (I111 0 42).toInt ≤ 1; rw [eI111, z_up_n (by decide)]; exact hI98mt.2)⟩, ⟨(by show 0 ≤ (I111 0 47).toInt ∧ (I111 0 47).toInt ≤ 119; rw [eI111, z_up_n (by decide)]; exact k101), (by show 0 ≤ (I111 0 39).toInt ∧ (I111 0 39).toInt ≤ 100; rw [eI111, z_up_n (by decide)]; exact k102)⟩, (by show 0 ≤ (I111 0 40).toInt ∧ (I111 0 40).toInt ≤ 6199; rw [eI111, z_up_n (by decide)]; exact k103), (by show 0 ≤ (I111 0 15).toInt ∧ (I111 0 15).toInt ≤ 6100; rw [eI111, z_up_n (by decide)]; exact k104), a113, (by have q0 : (I111 0 35) = (I98 0 35) := (by rw [eI111, z_up_n (by decide)]); have q1 : (I111 0 34) = (I98 0 34) := (by rw [eI111, z_up_n (by decide)]); have q2 : (I111 0 33) = (I98 0 33) := (by rw [eI111, z_up_n (by decide)]); have q3 : (I111 0 36) = (I98 0 36) := (by rw [eI111, z_up_n (by decide)]); show 0 ≤ (I111 0 35).toInt ∧ (I111 0 35).toInt ≤ (I111 0 34).toInt ∧ (I111 0 34).toInt ≤ (I111 0 33).toInt ∧ (I111 0 33).toInt ≤ 500 ∧ ((I111 0 36).toInt = 0 ∨ (I111 0 35).toInt + 1 ≤ (I111 0 34).toInt); rw [q0, q1, q2, q3]; first | omega | decide), f112, (Or.inl (by have q0 : (I111 0 42) = (I98 0 42) := (by rw [eI111, z_up_n (by decide)]); show ¬ (I111 0 42).toInt = 0; rw [q0]; omega))⟩
      · have g117 := z_f_eq rfl z_l0 c115
        refine lv_aload_n hx hb dX12_atom_238 rfl (lv_at hl 0 rfl) ?_
        refine lv_iconst (v := 0) hx hb dX12_atom_239 (by decide) ?_
        refine z_cv hW hS hA (va_runV (As := [.int 0]) (rest := []) ⟨hx, hb, hml, hown, hts⟩ (sx_X12_begin l G ad I111 J100 ⟨(by show 0 ≤ (I111 0 47).toInt ∧ (I111 0 47).toInt ≤ 119; rw [eI111, z_up_n (by decide)]; exact k101), (by show 0 ≤ (I111 0 39).toInt ∧ (I111 0 39).toInt ≤ 100; rw [eI111, z_up_n (by decide)]; exact k102)⟩ 0 (by have q0 : (I111 0 47) = (I98 0 47) := (by rw [eI111, z_up_n (by decide)]); show (I111 0 47).toInt ≤ 118; rw [q0]; omega) _) (cwV 1 hts gX12_atom_X12_begin rfl rfl rfl hy_X12_begin ⟨Nat.le_of_ble_eq_true rfl, Nat.le_of_ble_eq_true rfl⟩) (z_preV (i := 0) hK hW rfl rfl) rfl rfl hl.1 rfl (lv_room (Nat.le_of_ble_eq_true rfl)) dX12_atom_240 ⟨Nat.le_of_ble_eq_true rfl, Nat.le_of_ble_eq_true rfl⟩) (fun u1 H locs hp hW hS => ?_)
        obtain ⟨I118, J120, e9, hI118md, fI118, hp⟩ := hp
        rw [e9] at hW
        have f119 := z_fr_sub (L := L_X12_atom) f112 fI118 (by decide)
        have k121 : 0 ≤ (I118 0 31).toInt ∧ (I118 0 31).toInt ≤ 500 := by rw [fI118 0 31 (by decide)]; exact (by show 0 ≤ (I111 0 31).toInt ∧ (I111 0 31).toInt ≤ 500; rw [eI111, z_up_n (by decide)]; exact hI98mp.1)
        have k122 : 0 ≤ (I118 0 33).toInt ∧ (I118 0 33).toInt ≤ 500 := by rw [fI118 0 33 (by decide)]; exact (by show 0 ≤ (I111 0 33).toInt ∧ (I111 0 33).toInt ≤ 500; rw [eI111, z_up_n (by decide)]; exact hI98mp.2.1)
        have k123 : 0 ≤ (I118 0 34).toInt ∧ (I118 0 34).toInt ≤ 500 := by rw [fI118 0 34 (by decide)]; exact (by show 0 ≤ (I111 0 34).toInt ∧ (I111 0 34).toInt ≤ 500; rw [eI111, z_up_n (by decide)]; exact hI98mp.2.2.1)
        have k124 : 0 ≤ (I118 0 35).toInt ∧ (I118 0 35).toInt ≤ 500 := by rw [fI118 0 35 (by decide)]; exact (by show 0 ≤ (I111 0 35).toInt ∧ (I111 0 35).toInt ≤ 500; rw [eI111, z_up_n (by decide)]; exact hI98mp.2.2.2)
        have k125 : 0 ≤ (I118 0 36).toInt ∧ (I118 0 36).toInt ≤ 4 := by rw [fI118 0 36 (by decide)]; exact (by show 0 ≤ (I111 0 36).toInt ∧ (I111 0 36).toInt ≤ 4; rw [eI111, z_up_n (by decide)]; exact hI98mt.1)
        have k126 : 0 ≤ (I118 0 42).toInt ∧ (I118 0 42).toInt ≤ 1 := by rw [fI118 0 42 (by decide)]; exact (by show 0 ≤ (I111 0 42).toInt ∧ (I111 0 42).toInt ≤ 1; rw [eI111, z_up_n (by decide)]; exact hI98mt.2)
        have k127 : 0 ≤ (I118 0 40).toInt ∧ (I118 0 40).toInt ≤ 6199 := by rw [fI118 0 40 (by decide)]; exact (by show 0 ≤ (I111 0 40).toInt ∧ (I111 0 40).toInt ≤ 6199; rw [eI111, z_up_n (by decide)]; exact k103)
        have k128 : 0 ≤ (I118 0 15).toInt ∧ (I118 0 15).toInt ≤ 6100 := by rw [fI118 0 15 (by decide)]; exact (by show 0 ≤ (I111 0 15).toInt ∧ (I111 0 15).toInt ≤ 6100; rw [eI111, z_up_n (by decide)]; exact k104)
        have k129 : 0 ≤ (I118 0 35).toInt ∧ (I118 0 35).toInt ≤ (I118 0 34).toInt ∧ (I118 0 34).toInt ≤ (I118 0 33).toInt ∧ (I118 0 33).toInt ≤ 500 ∧ ((I118 0 36).toInt = 0 ∨ (I118 0 35).toInt + 1 ≤ (I118 0 34).toInt) := (by have q0 : (I118 0 35) = (I98 0 35) := (by rw [fI118 0 35 (by decide), eI111, z_up_n (by decide)]); have q1 : (I118 0 34) = (I98 0 34) := (by rw [fI118 0 34 (by decide), eI111, z_up_n (by decide)]); have q2 : (I118 0 33) = (I98 0 33) := (by rw [fI118 0 33 (by decide), eI111, z_up_n (by decide)]); have q3 : (I118 0 36) = (I98 0 36) := (by rw [fI118 0 36 (by decide), eI111, z_up_n (by decide)]); show 0 ≤ (I118 0 35).toInt ∧ (I118 0 35).toInt ≤ (I118 0 34).toInt ∧ (I118 0 34).toInt ≤ (I118 0 33).toInt ∧ (I118 0 33).toInt ≤ 500 ∧ ((I118 0 36).toInt = 0 ∨ (I118 0 35).toInt + 1 ≤ (I118 0 34).toInt); rw [q0, q1, q2, q3]; first | omega | decide)
        have k130 : (I118 0 35).toInt = (I98 0 35).toInt := by rw [fI118 0 35 (by decide), eI111, z_up_n (by decide)]
        have k131 : (I118 0 34).toInt = (I98 0 34).toInt := by rw [fI118 0 34 (by decide), eI111, z_up_n (by decide)]
        have k132 : (I118 0 36).toInt = (I98 0 36).toInt := by rw [fI118 0 36 (by decide), eI111, z_up_n (by decide)]
        have k133 : (I118 0 42).toInt = (I98 0 42).toInt := by rw [fI118 0 42 (by decide), eI111, z_up_n (by decide)]
        have k134 : (I118 0 39).toInt = (I98 0 39).toInt := by rw [fI118 0 39 (by decide), eI111, z_up_n (by decide)]
        have k135 : (I118 0 15).toInt = (I98 0 15).toInt := by rw [fI118 0 15 (by decide), eI111, z_up_n (by decide)]
        have k136 : (I118 0 40).toInt = (I98 0 40).toInt := by rw [fI118 0 40 (by decide), eI111, z_up_n (by decide)]
        have h137 := hp
        refine lv_goto (tgt := 311) hx hb dX12_atom_243 (by decide) ?_
        exact z_vret hx hb hr hK hS (Nat.le_of_ble_eq_true rfl) (Nat.le_of_ble_eq_true rfl) hlocks dX12_atom_311 (shM, ad, I118, J120, PM ad) hW ⟨I118, J120, rfl, ⟨(by show 0 ≤ (I118 0 31).toInt ∧ (I118 0 31).toInt ≤ 500; exact k121), (by show 0 ≤ (I118 0 33).toInt ∧ (I118 0 33).toInt ≤ 500; exact k122), (by show 0 ≤ (I118 0 34).toInt ∧ (I118 0 34).toInt ≤ 500; exact k123), (by show 0 ≤ (I118 0 35).toInt ∧ (I118 0 35).toInt ≤ 500; exact k124)⟩, ⟨(by show 0 ≤ (I118 0 36).toInt ∧ (I118 0 36).toInt ≤ 4; exact k125), (by show 0 ≤ (I118 0 42).toInt ∧ (I118 0 42).toInt ≤ 1; exact k126)⟩, ⟨(by show 0 ≤ (I118 0 47).toInt ∧ (I118 0 47).toInt ≤ 119; exact hI118md.1), (by show 0 ≤ (I118 0 39).toInt ∧ (I118 0 39).toInt ≤ 100; exact hI118md.2)⟩, (by show 0 ≤ (I118 0 40).toInt ∧ (I118 0 40).toInt ≤ 6199; exact k127), (by show 0 ≤ (I118 0 15).toInt ∧ (I118 0 15).toInt ≤ 6100; exact k128), (z_Nd_fr a113 fI118 (by decide)), (by show 0 ≤ (I118 0 35).toInt ∧ (I118 0 35).toInt ≤ (I118 0 34).toInt ∧ (I118 0 34).toInt ≤ (I118 0 33).toInt ∧ (I118 0 33).toInt ≤ 500 ∧ ((I118 0 36).toInt = 0 ∨ (I118 0 35).toInt + 1 ≤ (I118 0 34).toInt); first | omega | decide), f119, ((Classical.em ((I118 0 42).toInt = 0)).elim (fun hw9 => Or.inr ⟨a1.toNatClampNeg + 2, by have w1 := z_fw_2n (a := va.toInt) (o := vo.toInt) (by omega); have w2 := z_fo_2y (a := va.toInt) (by omega); have w3 := z_fw_2n (a := 3) (o := (I 0 40).toInt) (by omega); have w4 := z_fo_2y (a := 3) (by omega); have w5 := z_fw_00 (a := 0) (o := -1) (by omega); have w6 := z_rk_2; have w7 := z_rk_0; exact z_PUSH (d := a1.toNatClampNeg) (w := 2) (a := 3) (o := (I 0 40).toInt) (s := vs.toInt) (wi := 0) hPS (fun i hi => ⟨by rw [eI111, z_up_n (by decide), fI98 26 i (z_wr_c (by decide)), eI95, z_up_n (by decide)], by rw [eI111, z_up_k (by omega), fI98 27 i (z_wr_c (by decide)), eI95, z_up_n (by decide)], by rw [eI111, z_up_n (by decide), fI98 28 i (z_wr_c (by decide)), eI95, z_up_k (by omega)], by rw [eI111, z_up_n (by decide), fI98 29 i (z_wr_c (by decide)), eI95, z_up_n (by decide)]⟩) (by rw [show I111 26 a1.toNatClampNeg = vw from (by rw [eI111, z_up_n (by decide), fI98 26 a1.toNatClampNeg (z_wr_c (by decide)), eI95, z_up_n (by decide)]; exact evw.symm)]; exact hvw) (by rw [show I111 27 a1.toNatClampNeg = 3 from (by rw [eI111, z_up_s])]; exact z_l3) (by rw [show I111 28 a1.toNatClampNeg = (I 0 40) from (by rw [eI111, z_up_n (by decide), fI98 28 a1.toNatClampNeg (z_wr_c (by decide)), eI95, z_up_s])]) (by rw [show I111 29 a1.toNatClampNeg = vs from (by rw [eI111, z_up_n (by decide), fI98 29 a1.toNatClampNeg (z_wr_c (by decide)), eI95, z_up_n (by decide)]; exact evs.symm)]) (by unfold z_fv; omega) hwd (by rw [eI111, z_up_n (by decide)]; omega) h137 z_l0 (by omega) (by omega) (by omega) (by omega) (by omega) (by omega) (by omega) (by omega)⟩) Or.inl)⟩
  · have g138 := z_f_eq rfl z_l0 c1
    refine lv_aload_n hx hb dX12_atom_9 rfl (lv_at hl 0 rfl) ?_
    have r139 : 0 ≤ (I 0 36).toInt ∧ (I 0 36).toInt ≤ 4 := hmt.1
    refine z_get (T := TX12) (N := 96) (ci := 12) (i := 0) (v := .int (I 0 36)) hx hb hts zj_X12_atom_X12 hown hK hW rfl rfl 36 (by decide) (hts (.fieldLink RX12 281 "PetrolBoardModel" "token" "I") (me_s (me_l (me_l (List.mem_of_getElem? (i := 1) rfl))))) (fun _ h => h) rfl dX12_atom_10 ?_
    refine lv_iconst (v := 2) hx hb dX12_atom_13 (by decide) ?_
    refine lv_icmp_ne (tgt := 40) hx hb dX12_atom_14 (by decide) (fun c140 => ?_) (fun c140 => ?_)
    · have g141 := z_f_ne rfl z_l2 c140
      refine lv_aload_n hx hb dX12_atom_40 rfl (lv_at hl 0 rfl) ?_
      refine lv_bipush (v := 40) hx hb dX12_atom_41 (by decide) ?_
      refine z_ci hW hS hA (va_runV (As := [.int 40]) (rest := []) ⟨hx, hb, hml, hown, hts⟩ (sx_X12_isSign l G ad I J ⟨(by show 0 ≤ (I 0 36).toInt ∧ (I 0 36).toInt ≤ 4; exact hmt.1), (by show 0 ≤ (I 0 42).toInt ∧ (I 0 42).toInt ≤ 1; exact hmt.2)⟩ 40 _) (cwV 1 hts gX12_atom_X12_isSign rfl rfl rfl hy_X12_isSign ⟨Nat.le_of_ble_eq_true rfl, Nat.le_of_ble_eq_true rfl⟩) (z_preV (i := 0) hK hW rfl rfl) rfl rfl hl.1 rfl (lv_room (Nat.le_of_ble_eq_true rfl)) dX12_atom_43 ⟨Nat.le_of_ble_eq_true rfl, Nat.le_of_ble_eq_true rfl⟩) (fun r u1 H locs hp hW hS => ?_)
      obtain ⟨e9, hp⟩ := hp
      rw [e9] at hW
      rcases hp with ⟨rfl, h142⟩ | rfl
      · have h143 : (I 0 35).toInt + 1 ≤ (I 0 34).toInt := by omega
        refine lv_if_eq (tgt := 68) hx hb dX12_atom_46 (by decide) (fun c144 => absurd c144 (by decide)) (fun c144 => ?_)
        refine lv_aload_n hx hb dX12_atom_49 rfl (lv_at hl 0 rfl) ?_
        refine z_cv hW hS hA (va_runV (As := []) (rest := []) ⟨hx, hb, hml, hown, hts⟩ (sx_X12_opens l G ad I J ⟨(by show 0 ≤ (I 0 31).toInt ∧ (I 0 31).toInt ≤ 500; exact hmp.1), (by show 0 ≤ (I 0 33).toInt ∧ (I 0 33).toInt ≤ 500; exact hmp.2.1), (by show 0 ≤ (I 0 34).toInt ∧ (I 0 34).toInt ≤ 500; exact hmp.2.2.1), (by show 0 ≤ (I 0 35).toInt ∧ (I 0 35).toInt ≤ 500; exact hmp.2.2.2)⟩ ⟨(by show 0 ≤ (I 0 36).toInt ∧ (I 0 36).toInt ≤ 4; exact hmt.1), (by show 0 ≤ (I 0 42).toInt ∧ (I 0 42).toInt ≤ 1; exact hmt.2)⟩ (by show 0 ≤ (I 0 35).toInt ∧ (I 0 35).toInt ≤ (I 0 34).toInt ∧ (I 0 34).toInt ≤ (I 0 33).toInt ∧ (I 0 33).toInt ≤ 500 ∧ ((I 0 36).toInt = 0 ∨ (I 0 35).toInt + 1 ≤ (I 0 34).toInt); first | omega | decide) ⟨(by show 0 ≤ (I 0 47).toInt ∧ (I 0 47).toInt ≤ 119; exact hmd.1), (by show 0 ≤ (I 0 39).toInt ∧ (I 0 39).toInt ≤ 100; exact hmd.2)⟩  (by show (I 0 39).toInt ≤ 9; omega) _) (cwV 0 hts gX12_atom_X12_opens rfl rfl rfl hy_X12_opens ⟨Nat.le_of_ble_eq_true rfl, Nat.le_of_ble_eq_true rfl⟩) (z_preV (i := 0) hK hW rfl rfl) rfl rfl hl.1 rfl (lv_room (Nat.le_of_ble_eq_true rfl)) dX12_atom_50 ⟨Nat.le_of_ble_eq_true rfl, Nat.le_of_ble_eq_true rfl⟩) (fun u1 H locs hp hW hS => ?_)
        obtain ⟨I145, J147, e9, hI145mp, hI145mt, hI145rp, hI145md, fI145, hp⟩ := hp
        rw [e9] at hW
        have f146 := z_fr_sub (L := L_X12_atom) z_fr_0 fI145 (by decide)
        have k148 : 0 ≤ (I145 0 40).toInt ∧ (I145 0 40).toInt ≤ 6199 := by rw [fI145 0 40 (by decide)]; exact (by show 0 ≤ (I 0 40).toInt ∧ (I 0 40).toInt ≤ 6199; exact hmg)
        have k149 : 0 ≤ (I145 0 15).toInt ∧ (I145 0 15).toInt ≤ 6100 := by rw [fI145 0 15 (by decide)]; exact (by show 0 ≤ (I 0 15).toInt ∧ (I 0 15).toInt ≤ 6100; exact hmn)
        have k150 : 0 ≤ (I145 0 35).toInt ∧ (I145 0 35).toInt ≤ (I145 0 34).toInt ∧ (I145 0 34).toInt ≤ (I145 0 33).toInt ∧ (I145 0 33).toInt ≤ 500 ∧ ((I145 0 36).toInt = 0 ∨ (I145 0 35).toInt + 1 ≤ (I145 0 34).toInt) := hI145rp
        have k151 : (I145 0 47).toInt = (I 0 47).toInt := by rw [fI145 0 47 (by decide)]
        have k152 : (I145 0 15).toInt = (I 0 15).toInt := by rw [fI145 0 15 (by decide)]
        have k153 : (I145 0 40).toInt = (I 0 40).toInt := by rw [fI145 0 40 (by decide)]
        obtain ⟨h154, h155, h156⟩ := hp
        refine lv_aload_n hx hb dX12_atom_53 rfl (lv_at hl 0 rfl) ?_
        refine z_get (T := TX12) (N := 96) (ci := 12) (i := 0) (v := .ref (ad 27)) hx hb hts zj_X12_atom_X12 hown hK hW rfl rfl 44 (by decide) (hts (.fieldLink RX12 94 "PetrolBoardModel" "at" "[I") (me_s (me_l (me_l (List.mem_of_getElem? (i := 0) rfl))))) (fun _ h => h) rfl dX12_atom_54 ?_
        refine lv_iload_n hx hb dX12_atom_57 rfl (lv_at hl 1 rfl) ?_
        refine lv_iconst (v := 1) hx hb dX12_atom_58 (by decide) ?_
        refine z_iast (i := 27) hx hb hK hW hS rfl (z_ix rfl (by omega) (by omega)) dX12_atom_59 (fun H locs hz1 hW hS => ?_)
        obtain ⟨I157, eI157⟩ : ∃ K : z_I, K = z_up I145 27 a1.toNatClampNeg 1 := ⟨_, rfl⟩
        rw [← eI157] at hW
        have f158 := z_fr_a f146 (show z_wa L_X12_atom 27 = true by decide) eI157
        have a159 := z_Nd_n (z_Nd_fr hNd fI145 (by decide)) (by decide) eI157
        refine lv_aload_n hx hb dX12_atom_60 rfl (lv_at hl 0 rfl) ?_
        refine lv_iconst (v := 0) hx hb dX12_atom_61 (by decide) ?_
        refine z_cv hW hS hA (va_runV (As := [.int 0]) (rest := []) ⟨hx, hb, hml, hown, hts⟩ (sx_X12_begin l G ad I157 J147 ⟨(by show 0 ≤ (I157 0 47).toInt ∧ (I157 0 47).toInt ≤ 119; rw [eI157, z_up_n (by decide)]; exact hI145md.1), (by show 0 ≤ (I157 0 39).toInt ∧ (I157 0 39).toInt ≤ 100; rw [eI157, z_up_n (by decide)]; exact hI145md.2)⟩ 0 (by have q0 : (I157 0 47) = (I145 0 47) := (by rw [eI157, z_up_n (by decide)]); show (I157 0 47).toInt ≤ 118; rw [q0]; omega) _) (cwV 1 hts gX12_atom_X12_begin rfl rfl rfl hy_X12_begin ⟨Nat.le_of_ble_eq_true rfl, Nat.le_of_ble_eq_true rfl⟩) (z_preV (i := 0) hK hW rfl rfl) rfl rfl hl.1 rfl (lv_room (Nat.le_of_ble_eq_true rfl)) dX12_atom_62 ⟨Nat.le_of_ble_eq_true rfl, Nat.le_of_ble_eq_true rfl⟩) (fun u1 H locs hp hW hS => ?_)
        obtain ⟨I160, J162, e9, hI160md, fI160, hp⟩ := hp
        rw [e9] at hW
        have f161 := z_fr_sub (L := L_X12_atom) f158 fI160 (by decide)
        have k163 : 0 ≤ (I160 0 31).toInt ∧ (I160 0 31).toInt ≤ 500 := by rw [fI160 0 31 (by decide)]; exact (by show 0 ≤ (I157 0 31).toInt ∧ (I157 0 31).toInt ≤ 500; rw [eI157, z_up_n (by decide)]; exact hI145mp.1)
        have k164 : 0 ≤ (I160 0 33).toInt ∧ (I160 0 33).toInt ≤ 500 := by rw [fI160 0 33 (by decide)]; exact (by show 0 ≤ (I157 0 33).toInt ∧ (I157 0 33).toInt ≤ 500; rw [eI157, z_up_n (by decide)]; exact hI145mp.2.1)
        have k165 : 0 ≤ (I160 0 34).toInt ∧ (I160 0 34).toInt ≤ 500 := by rw [fI160 0 34 (by decide)]; exact (by show 0 ≤ (I157 0 34).toInt ∧ (I157 0 34).toInt ≤ 500; rw [eI157, z_up_n (by decide)]; exact hI145mp.2.2.1)
        have k166 : 0 ≤ (I160 0 35).toInt ∧ (I160 0 35).toInt ≤ 500 := by rw [fI160 0 35 (by decide)]; exact (by show 0 ≤ (I157 0 35).toInt ∧ (I157 0 35).toInt ≤ 500; rw [eI157, z_up_n (by decide)]; exact hI145mp.2.2.2)
        have k167 : 0 ≤ (I160 0 36).toInt ∧ (I160 0 36).toInt ≤ 4 := by rw [fI160 0 36 (by decide)]; exact (by show 0 ≤ (I157 0 36).toInt ∧ (I157 0 36).toInt ≤ 4; rw [eI157, z_up_n (by decide)]; exact hI145mt.1)
        have k168 : 0 ≤ (I160 0 42).toInt ∧ (I160 0 42).toInt ≤ 1 := by rw [fI160 0 42 (by decide)]; exact (by show 0 ≤ (I157 0 42).toInt ∧ (I157 0 42).toInt ≤ 1; rw [eI157, z_up_n (by decide)]; exact hI145mt.2)
        have k169 : 0 ≤ (I160 0 40).toInt ∧ (I160 0 40).toInt ≤ 6199 := by rw [fI160 0 40 (by decide)]; exact (by show 0 ≤ (I157 0 40).toInt ∧ (I157 0 40).toInt ≤ 6199; rw [eI157, z_up_n (by decide)]; exact k148)
        have k170 : 0 ≤ (I160 0 15).toInt ∧ (I160 0 15).toInt ≤ 6100 := by rw [fI160 0 15 (by decide)]; exact (by show 0 ≤ (I157 0 15).toInt ∧ (I157 0 15).toInt ≤ 6100; rw [eI157, z_up_n (by decide)]; exact k149)
        have k171 : 0 ≤ (I160 0 35).toInt ∧ (I160 0 35).toInt ≤ (I160 0 34).toInt ∧ (I160 0 34).toInt ≤ (I160 0 33).toInt ∧ (I160 0 33).toInt ≤ 500 ∧ ((I160 0 36).toInt = 0 ∨ (I160 0 35).toInt + 1 ≤ (I160 0 34).toInt) := (by have q0 : (I160 0 35) = (I145 0 35) := (by rw [fI160 0 35 (by decide), eI157, z_up_n (by decide)]); have q1 : (I160 0 34) = (I145 0 34) := (by rw [fI160 0 34 (by decide), eI157, z_up_n (by decide)]); have q2 : (I160 0 33) = (I145 0 33) := (by rw [fI160 0 33 (by decide), eI157, z_up_n (by decide)]); have q3 : (I160 0 36) = (I145 0 36) := (by rw [fI160 0 36 (by decide), eI157, z_up_n (by decide)]); show 0 ≤ (I160 0 35).toInt ∧ (I160 0 35).toInt ≤ (I160 0 34).toInt ∧ (I160 0 34).toInt ≤ (I160 0 33).toInt ∧ (I160 0 33).toInt ≤ 500 ∧ ((I160 0 36).toInt = 0 ∨ (I160 0 35).toInt + 1 ≤ (I160 0 34).toInt); rw [q0, q1, q2, q3]; first | omega | decide)
        have k172 : (I160 0 35).toInt = (I145 0 35).toInt := by rw [fI160 0 35 (by decide), eI157, z_up_n (by decide)]
        have k173 : (I160 0 34).toInt = (I145 0 34).toInt := by rw [fI160 0 34 (by decide), eI157, z_up_n (by decide)]
        have k174 : (I160 0 36).toInt = (I145 0 36).toInt := by rw [fI160 0 36 (by decide), eI157, z_up_n (by decide)]
        have k175 : (I160 0 42).toInt = (I145 0 42).toInt := by rw [fI160 0 42 (by decide), eI157, z_up_n (by decide)]
        have k176 : (I160 0 39).toInt = (I145 0 39).toInt := by rw [fI160 0 39 (by decide), eI157, z_up_n (by decide)]
        have k177 : (I160 0 15).toInt = (I145 0 15).toInt := by rw [fI160 0 15 (by decide), eI157, z_up_n (by decide)]
        have k178 : (I160 0 40).toInt = (I145 0 40).toInt := by rw [fI160 0 40 (by decide), eI157, z_up_n (by decide)]
        have h179 := hp
        refine lv_goto (tgt := 311) hx hb dX12_atom_65 (by decide) ?_
        exact z_vret hx hb hr hK hS (Nat.le_of_ble_eq_true rfl) (Nat.le_of_ble_eq_true rfl) hlocks dX12_atom_311 (shM, ad, I160, J162, PM ad) hW ⟨I160, J162, rfl, ⟨(by show 0 ≤ (I160 0 31).toInt ∧ (I160 0 31).toInt ≤ 500; exact k163), (by show 0 ≤ (I160 0 33).toInt ∧ (I160 0 33).toInt ≤ 500; exact k164), (by show 0 ≤ (I160 0 34).toInt ∧ (I160 0 34).toInt ≤ 500; exact k165), (by show 0 ≤ (I160 0 35).toInt ∧ (I160 0 35).toInt ≤ 500; exact k166)⟩, ⟨(by show 0 ≤ (I160 0 36).toInt ∧ (I160 0 36).toInt ≤ 4; exact k167), (by show 0 ≤ (I160 0 42).toInt ∧ (I160 0 42).toInt ≤ 1; exact k168)⟩, ⟨(by show 0 ≤ (I160 0 47).toInt ∧ (I160 0 47).toInt ≤ 119; exact hI160md.1), (by show 0 ≤ (I160 0 39).toInt ∧ (I160 0 39).toInt ≤ 100; exact hI160md.2)⟩, (by show 0 ≤ (I160 0 40).toInt ∧ (I160 0 40).toInt ≤ 6199; exact k169), (by show 0 ≤ (I160 0 15).toInt ∧ (I160 0 15).toInt ≤ 6100; exact k170), (z_Nd_fr a159 fI160 (by decide)), (by show 0 ≤ (I160 0 35).toInt ∧ (I160 0 35).toInt ≤ (I160 0 34).toInt ∧ (I160 0 34).toInt ≤ (I160 0 33).toInt ∧ (I160 0 33).toInt ≤ 500 ∧ ((I160 0 36).toInt = 0 ∨ (I160 0 35).toInt + 1 ≤ (I160 0 34).toInt); first | omega | decide), f161, ((Classical.em ((I160 0 42).toInt = 0)).elim (fun hw9 => Or.inr ⟨a1.toNatClampNeg + 2, by have w1 := z_fw_20 (a := va.toInt) (o := vo.toInt) (by omega); have w2 := z_fo_2n (a := va.toInt) (by omega); have w3 := z_fw_2n (a := 1) (o := vo.toInt) (by omega); have w4 := z_fo_2y (a := 1) (by omega); have w5 := z_fw_00 (a := 0) (o := -1) (by omega); have w6 := z_rk_2; have w7 := z_rk_0; exact z_PUSH (d := a1.toNatClampNeg) (w := 2) (a := 1) (o := vo.toInt) (s := vs.toInt) (wi := 0) hPS (fun i hi => ⟨by rw [eI157, z_up_n (by decide), fI145 26 i (z_wr_c (by decide))], by rw [eI157, z_up_k (by omega), fI145 27 i (z_wr_c (by decide))], by rw [eI157, z_up_n (by decide), fI145 28 i (z_wr_c (by decide))], by rw [eI157, z_up_n (by decide), fI145 29 i (z_wr_c (by decide))]⟩) (by rw [show I157 26 a1.toNatClampNeg = vw from (by rw [eI157, z_up_n (by decide), fI145 26 a1.toNatClampNeg (z_wr_c (by decide))]; exact evw.symm)]; exact hvw) (by rw [show I157 27 a1.toNatClampNeg = 1 from (by rw [eI157, z_up_s])]; exact z_l1) (by rw [show I157 28 a1.toNatClampNeg = vo from (by rw [eI157, z_up_n (by decide), fI145 28 a1.toNatClampNeg (z_wr_c (by decide))]; exact evo.symm)]) (by rw [show I157 29 a1.toNatClampNeg = vs from (by rw [eI157, z_up_n (by decide), fI145 29 a1.toNatClampNeg (z_wr_c (by decide))]; exact evs.symm)]) (by unfold z_fv; omega) hwd (by rw [eI157, z_up_n (by decide)]; omega) h179 z_l0 (by omega) (by omega) (by omega) (by omega) (by omega) (by omega) (by omega) (by omega)⟩) Or.inl)⟩
      · refine lv_if_eq (tgt := 68) hx hb dX12_atom_46 (by decide) (fun c180 => ?_) (fun c180 => absurd (by decide) c180)
        refine lv_aload_n hx hb dX12_atom_68 rfl (lv_at hl 0 rfl) ?_
        refine lv_ldc2 (v := 6476969) hx hb hown (hts (.constantLong RX12 375 (6476969)) (me_s (me_l (me_l (List.mem_of_getElem? (i := 3) rfl))))) dX12_atom_69 ?_
        refine z_ci hW hS hA (va_runV (As := [.long 6476969]) (rest := []) ⟨hx, hb, hml, hown, hts⟩ (sx_X12_isWord l G ad I J ⟨(by show 0 ≤ (I 0 36).toInt ∧ (I 0 36).toInt ≤ 4; exact hmt.1), (by show 0 ≤ (I 0 42).toInt ∧ (I 0 42).toInt ≤ 1; exact hmt.2)⟩ 6476969 _) (cwV 1 hts gX12_atom_X12_isWord rfl rfl rfl hy_X12_isWord ⟨Nat.le_of_ble_eq_true rfl, Nat.le_of_ble_eq_true rfl⟩) (z_preV (i := 0) hK hW rfl rfl) rfl rfl hl.1 rfl (lv_room (Nat.le_of_ble_eq_true rfl)) dX12_atom_72 ⟨Nat.le_of_ble_eq_true rfl, Nat.le_of_ble_eq_true rfl⟩) (fun r u1 H locs hp hW hS => ?_)
        obtain ⟨e9, hp⟩ := hp
        rw [e9] at hW
        rcases hp with ⟨rfl, h181⟩ | rfl
        · have h182 : (I 0 35).toInt + 1 ≤ (I 0 34).toInt := by omega
          refine lv_if_ne (tgt := 88) hx hb dX12_atom_75 (by decide) (fun c183 => ?_) (fun c183 => absurd c183 (by decide))
          refine lv_aload_n hx hb dX12_atom_88 rfl (lv_at hl 0 rfl) ?_
          refine z_get (T := TX12) (N := 96) (ci := 12) (i := 0) (v := .ref (ad 29)) hx hb hts zj_X12_atom_X12 hown hK hW rfl rfl 46 (by decide) (hts (.fieldLink RX12 100 "PetrolBoardModel" "sort" "[I") (me_s (me_l (me_l (List.mem_of_getElem? (i := 5) rfl))))) (fun _ h => h) rfl dX12_atom_89 ?_
          refine lv_iload_n hx hb dX12_atom_92 rfl (lv_at hl 1 rfl) ?_
          refine lv_aload_n hx hb dX12_atom_93 rfl (lv_at hl 0 rfl) ?_
          refine lv_ldc2 (v := 6476969) hx hb hown (hts (.constantLong RX12 375 (6476969)) (me_s (me_l (me_l (List.mem_of_getElem? (i := 3) rfl))))) dX12_atom_94 ?_
          refine z_ci hW hS hA (va_runV (As := [.long 6476969]) (rest := [.int a1, .ref (ad 29)]) ⟨hx, hb, hml, hown, hts⟩ (sx_X12_isWord l G ad I J ⟨(by show 0 ≤ (I 0 36).toInt ∧ (I 0 36).toInt ≤ 4; exact hmt.1), (by show 0 ≤ (I 0 42).toInt ∧ (I 0 42).toInt ≤ 1; exact hmt.2)⟩ 6476969 _) (cwV 1 hts gX12_atom_X12_isWord rfl rfl rfl hy_X12_isWord ⟨Nat.le_of_ble_eq_true rfl, Nat.le_of_ble_eq_true rfl⟩) (z_preV (i := 0) hK hW rfl rfl) rfl rfl hl.1 rfl (lv_room (Nat.le_of_ble_eq_true rfl)) dX12_atom_97 ⟨Nat.le_of_ble_eq_true rfl, Nat.le_of_ble_eq_true rfl⟩) (fun r u1 H locs hp hW hS => ?_)
          obtain ⟨e9, hp⟩ := hp
          rw [e9] at hW
          rcases hp with ⟨rfl, h184⟩ | rfl
          · have h185 : (I 0 35).toInt + 1 ≤ (I 0 34).toInt := by omega
            refine lv_if_eq (tgt := 108) hx hb dX12_atom_100 (by decide) (fun c186 => absurd c186 (by decide)) (fun c186 => ?_)
            refine lv_bipush (v := 6) hx hb dX12_atom_103 (by decide) ?_
            refine lv_goto (tgt := 110) hx hb dX12_atom_105 (by decide) ?_
            refine z_iast (i := 29) hx hb hK hW hS rfl (z_ix rfl (by omega) (by omega)) dX12_atom_110 (fun H locs hz1 hW hS => ?_)
            obtain ⟨I187, eI187⟩ : ∃ K : z_I, K = z_up I 29 a1.toNatClampNeg 6 := ⟨_, rfl⟩
            rw [← eI187] at hW
            have f188 := z_fr_a z_fr_0 (show z_wa L_X12_atom 29 = true by decide) eI187
            have a189 := z_Nd_n hNd (by decide) eI187
            refine lv_aload_n hx hb dX12_atom_111 rfl (lv_at hl 0 rfl) ?_
            refine z_cv hW hS hA (va_runV (As := []) (rest := []) ⟨hx, hb, hml, hown, hts⟩ (sx_X12_opens l G ad I187 J ⟨(by show 0 ≤ (I187 0 31).toInt ∧ (I187 0 31).toInt ≤ 500; rw [eI187, z_up_n (by decide)]; exact hmp.1), (by show 0 ≤ (I187 0 33).toInt ∧ (I187 0 33).toInt ≤ 500; rw [eI187, z_up_n (by decide)]; exact hmp.2.1), (by show 0 ≤ (I187 0 34).toInt ∧ (I187 0 34).toInt ≤ 500; rw [eI187, z_up_n (by decide)]; exact hmp.2.2.1), (by show 0 ≤ (I187 0 35).toInt ∧ (I187 0 35).toInt ≤ 500; rw [eI187, z_up_n (by decide)]; exact hmp.2.2.2)⟩ ⟨(by show 0 ≤ (I187 0 36).toInt ∧ (I187 0 36).toInt ≤ 4; rw [eI187, z_up_n (by decide)]; exact hmt.1), (by show 0 ≤ (I187 0 42).toInt ∧ (I187 0 42).toInt ≤ 1; rw [eI187, z_up_n (by decide)]; exact hmt.2)⟩ (by have q0 : (I187 0 35) = (I 0 35) := (by rw [eI187, z_up_n (by decide)]); have q1 : (I187 0 34) = (I 0 34) := (by rw [eI187, z_up_n (by decide)]); have q2 : (I187 0 33) = (I 0 33) := (by rw [eI187, z_up_n (by decide)]); have q3 : (I187 0 36) = (I 0 36) := (by rw [eI187, z_up_n (by decide)]); show 0 ≤ (I187 0 35).toInt ∧ (I187 0 35).toInt ≤ (I187 0 34).toInt ∧ (I187 0 34).toInt ≤ (I187 0 33).toInt ∧ (I187 0 33).toInt ≤ 500 ∧ ((I187 0 36).toInt = 0 ∨ (I187 0 35).toInt + 1 ≤ (I187 0 34).toInt); rw [q0, q1, q2, q3]; first | omega | decide) ⟨(by show 0 ≤ (I187 0 47).toInt ∧ (I187 0 47).toInt ≤ 119; rw [eI187, z_up_n (by decide)]; exact hmd.1), (by show 0 ≤ (I187 0 39).toInt ∧ (I187 0 39).toInt ≤ 100; rw [eI187, z_up_n (by decide)]; exact hmd.2)⟩  (by have q0 : (I187 0 39) = (I 0 39) := (by rw [eI187, z_up_n (by decide)]); show (I187 0 39).toInt ≤ 9; rw [q0]; omega) _) (cwV 0 hts gX12_atom_X12_opens rfl rfl rfl hy_X12_opens ⟨Nat.le_of_ble_eq_true rfl, Nat.le_of_ble_eq_true rfl⟩) (z_preV (i := 0) hK hW rfl rfl) rfl rfl hl.1 rfl (lv_room (Nat.le_of_ble_eq_true rfl)) dX12_atom_112 ⟨Nat.le_of_ble_eq_true rfl, Nat.le_of_ble_eq_true rfl⟩) (fun u1 H locs hp hW hS => ?_)
            obtain ⟨I190, J192, e9, hI190mp, hI190mt, hI190rp, hI190md, fI190, hp⟩ := hp
            rw [e9] at hW
            have f191 := z_fr_sub (L := L_X12_atom) f188 fI190 (by decide)
            have k193 : 0 ≤ (I190 0 40).toInt ∧ (I190 0 40).toInt ≤ 6199 := by rw [fI190 0 40 (by decide)]; exact (by show 0 ≤ (I187 0 40).toInt ∧ (I187 0 40).toInt ≤ 6199; rw [eI187, z_up_n (by decide)]; exact hmg)
            have k194 : 0 ≤ (I190 0 15).toInt ∧ (I190 0 15).toInt ≤ 6100 := by rw [fI190 0 15 (by decide)]; exact (by show 0 ≤ (I187 0 15).toInt ∧ (I187 0 15).toInt ≤ 6100; rw [eI187, z_up_n (by decide)]; exact hmn)
            have k195 : 0 ≤ (I190 0 35).toInt ∧ (I190 0 35).toInt ≤ (I190 0 34).toInt ∧ (I190 0 34).toInt ≤ (I190 0 33).toInt ∧ (I190 0 33).toInt ≤ 500 ∧ ((I190 0 36).toInt = 0 ∨ (I190 0 35).toInt + 1 ≤ (I190 0 34).toInt) := hI190rp
            have k196 : (I190 0 47).toInt = (I 0 47).toInt := by rw [fI190 0 47 (by decide), eI187, z_up_n (by decide)]
            have k197 : (I190 0 15).toInt = (I 0 15).toInt := by rw [fI190 0 15 (by decide), eI187, z_up_n (by decide)]
            have k198 : (I190 0 40).toInt = (I 0 40).toInt := by rw [fI190 0 40 (by decide), eI187, z_up_n (by decide)]
            obtain ⟨h199, h200, h201⟩ := hp
            rw [show (I187 0 39) = (I 0 39) from by rw [eI187, z_up_n (by decide)]] at h199
            rw [show (I187 0 34) = (I 0 34) from by rw [eI187, z_up_n (by decide)]] at h200
            rw [show (I187 0 39) = (I 0 39) from by rw [eI187, z_up_n (by decide)]] at h201
            refine lv_aload_n hx hb dX12_atom_115 rfl (lv_at hl 0 rfl) ?_
            have r202 : 0 ≤ (I190 0 42).toInt ∧ (I190 0 42).toInt ≤ 1 := hI190mt.2
            refine z_get (T := TX12) (N := 96) (ci := 12) (i := 0) (v := .int (I190 0 42)) hx hb hts zj_X12_atom_X12 hown hK hW rfl rfl 42 (by decide) (hts (.fieldLink RX12 294 "PetrolBoardModel" "isWrong" "Z") (me_s (me_l (me_l (List.mem_of_getElem? (i := 6) rfl))))) (fun _ h => h) rfl dX12_atom_116 ?_
            refine lv_if_ne (tgt := 128) hx hb dX12_atom_119 (by decide) (fun c203 => ?_) (fun c203 => ?_)
            · have g204 := z_f_ne rfl z_l0 c203
              refine lv_aload_n hx hb dX12_atom_128 rfl (lv_at hl 0 rfl) ?_
              refine z_get (T := TX12) (N := 96) (ci := 12) (i := 0) (v := .ref (ad 27)) hx hb hts zj_X12_atom_X12 hown hK hW rfl rfl 44 (by decide) (hts (.fieldLink RX12 94 "PetrolBoardModel" "at" "[I") (me_s (me_l (me_l (List.mem_of_getElem? (i := 0) rfl))))) (fun _ h => h) rfl dX12_atom_129 ?_
              refine lv_iload_n hx hb dX12_atom_132 rfl (lv_at hl 1 rfl) ?_
              refine lv_iconst (v := 2) hx hb dX12_atom_133 (by decide) ?_
              refine z_iast (i := 27) hx hb hK hW hS rfl (z_ix rfl (by omega) (by omega)) dX12_atom_134 (fun H locs hz1 hW hS => ?_)
              obtain ⟨I205, eI205⟩ : ∃ K : z_I, K = z_up I190 27 a1.toNatClampNeg 2 := ⟨_, rfl⟩
              rw [← eI205] at hW
              have f206 := z_fr_a f191 (show z_wa L_X12_atom 27 = true by decide) eI205
              have a207 := z_Nd_n (z_Nd_fr a189 fI190 (by decide)) (by decide) eI205
              refine lv_aload_n hx hb dX12_atom_135 rfl (lv_at hl 0 rfl) ?_
              refine z_get (T := TX12) (N := 96) (ci := 12) (i := 0) (v := .int (I190 0 42)) hx hb hts zj_X12_atom_X12 hown hK hW rfl rfl 42 (by decide) (hts (.fieldLink RX12 294 "PetrolBoardModel" "isWrong" "Z") (me_s (me_l (me_l (List.mem_of_getElem? (i := 6) rfl))))) (fun _ h => h) (congrArg Value.int (by rw [eI205, z_up_n (by decide)])) dX12_atom_136 ?_
              refine lv_if_ne (tgt := 311) hx hb dX12_atom_139 (by decide) (fun c208 => ?_) (fun c208 => (by have g := z_f_eq rfl z_l0 c208; omega))
              have g209 := z_f_ne rfl z_l0 c208
              exact z_vret hx hb hr hK hS (Nat.le_of_ble_eq_true rfl) (Nat.le_of_ble_eq_true rfl) hlocks dX12_atom_311 (shM, ad, I205, J192, PM ad) hW ⟨I205, J192, rfl, ⟨(by show 0 ≤ (I205 0 31).toInt ∧ (I205 0 31).toInt ≤ 500; rw [eI205, z_up_n (by decide)]; exact hI190mp.1), (by show 0 ≤ (I205 0 33).toInt ∧ (I205 0 33).toInt ≤ 500; rw [eI205, z_up_n (by decide)]; exact hI190mp.2.1), (by show 0 ≤ (I205 0 34).toInt ∧ (I205 0 34).toInt ≤ 500; rw [eI205, z_up_n (by decide)]; exact hI190mp.2.2.1), (by show 0 ≤ (I205 0 35).toInt ∧ (I205 0 35).toInt ≤ 500; rw [eI205, z_up_n (by decide)]; exact hI190mp.2.2.2)⟩, ⟨(by show 0 ≤ (I205 0 36).toInt ∧ (I205 0 36).toInt ≤ 4; rw [eI205, z_up_n (by decide)]; exact hI190mt.1), (by show 0 ≤ (I205 0 42).toInt ∧ (I205 0 42).toInt ≤ 1; rw [eI205, z_up_n (by decide)]; exact hI190mt.2)⟩, ⟨(by show 0 ≤ (I205 0 47).toInt ∧ (I205 0 47).toInt ≤ 119; rw [eI205, z_up_n (by decide)]; exact hI190md.1), (by show 0 ≤ (I205 0 39).toInt ∧ (I205 0 39).toInt ≤ 100; rw [eI205, z_up_n (by decide)]; exact hI190md.2)⟩, (by show 0 ≤ (I205 0 40).toInt ∧ (I205 0 40).toInt ≤ 6199; rw [eI205, z_up_n (by decide)]; exact k193), (by show 0 ≤ (I205 0 15).toInt ∧ (I205 0 15).toInt ≤ 6100; rw [eI205, z_up_n (by decide)]; exact k194), a207, (by have q0 : (I205 0 35) = (I190 0 35) := (by rw [eI205, z_up_n (by decide)]); have q1 : (I205 0 34) = (I190 0 34) := (by rw [eI205, z_up_n (by decide)]); have q2 : (I205 0 33) = (I190 0 33) := (by rw [eI205, z_up_n (by decide)]); have q3 : (I205 0 36) = (I190 0 36) := (by rw [eI205, z_up_n (by decide)]); show 0 ≤ (I205 0 35).toInt ∧ (I205 0 35).toInt ≤ (I205 0 34).toInt ∧ (I205 0 34).toInt ≤ (I205 0 33).toInt ∧ (I205 0 33).toInt ≤ 500 ∧ ((I205 0 36).toInt = 0 ∨ (I205 0 35).toInt + 1 ≤ (I205 0 34).toInt); rw [q0, q1, q2, q3]; first | omega | decide), f206, (Or.inl (by have q0 : (I205 0 42) = (I190 0 42) := (by rw [eI205, z_up_n (by decide)]); show ¬ (I205 0 42).toInt = 0; rw [q0]; omega))⟩
            · have g210 := z_f_eq rfl z_l0 c203
              refine lv_aload_n hx hb dX12_atom_122 rfl (lv_at hl 0 rfl) ?_
              refine lv_bipush (v := 40) hx hb dX12_atom_123 (by decide) ?_
              refine z_cv hW hS hA (va_runV (As := [.int 40]) (rest := []) ⟨hx, hb, hml, hown, hts⟩ (sx_X12_must l G ad I190 J192 ⟨(by show 0 ≤ (I190 0 31).toInt ∧ (I190 0 31).toInt ≤ 500; exact hI190mp.1), (by show 0 ≤ (I190 0 33).toInt ∧ (I190 0 33).toInt ≤ 500; exact hI190mp.2.1), (by show 0 ≤ (I190 0 34).toInt ∧ (I190 0 34).toInt ≤ 500; exact hI190mp.2.2.1), (by show 0 ≤ (I190 0 35).toInt ∧ (I190 0 35).toInt ≤ 500; exact hI190mp.2.2.2)⟩ ⟨(by show 0 ≤ (I190 0 36).toInt ∧ (I190 0 36).toInt ≤ 4; exact hI190mt.1), (by show 0 ≤ (I190 0 42).toInt ∧ (I190 0 42).toInt ≤ 1; exact hI190mt.2)⟩ (by show 0 ≤ (I190 0 35).toInt ∧ (I190 0 35).toInt ≤ (I190 0 34).toInt ∧ (I190 0 34).toInt ≤ (I190 0 33).toInt ∧ (I190 0 33).toInt ≤ 500 ∧ ((I190 0 36).toInt = 0 ∨ (I190 0 35).toInt + 1 ≤ (I190 0 34).toInt); first | omega | decide) 40 _) (cwV 1 hts gX12_atom_X12_must rfl rfl rfl hy_X12_must ⟨Nat.le_of_ble_eq_true rfl, Nat.le_of_ble_eq_true rfl⟩) (z_preV (i := 0) hK hW rfl rfl) rfl rfl hl.1 rfl (lv_room (Nat.le_of_ble_eq_true rfl)) dX12_atom_125 ⟨Nat.le_of_ble_eq_true rfl, Nat.le_of_ble_eq_true rfl⟩) (fun u1 H locs hp hW hS => ?_)
              obtain ⟨I211, J213, e9, hI211mp, hI211mt, hI211rp, fI211, hp⟩ := hp
              rw [e9] at hW
              have f212 := z_fr_sub (L := L_X12_atom) f191 fI211 (by decide)
              have k214 : 0 ≤ (I211 0 47).toInt ∧ (I211 0 47).toInt ≤ 119 := by rw [fI211 0 47 (by decide)]; exact (by show 0 ≤ (I190 0 47).toInt ∧ (I190 0 47).toInt ≤ 119; exact hI190md.1)
              have k215 : 0 ≤ (I211 0 39).toInt ∧ (I211 0 39).toInt ≤ 100 := by rw [fI211 0 39 (by decide)]; exact (by show 0 ≤ (I190 0 39).toInt ∧ (I190 0 39).toInt ≤ 100; exact hI190md.2)
              have k216 : 0 ≤ (I211 0 40).toInt ∧ (I211 0 40).toInt ≤ 6199 := by rw [fI211 0 40 (by decide)]; exact (by show 0 ≤ (I190 0 40).toInt ∧ (I190 0 40).toInt ≤ 6199; exact k193)
              have k217 : 0 ≤ (I211 0 15).toInt ∧ (I211 0 15).toInt ≤ 6100 := by rw [fI211 0 15 (by decide)]; exact (by show 0 ≤ (I190 0 15).toInt ∧ (I190 0 15).toInt ≤ 6100; exact k194)
              have k218 : 0 ≤ (I211 0 35).toInt ∧ (I211 0 35).toInt ≤ (I211 0 34).toInt ∧ (I211 0 34).toInt ≤ (I211 0 33).toInt ∧ (I211 0 33).toInt ≤ 500 ∧ ((I211 0 36).toInt = 0 ∨ (I211 0 35).toInt + 1 ≤ (I211 0 34).toInt) := hI211rp
              have k219 : (I211 0 47).toInt = (I190 0 47).toInt := by rw [fI211 0 47 (by decide)]
              have k220 : (I211 0 39).toInt = (I190 0 39).toInt := by rw [fI211 0 39 (by decide)]
              have k221 : (I211 0 15).toInt = (I190 0 15).toInt := by rw [fI211 0 15 (by decide)]
              have k222 : (I211 0 40).toInt = (I190 0 40).toInt := by rw [fI211 0 40 (by decide)]
              have h223 := hp
              refine lv_aload_n hx hb dX12_atom_128 rfl (lv_at hl 0 rfl) ?_
              refine z_get (T := TX12) (N := 96) (ci := 12) (i := 0) (v := .ref (ad 27)) hx hb hts zj_X12_atom_X12 hown hK hW rfl rfl 44 (by decide) (hts (.fieldLink RX12 94 "PetrolBoardModel" "at" "[I") (me_s (me_l (me_l (List.mem_of_getElem? (i := 0) rfl))))) (fun _ h => h) rfl dX12_atom_129 ?_
              refine lv_iload_n hx hb dX12_atom_132 rfl (lv_at hl 1 rfl) ?_
              refine lv_iconst (v := 2) hx hb dX12_atom_133 (by decide) ?_
              refine z_iast (i := 27) hx hb hK hW hS rfl (z_ix rfl (by omega) (by omega)) dX12_atom_134 (fun H locs hz1 hW hS => ?_)
              obtain ⟨I224, eI224⟩ : ∃ K : z_I, K = z_up I211 27 a1.toNatClampNeg 2 := ⟨_, rfl⟩
              rw [← eI224] at hW
              have f225 := z_fr_a f212 (show z_wa L_X12_atom 27 = true by decide) eI224
              have a226 := z_Nd_n (z_Nd_fr (z_Nd_fr a189 fI190 (by decide)) fI211 (by decide)) (by decide) eI224
              refine lv_aload_n hx hb dX12_atom_135 rfl (lv_at hl 0 rfl) ?_
              have r227 : 0 ≤ (I211 0 42).toInt ∧ (I211 0 42).toInt ≤ 1 := hI211mt.2
              refine z_get (T := TX12) (N := 96) (ci := 12) (i := 0) (v := .int (I211 0 42)) hx hb hts zj_X12_atom_X12 hown hK hW rfl rfl 42 (by decide) (hts (.fieldLink RX12 294 "PetrolBoardModel" "isWrong" "Z") (me_s (me_l (me_l (List.mem_of_getElem? (i := 6) rfl))))) (fun _ h => h) (congrArg Value.int (by rw [eI224, z_up_n (by decide)])) dX12_atom_136 ?_
              refine lv_if_ne (tgt := 311) hx hb dX12_atom_139 (by decide) (fun c228 => ?_) (fun c228 => ?_)
              · have g229 := z_f_ne rfl z_l0 c228
                exact z_vret hx hb hr hK hS (Nat.le_of_ble_eq_true rfl) (Nat.le_of_ble_eq_true rfl) hlocks dX12_atom_311 (shM, ad, I224, J213, PM ad) hW ⟨I224, J213, rfl, ⟨(by show 0 ≤ (I224 0 31).toInt ∧ (I224 0 31).toInt ≤ 500; rw [eI224, z_up_n (by decide)]; exact hI211mp.1), (by show 0 ≤ (I224 0 33).toInt ∧ (I224 0 33).toInt ≤ 500; rw [eI224, z_up_n (by decide)]; exact hI211mp.2.1), (by show 0 ≤ (I224 0 34).toInt ∧ (I224 0 34).toInt ≤ 500; rw [eI224, z_up_n (by decide)]; exact hI211mp.2.2.1), (by show 0 ≤ (I224 0 35).toInt ∧ (I224 0 35).toInt ≤ 500; rw [eI224, z_up_n (by decide)]; exact hI211mp.2.2.2)⟩, ⟨(by show 0 ≤ (I224 0 36).toInt ∧ (I224 0 36).toInt ≤ 4; rw [eI224, z_up_n (by decide)]; exact hI211mt.1), (by show 0 ≤ (I224 0 42).toInt ∧ (I224 0 42).toInt ≤ 1; rw [eI224, z_up_n (by decide)]; exact hI211mt.2)⟩, ⟨(by show 0 ≤ (I224 0 47).toInt ∧ (I224 0 47).toInt ≤ 119; rw [eI224, z_up_n (by decide)]; exact k214), (by show 0 ≤ (I224 0 39).toInt ∧ (I224 0 39).toInt ≤ 100; rw [eI224, z_up_n (by decide)]; exact k215)⟩, (by show 0 ≤ (I224 0 40).toInt ∧ (I224 0 40).toInt ≤ 6199; rw [eI224, z_up_n (by decide)]; exact k216), (by show 0 ≤ (I224 0 15).toInt ∧ (I224 0 15).toInt ≤ 6100; rw [eI224, z_up_n (by decide)]; exact k217), a226, (by have q0 : (I224 0 35) = (I211 0 35) := (by rw [eI224, z_up_n (by decide)]); have q1 : (I224 0 34) = (I211 0 34) := (by rw [eI224, z_up_n (by decide)]); have q2 : (I224 0 33) = (I211 0 33) := (by rw [eI224, z_up_n (by decide)]); have q3 : (I224 0 36) = (I211 0 36) := (by rw [eI224, z_up_n (by decide)]); show 0 ≤ (I224 0 35).toInt ∧ (I224 0 35).toInt ≤ (I224 0 34).toInt ∧ (I224 0 34).toInt ≤ (I224 0 33).toInt ∧ (I224 0 33).toInt ≤ 500 ∧ ((I224 0 36).toInt = 0 ∨ (I224 0 35).toInt + 1 ≤ (I224 0 34).toInt); rw [q0, q1, q2, q3]; first | omega | decide), f225, (Or.inl (by have q0 : (I224 0 42) = (I211 0 42) := (by rw [eI224, z_up_n (by decide)]); show ¬ (I224 0 42).toInt = 0; rw [q0]; omega))⟩
              · have g230 := z_f_eq rfl z_l0 c228
                refine lv_aload_n hx hb dX12_atom_142 rfl (lv_at hl 0 rfl) ?_
                refine lv_iconst (v := 0) hx hb dX12_atom_143 (by decide) ?_
                refine z_cv hW hS hA (va_runV (As := [.int 0]) (rest := []) ⟨hx, hb, hml, hown, hts⟩ (sx_X12_begin l G ad I224 J213 ⟨(by show 0 ≤ (I224 0 47).toInt ∧ (I224 0 47).toInt ≤ 119; rw [eI224, z_up_n (by decide)]; exact k214), (by show 0 ≤ (I224 0 39).toInt ∧ (I224 0 39).toInt ≤ 100; rw [eI224, z_up_n (by decide)]; exact k215)⟩ 0 (by have q0 : (I224 0 47) = (I211 0 47) := (by rw [eI224, z_up_n (by decide)]); show (I224 0 47).toInt ≤ 118; rw [q0]; omega) _) (cwV 1 hts gX12_atom_X12_begin rfl rfl rfl hy_X12_begin ⟨Nat.le_of_ble_eq_true rfl, Nat.le_of_ble_eq_true rfl⟩) (z_preV (i := 0) hK hW rfl rfl) rfl rfl hl.1 rfl (lv_room (Nat.le_of_ble_eq_true rfl)) dX12_atom_144 ⟨Nat.le_of_ble_eq_true rfl, Nat.le_of_ble_eq_true rfl⟩) (fun u1 H locs hp hW hS => ?_)
                obtain ⟨I231, J233, e9, hI231md, fI231, hp⟩ := hp
                rw [e9] at hW
                have f232 := z_fr_sub (L := L_X12_atom) f225 fI231 (by decide)
                have k234 : 0 ≤ (I231 0 31).toInt ∧ (I231 0 31).toInt ≤ 500 := by rw [fI231 0 31 (by decide)]; exact (by show 0 ≤ (I224 0 31).toInt ∧ (I224 0 31).toInt ≤ 500; rw [eI224, z_up_n (by decide)]; exact hI211mp.1)
                have k235 : 0 ≤ (I231 0 33).toInt ∧ (I231 0 33).toInt ≤ 500 := by rw [fI231 0 33 (by decide)]; exact (by show 0 ≤ (I224 0 33).toInt ∧ (I224 0 33).toInt ≤ 500; rw [eI224, z_up_n (by decide)]; exact hI211mp.2.1)
                have k236 : 0 ≤ (I231 0 34).toInt ∧ (I231 0 34).toInt ≤ 500 := by rw [fI231 0 34 (by decide)]; exact (by show 0 ≤ (I224 0 34).toInt ∧ (I224 0 34).toInt ≤ 500; rw [eI224, z_up_n (by decide)]; exact hI211mp.2.2.1)
                have k237 : 0 ≤ (I231 0 35).toInt ∧ (I231 0 35).toInt ≤ 500 := by rw [fI231 0 35 (by decide)]; exact (by show 0 ≤ (I224 0 35).toInt ∧ (I224 0 35).toInt ≤ 500; rw [eI224, z_up_n (by decide)]; exact hI211mp.2.2.2)
                have k238 : 0 ≤ (I231 0 36).toInt ∧ (I231 0 36).toInt ≤ 4 := by rw [fI231 0 36 (by decide)]; exact (by show 0 ≤ (I224 0 36).toInt ∧ (I224 0 36).toInt ≤ 4; rw [eI224, z_up_n (by decide)]; exact hI211mt.1)
                have k239 : 0 ≤ (I231 0 42).toInt ∧ (I231 0 42).toInt ≤ 1 := by rw [fI231 0 42 (by decide)]; exact (by show 0 ≤ (I224 0 42).toInt ∧ (I224 0 42).toInt ≤ 1; rw [eI224, z_up_n (by decide)]; exact hI211mt.2)
                have k240 : 0 ≤ (I231 0 40).toInt ∧ (I231 0 40).toInt ≤ 6199 := by rw [fI231 0 40 (by decide)]; exact (by show 0 ≤ (I224 0 40).toInt ∧ (I224 0 40).toInt ≤ 6199; rw [eI224, z_up_n (by decide)]; exact k216)
                have k241 : 0 ≤ (I231 0 15).toInt ∧ (I231 0 15).toInt ≤ 6100 := by rw [fI231 0 15 (by decide)]; exact (by show 0 ≤ (I224 0 15).toInt ∧ (I224 0 15).toInt ≤ 6100; rw [eI224, z_up_n (by decide)]; exact k217)
                have k242 : 0 ≤ (I231 0 35).toInt ∧ (I231 0 35).toInt ≤ (I231 0 34).toInt ∧ (I231 0 34).toInt ≤ (I231 0 33).toInt ∧ (I231 0 33).toInt ≤ 500 ∧ ((I231 0 36).toInt = 0 ∨ (I231 0 35).toInt + 1 ≤ (I231 0 34).toInt) := (by have q0 : (I231 0 35) = (I211 0 35) := (by rw [fI231 0 35 (by decide), eI224, z_up_n (by decide)]); have q1 : (I231 0 34) = (I211 0 34) := (by rw [fI231 0 34 (by decide), eI224, z_up_n (by decide)]); have q2 : (I231 0 33) = (I211 0 33) := (by rw [fI231 0 33 (by decide), eI224, z_up_n (by decide)]); have q3 : (I231 0 36) = (I211 0 36) := (by rw [fI231 0 36 (by decide), eI224, z_up_n (by decide)]); show 0 ≤ (I231 0 35).toInt ∧ (I231 0 35).toInt ≤ (I231 0 34).toInt ∧ (I231 0 34).toInt ≤ (I231 0 33).toInt ∧ (I231 0 33).toInt ≤ 500 ∧ ((I231 0 36).toInt = 0 ∨ (I231 0 35).toInt + 1 ≤ (I231 0 34).toInt); rw [q0, q1, q2, q3]; first | omega | decide)
                have k243 : (I231 0 35).toInt = (I211 0 35).toInt := by rw [fI231 0 35 (by decide), eI224, z_up_n (by decide)]
                have k244 : (I231 0 34).toInt = (I211 0 34).toInt := by rw [fI231 0 34 (by decide), eI224, z_up_n (by decide)]
                have k245 : (I231 0 36).toInt = (I211 0 36).toInt := by rw [fI231 0 36 (by decide), eI224, z_up_n (by decide)]
                have k246 : (I231 0 42).toInt = (I211 0 42).toInt := by rw [fI231 0 42 (by decide), eI224, z_up_n (by decide)]
                have k247 : (I231 0 39).toInt = (I211 0 39).toInt := by rw [fI231 0 39 (by decide), eI224, z_up_n (by decide)]
                have k248 : (I231 0 15).toInt = (I211 0 15).toInt := by rw [fI231 0 15 (by decide), eI224, z_up_n (by decide)]
                have k249 : (I231 0 40).toInt = (I211 0 40).toInt := by rw [fI231 0 40 (by decide), eI224, z_up_n (by decide)]
                have h250 := hp
                refine lv_goto (tgt := 311) hx hb dX12_atom_147 (by decide) ?_
                exact z_vret hx hb hr hK hS (Nat.le_of_ble_eq_true rfl) (Nat.le_of_ble_eq_true rfl) hlocks dX12_atom_311 (shM, ad, I231, J233, PM ad) hW ⟨I231, J233, rfl, ⟨(by show 0 ≤ (I231 0 31).toInt ∧ (I231 0 31).toInt ≤ 500; exact k234), (by show 0 ≤ (I231 0 33).toInt ∧ (I231 0 33).toInt ≤ 500; exact k235), (by show 0 ≤ (I231 0 34).toInt ∧ (I231 0 34).toInt ≤ 500; exact k236), (by show 0 ≤ (I231 0 35).toInt ∧ (I231 0 35).toInt ≤ 500; exact k237)⟩, ⟨(by show 0 ≤ (I231 0 36).toInt ∧ (I231 0 36).toInt ≤ 4; exact k238), (by show 0 ≤ (I231 0 42).toInt ∧ (I231 0 42).toInt ≤ 1; exact k239)⟩, ⟨(by show 0 ≤ (I231 0 47).toInt ∧ (I231 0 47).toInt ≤ 119; exact hI231md.1), (by show 0 ≤ (I231 0 39).toInt ∧ (I231 0 39).toInt ≤ 100; exact hI231md.2)⟩, (by show 0 ≤ (I231 0 40).toInt ∧ (I231 0 40).toInt ≤ 6199; exact k240), (by show 0 ≤ (I231 0 15).toInt ∧ (I231 0 15).toInt ≤ 6100; exact k241), (z_Nd_fr a226 fI231 (by decide)), (by show 0 ≤ (I231 0 35).toInt ∧ (I231 0 35).toInt ≤ (I231 0 34).toInt ∧ (I231 0 34).toInt ≤ (I231 0 33).toInt ∧ (I231 0 33).toInt ≤ 500 ∧ ((I231 0 36).toInt = 0 ∨ (I231 0 35).toInt + 1 ≤ (I231 0 34).toInt); first | omega | decide), f232, ((Classical.em ((I231 0 42).toInt = 0)).elim (fun hw9 => Or.inr ⟨a1.toNatClampNeg + 2, by have w1 := z_fw_20 (a := va.toInt) (o := vo.toInt) (by omega); have w2 := z_fo_2n (a := va.toInt) (by omega); have w3 := z_fw_2n (a := 2) (o := vo.toInt) (by omega); have w4 := z_fo_2y (a := 2) (by omega); have w5 := z_fw_00 (a := 0) (o := -1) (by omega); have w6 := z_rk_2; have w7 := z_rk_0; exact z_PUSH (d := a1.toNatClampNeg) (w := 2) (a := 2) (o := vo.toInt) (s := 6) (wi := 0) hPS (fun i hi => ⟨by rw [eI224, z_up_n (by decide), fI211 26 i (z_wr_c (by decide)), fI190 26 i (z_wr_c (by decide)), eI187, z_up_n (by decide)], by rw [eI224, z_up_k (by omega), fI211 27 i (z_wr_c (by decide)), fI190 27 i (z_wr_c (by decide)), eI187, z_up_n (by decide)], by rw [eI224, z_up_n (by decide), fI211 28 i (z_wr_c (by decide)), fI190 28 i (z_wr_c (by decide)), eI187, z_up_n (by decide)], by rw [eI224, z_up_n (by decide), fI211 29 i (z_wr_c (by decide)), fI190 29 i (z_wr_c (by decide)), eI187, z_up_k (by omega)]⟩) (by rw [show I224 26 a1.toNatClampNeg = vw from (by rw [eI224, z_up_n (by decide), fI211 26 a1.toNatClampNeg (z_wr_c (by decide)), fI190 26 a1.toNatClampNeg (z_wr_c (by decide)), eI187, z_up_n (by decide)]; exact evw.symm)]; exact hvw) (by rw [show I224 27 a1.toNatClampNeg = 2 from (by rw [eI224, z_up_s])]; exact z_l2) (by rw [show I224 28 a1.toNatClampNeg = vo from (by rw [eI224, z_up_n (by decide), fI211 28 a1.toNatClampNeg (z_wr_c (by decide)), fI190 28 a1.toNatClampNeg (z_wr_c (by decide)), eI187, z_up_n (by decide)]; exact evo.symm)]) (by rw [show I224 29 a1.toNatClampNeg = 6 from (by rw [eI224, z_up_n (by decide), fI211 29 a1.toNatClampNeg (z_wr_c (by decide)), fI190 29 a1.toNatClampNeg (z_wr_c (by decide)), eI187, z_up_s])]; exact z_l6) (by unfold z_fv; omega) hwd (by rw [eI224, z_up_n (by decide)]; omega) h250 z_l0 (by omega) (by omega) (by omega) (by omega) (by omega) (by omega) (by omega) (by omega)⟩) Or.inl)⟩
          · refine lv_if_eq (tgt := 108) hx hb dX12_atom_100 (by decide) (fun c251 => ?_) (fun c251 => absurd (by decide) c251)
            refine lv_bipush (v := 7) hx hb dX12_atom_108 (by decide) ?_
            refine z_iast (i := 29) hx hb hK hW hS rfl (z_ix rfl (by omega) (by omega)) dX12_atom_110 (fun H locs hz1 hW hS => ?_)
            obtain ⟨I252, eI252⟩ : ∃ K : z_I, K = z_up I 29 a1.toNatClampNeg 7 := ⟨_, rfl⟩
            rw [← eI252] at hW
            have f253 := z_fr_a z_fr_0 (show z_wa L_X12_atom 29 = true by decide) eI252
            have a254 := z_Nd_n hNd (by decide) eI252
            refine lv_aload_n hx hb dX12_atom_111 rfl (lv_at hl 0 rfl) ?_
            refine z_cv hW hS hA (va_runV (As := []) (rest := []) ⟨hx, hb, hml, hown, hts⟩ (sx_X12_opens l G ad I252 J ⟨(by show 0 ≤ (I252 0 31).toInt ∧ (I252 0 31).toInt ≤ 500; rw [eI252, z_up_n (by decide)]; exact hmp.1), (by show 0 ≤ (I252 0 33).toInt ∧ (I252 0 33).toInt ≤ 500; rw [eI252, z_up_n (by decide)]; exact hmp.2.1), (by show 0 ≤ (I252 0 34).toInt ∧ (I252 0 34).toInt ≤ 500; rw [eI252, z_up_n (by decide)]; exact hmp.2.2.1), (by show 0 ≤ (I252 0 35).toInt ∧ (I252 0 35).toInt ≤ 500; rw [eI252, z_up_n (by decide)]; exact hmp.2.2.2)⟩ ⟨(by show 0 ≤ (I252 0 36).toInt ∧ (I252 0 36).toInt ≤ 4; rw [eI252, z_up_n (by decide)]; exact hmt.1), (by show 0 ≤ (I252 0 42).toInt ∧ (I252 0 42).toInt ≤ 1; rw [eI252, z_up_n (by decide)]; exact hmt.2)⟩ (by have q0 : (I252 0 35) = (I 0 35) := (by rw [eI252, z_up_n (by decide)]); have q1 : (I252 0 34) = (I 0 34) := (by rw [eI252, z_up_n (by decide)]); have q2 : (I252 0 33) = (I 0 33) := (by rw [eI252, z_up_n (by decide)]); have q3 : (I252 0 36) = (I 0 36) := (by rw [eI252, z_up_n (by decide)]); show 0 ≤ (I252 0 35).toInt ∧ (I252 0 35).toInt ≤ (I252 0 34).toInt ∧ (I252 0 34).toInt ≤ (I252 0 33).toInt ∧ (I252 0 33).toInt ≤ 500 ∧ ((I252 0 36).toInt = 0 ∨ (I252 0 35).toInt + 1 ≤ (I252 0 34).toInt); rw [q0, q1, q2, q3]; first | omega | decide) ⟨(by show 0 ≤ (I252 0 47).toInt ∧ (I252 0 47).toInt ≤ 119; rw [eI252, z_up_n (by decide)]; exact hmd.1), (by show 0 ≤ (I252 0 39).toInt ∧ (I252 0 39).toInt ≤ 100; rw [eI252, z_up_n (by decide)]; exact hmd.2)⟩  (by have q0 : (I252 0 39) = (I 0 39) := (by rw [eI252, z_up_n (by decide)]); show (I252 0 39).toInt ≤ 9; rw [q0]; omega) _) (cwV 0 hts gX12_atom_X12_opens rfl rfl rfl hy_X12_opens ⟨Nat.le_of_ble_eq_true rfl, Nat.le_of_ble_eq_true rfl⟩) (z_preV (i := 0) hK hW rfl rfl) rfl rfl hl.1 rfl (lv_room (Nat.le_of_ble_eq_true rfl)) dX12_atom_112 ⟨Nat.le_of_ble_eq_true rfl, Nat.le_of_ble_eq_true rfl⟩) (fun u1 H locs hp hW hS => ?_)
            obtain ⟨I255, J257, e9, hI255mp, hI255mt, hI255rp, hI255md, fI255, hp⟩ := hp
            rw [e9] at hW
            have f256 := z_fr_sub (L := L_X12_atom) f253 fI255 (by decide)
            have k258 : 0 ≤ (I255 0 40).toInt ∧ (I255 0 40).toInt ≤ 6199 := by rw [fI255 0 40 (by decide)]; exact (by show 0 ≤ (I252 0 40).toInt ∧ (I252 0 40).toInt ≤ 6199; rw [eI252, z_up_n (by decide)]; exact hmg)
            have k259 : 0 ≤ (I255 0 15).toInt ∧ (I255 0 15).toInt ≤ 6100 := by rw [fI255 0 15 (by decide)]; exact (by show 0 ≤ (I252 0 15).toInt ∧ (I252 0 15).toInt ≤ 6100; rw [eI252, z_up_n (by decide)]; exact hmn)
            have k260 : 0 ≤ (I255 0 35).toInt ∧ (I255 0 35).toInt ≤ (I255 0 34).toInt ∧ (I255 0 34).toInt ≤ (I255 0 33).toInt ∧ (I255 0 33).toInt ≤ 500 ∧ ((I255 0 36).toInt = 0 ∨ (I255 0 35).toInt + 1 ≤ (I255 0 34).toInt) := hI255rp
            have k261 : (I255 0 47).toInt = (I 0 47).toInt := by rw [fI255 0 47 (by decide), eI252, z_up_n (by decide)]
            have k262 : (I255 0 15).toInt = (I 0 15).toInt := by rw [fI255 0 15 (by decide), eI252, z_up_n (by decide)]
            have k263 : (I255 0 40).toInt = (I 0 40).toInt := by rw [fI255 0 40 (by decide), eI252, z_up_n (by decide)]
            obtain ⟨h264, h265, h266⟩ := hp
            rw [show (I252 0 39) = (I 0 39) from by rw [eI252, z_up_n (by decide)]] at h264
            rw [show (I252 0 34) = (I 0 34) from by rw [eI252, z_up_n (by decide)]] at h265
            rw [show (I252 0 39) = (I 0 39) from by rw [eI252, z_up_n (by decide)]] at h266
            refine lv_aload_n hx hb dX12_atom_115 rfl (lv_at hl 0 rfl) ?_
            have r267 : 0 ≤ (I255 0 42).toInt ∧ (I255 0 42).toInt ≤ 1 := hI255mt.2
            refine z_get (T := TX12) (N := 96) (ci := 12) (i := 0) (v := .int (I255 0 42)) hx hb hts zj_X12_atom_X12 hown hK hW rfl rfl 42 (by decide) (hts (.fieldLink RX12 294 "PetrolBoardModel" "isWrong" "Z") (me_s (me_l (me_l (List.mem_of_getElem? (i := 6) rfl))))) (fun _ h => h) rfl dX12_atom_116 ?_
            refine lv_if_ne (tgt := 128) hx hb dX12_atom_119 (by decide) (fun c268 => ?_) (fun c268 => ?_)
            · have g269 := z_f_ne rfl z_l0 c268
              refine lv_aload_n hx hb dX12_atom_128 rfl (lv_at hl 0 rfl) ?_
              refine z_get (T := TX12) (N := 96) (ci := 12) (i := 0) (v := .ref (ad 27)) hx hb hts zj_X12_atom_X12 hown hK hW rfl rfl 44 (by decide) (hts (.fieldLink RX12 94 "PetrolBoardModel" "at" "[I") (me_s (me_l (me_l (List.mem_of_getElem? (i := 0) rfl))))) (fun _ h => h) rfl dX12_atom_129 ?_
              refine lv_iload_n hx hb dX12_atom_132 rfl (lv_at hl 1 rfl) ?_
              refine lv_iconst (v := 2) hx hb dX12_atom_133 (by decide) ?_
              refine z_iast (i := 27) hx hb hK hW hS rfl (z_ix rfl (by omega) (by omega)) dX12_atom_134 (fun H locs hz1 hW hS => ?_)
              obtain ⟨I270, eI270⟩ : ∃ K : z_I, K = z_up I255 27 a1.toNatClampNeg 2 := ⟨_, rfl⟩
              rw [← eI270] at hW
              have f271 := z_fr_a f256 (show z_wa L_X12_atom 27 = true by decide) eI270
              have a272 := z_Nd_n (z_Nd_fr a254 fI255 (by decide)) (by decide) eI270
              refine lv_aload_n hx hb dX12_atom_135 rfl (lv_at hl 0 rfl) ?_
              refine z_get (T := TX12) (N := 96) (ci := 12) (i := 0) (v := .int (I255 0 42)) hx hb hts zj_X12_atom_X12 hown hK hW rfl rfl 42 (by decide) (hts (.fieldLink RX12 294 "PetrolBoardModel" "isWrong" "Z") (me_s (me_l (me_l (List.mem_of_getElem? (i := 6) rfl))))) (fun _ h => h) (congrArg Value.int (by rw [eI270, z_up_n (by decide)])) dX12_atom_136 ?_
              refine lv_if_ne (tgt := 311) hx hb dX12_atom_139 (by decide) (fun c273 => ?_) (fun c273 => (by have g := z_f_eq rfl z_l0 c273; omega))
              have g274 := z_f_ne rfl z_l0 c273
              exact z_vret hx hb hr hK hS (Nat.le_of_ble_eq_true rfl) (Nat.le_of_ble_eq_true rfl) hlocks dX12_atom_311 (shM, ad, I270, J257, PM ad) hW ⟨I270, J257, rfl, ⟨(by show 0 ≤ (I270 0 31).toInt ∧ (I270 0 31).toInt ≤ 500; rw [eI270, z_up_n (by decide)]; exact hI255mp.1), (by show 0 ≤ (I270 0 33).toInt ∧ (I270 0 33).toInt ≤ 500; rw [eI270, z_up_n (by decide)]; exact hI255mp.2.1), (by show 0 ≤ (I270 0 34).toInt ∧ (I270 0 34).toInt ≤ 500; rw [eI270, z_up_n (by decide)]; exact hI255mp.2.2.1), (by show 0 ≤ (I270 0 35).toInt ∧ (I270 0 35).toInt ≤ 500; rw [eI270, z_up_n (by decide)]; exact hI255mp.2.2.2)⟩, ⟨(by show 0 ≤ (I270 0 36).toInt ∧ (I270 0 36).toInt ≤ 4; rw [eI270, z_up_n (by decide)]; exact hI255mt.1), (by show 0 ≤ (I270 0 42).toInt ∧ (I270 0 42).toInt ≤ 1; rw [eI270, z_up_n (by decide)]; exact hI255mt.2)⟩, ⟨(by show 0 ≤ (I270 0 47).toInt ∧ (I270 0 47).toInt ≤ 119; rw [eI270, z_up_n (by decide)]; exact hI255md.1), (by show 0 ≤ (I270 0 39).toInt ∧ (I270 0 39).toInt ≤ 100; rw [eI270, z_up_n (by decide)]; exact hI255md.2)⟩, (by show 0 ≤ (I270 0 40).toInt ∧ (I270 0 40).toInt ≤ 6199; rw [eI270, z_up_n (by decide)]; exact k258), (by show 0 ≤ (I270 0 15).toInt ∧ (I270 0 15).toInt ≤ 6100; rw [eI270, z_up_n (by decide)]; exact k259), a272, (by have q0 : (I270 0 35) = (I255 0 35) := (by rw [eI270, z_up_n (by decide)]); have q1 : (I270 0 34) = (I255 0 34) := (by rw [eI270, z_up_n (by decide)]); have q2 : (I270 0 33) = (I255 0 33) := (by rw [eI270, z_up_n (by decide)]); have q3 : (I270 0 36) = (I255 0 36) := (by rw [eI270, z_up_n (by decide)]); show 0 ≤ (I270 0 35).toInt ∧ (I270 0 35).toInt ≤ (I270 0 34).toInt ∧ (I270 0 34).toInt ≤ (I270 0 33).toInt ∧ (I270 0 33).toInt ≤ 500 ∧ ((I270 0 36).toInt = 0 ∨ (I270 0 35).toInt + 1 ≤ (I270 0 34).toInt); rw [q0, q1, q2, q3]; first | omega | decide), f271, (Or.inl (by have q0 : (I270 0 42) = (I255 0 42) := (by rw [eI270, z_up_n (by decide)]); show ¬ (I270 0 42).toInt = 0; rw [q0]; omega))⟩
            · have g275 := z_f_eq rfl z_l0 c268
              refine lv_aload_n hx hb dX12_atom_122 rfl (lv_at hl 0 rfl) ?_
              refine lv_bipush (v := 40) hx hb dX12_atom_123 (by decide) ?_
              refine z_cv hW hS hA (va_runV (As := [.int 40]) (rest := []) ⟨hx, hb, hml, hown, hts⟩ (sx_X12_must l G ad I255 J257 ⟨(by show 0 ≤ (I255 0 31).toInt ∧ (I255 0 31).toInt ≤ 500; exact hI255mp.1), (by show 0 ≤ (I255 0 33).toInt ∧ (I255 0 33).toInt ≤ 500; exact hI255mp.2.1), (by show 0 ≤ (I255 0 34).toInt ∧ (I255 0 34).toInt ≤ 500; exact hI255mp.2.2.1), (by show 0 ≤ (I255 0 35).toInt ∧ (I255 0 35).toInt ≤ 500; exact hI255mp.2.2.2)⟩ ⟨(by show 0 ≤ (I255 0 36).toInt ∧ (I255 0 36).toInt ≤ 4; exact hI255mt.1), (by show 0 ≤ (I255 0 42).toInt ∧ (I255 0 42).toInt ≤ 1; exact hI255mt.2)⟩ (by show 0 ≤ (I255 0 35).toInt ∧ (I255 0 35).toInt ≤ (I255 0 34).toInt ∧ (I255 0 34).toInt ≤ (I255 0 33).toInt ∧ (I255 0 33).toInt ≤ 500 ∧ ((I255 0 36).toInt = 0 ∨ (I255 0 35).toInt + 1 ≤ (I255 0 34).toInt); first | omega | decide) 40 _) (cwV 1 hts gX12_atom_X12_must rfl rfl rfl hy_X12_must ⟨Nat.le_of_ble_eq_true rfl, Nat.le_of_ble_eq_true rfl⟩) (z_preV (i := 0) hK hW rfl rfl) rfl rfl hl.1 rfl (lv_room (Nat.le_of_ble_eq_true rfl)) dX12_atom_125 ⟨Nat.le_of_ble_eq_true rfl, Nat.le_of_ble_eq_true rfl⟩) (fun u1 H locs hp hW hS => ?_)
              obtain ⟨I276, J278, e9, hI276mp, hI276mt, hI276rp, fI276, hp⟩ := hp
              rw [e9] at hW
              have f277 := z_fr_sub (L := L_X12_atom) f256 fI276 (by decide)
              have k279 : 0 ≤ (I276 0 47).toInt ∧ (I276 0 47).toInt ≤ 119 := by rw [fI276 0 47 (by decide)]; exact (by show 0 ≤ (I255 0 47).toInt ∧ (I255 0 47).toInt ≤ 119; exact hI255md.1)
              have k280 : 0 ≤ (I276 0 39).toInt ∧ (I276 0 39).toInt ≤ 100 := by rw [fI276 0 39 (by decide)]; exact (by show 0 ≤ (I255 0 39).toInt ∧ (I255 0 39).toInt ≤ 100; exact hI255md.2)
              have k281 : 0 ≤ (I276 0 40).toInt ∧ (I276 0 40).toInt ≤ 6199 := by rw [fI276 0 40 (by decide)]; exact (by show 0 ≤ (I255 0 40).toInt ∧ (I255 0 40).toInt ≤ 6199; exact k258)
              have k282 : 0 ≤ (I276 0 15).toInt ∧ (I276 0 15).toInt ≤ 6100 := by rw [fI276 0 15 (by decide)]; exact (by show 0 ≤ (I255 0 15).toInt ∧ (I255 0 15).toInt ≤ 6100; exact k259)
              have k283 : 0 ≤ (I276 0 35).toInt ∧ (I276 0 35).toInt ≤ (I276 0 34).toInt ∧ (I276 0 34).toInt ≤ (I276 0 33).toInt ∧ (I276 0 33).toInt ≤ 500 ∧ ((I276 0 36).toInt = 0 ∨ (I276 0 35).toInt + 1 ≤ (I276 0 34).toInt) := hI276rp
              have k284 : (I276 0 47).toInt = (I255 0 47).toInt := by rw [fI276 0 47 (by decide)]
              have k285 : (I276 0 39).toInt = (I255 0 39).toInt := by rw [fI276 0 39 (by decide)]
              have k286 : (I276 0 15).toInt = (I255 0 15).toInt := by rw [fI276 0 15 (by decide)]
              have k287 : (I276 0 40).toInt = (I255 0 40).toInt := by rw [fI276 0 40 (by decide)]
              have h288 := hp
              refine lv_aload_n hx hb dX12_atom_128 rfl (lv_at hl 0 rfl) ?_
              refine z_get (T := TX12) (N := 96) (ci := 12) (i := 0) (v := .ref (ad 27)) hx hb hts zj_X12_atom_X12 hown hK hW rfl rfl 44 (by decide) (hts (.fieldLink RX12 94 "PetrolBoardModel" "at" "[I") (me_s (me_l (me_l (List.mem_of_getElem? (i := 0) rfl))))) (fun _ h => h) rfl dX12_atom_129 ?_
              refine lv_iload_n hx hb dX12_atom_132 rfl (lv_at hl 1 rfl) ?_
              refine lv_iconst (v := 2) hx hb dX12_atom_133 (by decide) ?_
              refine z_iast (i := 27) hx hb hK hW hS rfl (z_ix rfl (by omega) (by omega)) dX12_atom_134 (fun H locs hz1 hW hS => ?_)
              obtain ⟨I289, eI289⟩ : ∃ K : z_I, K = z_up I276 27 a1.toNatClampNeg 2 := ⟨_, rfl⟩
              rw [← eI289] at hW
              have f290 := z_fr_a f277 (show z_wa L_X12_atom 27 = true by decide) eI289
              have a291 := z_Nd_n (z_Nd_fr (z_Nd_fr a254 fI255 (by decide)) fI276 (by decide)) (by decide) eI289
              refine lv_aload_n hx hb dX12_atom_135 rfl (lv_at hl 0 rfl) ?_
              have r292 : 0 ≤ (I276 0 42).toInt ∧ (I276 0 42).toInt ≤ 1 := hI276mt.2
              refine z_get (T := TX12) (N := 96) (ci := 12) (i := 0) (v := .int (I276 0 42)) hx hb hts zj_X12_atom_X12 hown hK hW rfl rfl 42 (by decide) (hts (.fieldLink RX12 294 "PetrolBoardModel" "isWrong" "Z") (me_s (me_l (me_l (List.mem_of_getElem? (i := 6) rfl))))) (fun _ h => h) (congrArg Value.int (by rw [eI289, z_up_n (by decide)])) dX12_atom_136 ?_
              refine lv_if_ne (tgt := 311) hx hb dX12_atom_139 (by decide) (fun c293 => ?_) (fun c293 => ?_)
              · have g294 := z_f_ne rfl z_l0 c293
                exact z_vret hx hb hr hK hS (Nat.le_of_ble_eq_true rfl) (Nat.le_of_ble_eq_true rfl) hlocks dX12_atom_311 (shM, ad, I289, J278, PM ad) hW ⟨I289, J278, rfl, ⟨(by show 0 ≤ (I289 0 31).toInt ∧ (I289 0 31).toInt ≤ 500; rw [eI289, z_up_n (by decide)]; exact hI276mp.1), (by show 0 ≤ (I289 0 33).toInt ∧ (I289 0 33).toInt ≤ 500; rw [eI289, z_up_n (by decide)]; exact hI276mp.2.1), (by show 0 ≤ (I289 0 34).toInt ∧ (I289 0 34).toInt ≤ 500; rw [eI289, z_up_n (by decide)]; exact hI276mp.2.2.1), (by show 0 ≤ (I289 0 35).toInt ∧ (I289 0 35).toInt ≤ 500; rw [eI289, z_up_n (by decide)]; exact hI276mp.2.2.2)⟩, ⟨(by show 0 ≤ (I289 0 36).toInt ∧ (I289 0 36).toInt ≤ 4; rw [eI289, z_up_n (by decide)]; exact hI276mt.1), (by show 0 ≤ (I289 0 42).toInt ∧ (I289 0 42).toInt ≤ 1; rw [eI289, z_up_n (by decide)]; exact hI276mt.2)⟩, ⟨(by show 0 ≤ (I289 0 47).toInt ∧ (I289 0 47).toInt ≤ 119; rw [eI289, z_up_n (by decide)]; exact k279), (by show 0 ≤ (I289 0 39).toInt ∧ (I289 0 39).toInt ≤ 100; rw [eI289, z_up_n (by decide)]; exact k280)⟩, (by show 0 ≤ (I289 0 40).toInt ∧ (I289 0 40).toInt ≤ 6199; rw [eI289, z_up_n (by decide)]; exact k281), (by show 0 ≤ (I289 0 15).toInt ∧ (I289 0 15).toInt ≤ 6100; rw [eI289, z_up_n (by decide)]; exact k282), a291, (by have q0 : (I289 0 35) = (I276 0 35) := (by rw [eI289, z_up_n (by decide)]); have q1 : (I289 0 34) = (I276 0 34) := (by rw [eI289, z_up_n (by decide)]); have q2 : (I289 0 33) = (I276 0 33) := (by rw [eI289, z_up_n (by decide)]); have q3 : (I289 0 36) = (I276 0 36) := (by rw [eI289, z_up_n (by decide)]); show 0 ≤ (I289 0 35).toInt ∧ (I289 0 35).toInt ≤ (I289 0 34).toInt ∧ (I289 0 34).toInt ≤ (I289 0 33).toInt ∧ (I289 0 33).toInt ≤ 500 ∧ ((I289 0 36).toInt = 0 ∨ (I289 0 35).toInt + 1 ≤ (I289 0 34).toInt); rw [q0, q1, q2, q3]; first | omega | decide), f290, (Or.inl (by have q0 : (I289 0 42) = (I276 0 42) := (by rw [eI289, z_up_n (by decide)]); show ¬ (I289 0 42).toInt = 0; rw [q0]; omega))⟩
              · have g295 := z_f_eq rfl z_l0 c293
                refine lv_aload_n hx hb dX12_atom_142 rfl (lv_at hl 0 rfl) ?_
                refine lv_iconst (v := 0) hx hb dX12_atom_143 (by decide) ?_
                refine z_cv hW hS hA (va_runV (As := [.int 0]) (rest := []) ⟨hx, hb, hml, hown, hts⟩ (sx_X12_begin l G ad I289 J278 ⟨(by show 0 ≤ (I289 0 47).toInt ∧ (I289 0 47).toInt ≤ 119; rw [eI289, z_up_n (by decide)]; exact k279), (by show 0 ≤ (I289 0 39).toInt ∧ (I289 0 39).toInt ≤ 100; rw [eI289, z_up_n (by decide)]; exact k280)⟩ 0 (by have q0 : (I289 0 47) = (I276 0 47) := (by rw [eI289, z_up_n (by decide)]); show (I289 0 47).toInt ≤ 118; rw [q0]; omega) _) (cwV 1 hts gX12_atom_X12_begin rfl rfl rfl hy_X12_begin ⟨Nat.le_of_ble_eq_true rfl, Nat.le_of_ble_eq_true rfl⟩) (z_preV (i := 0) hK hW rfl rfl) rfl rfl hl.1 rfl (lv_room (Nat.le_of_ble_eq_true rfl)) dX12_atom_144 ⟨Nat.le_of_ble_eq_true rfl, Nat.le_of_ble_eq_true rfl⟩) (fun u1 H locs hp hW hS => ?_)
                obtain ⟨I296, J298, e9, hI296md, fI296, hp⟩ := hp
                rw [e9] at hW
                have f297 := z_fr_sub (L := L_X12_atom) f290 fI296 (by decide)
                have k299 : 0 ≤ (I296 0 31).toInt ∧ (I296 0 31).toInt ≤ 500 := by rw [fI296 0 31 (by decide)]; exact (by show 0 ≤ (I289 0 31).toInt ∧ (I289 0 31).toInt ≤ 500; rw [eI289, z_up_n (by decide)]; exact hI276mp.1)
                have k300 : 0 ≤ (I296 0 33).toInt ∧ (I296 0 33).toInt ≤ 500 := by rw [fI296 0 33 (by decide)]; exact (by show 0 ≤ (I289 0 33).toInt ∧ (I289 0 33).toInt ≤ 500; rw [eI289, z_up_n (by decide)]; exact hI276mp.2.1)
                have k301 : 0 ≤ (I296 0 34).toInt ∧ (I296 0 34).toInt ≤ 500 := by rw [fI296 0 34 (by decide)]; exact (by show 0 ≤ (I289 0 34).toInt ∧ (I289 0 34).toInt ≤ 500; rw [eI289, z_up_n (by decide)]; exact hI276mp.2.2.1)
                have k302 : 0 ≤ (I296 0 35).toInt ∧ (I296 0 35).toInt ≤ 500 := by rw [fI296 0 35 (by decide)]; exact (by show 0 ≤ (I289 0 35).toInt ∧ (I289 0 35).toInt ≤ 500; rw [eI289, z_up_n (by decide)]; exact hI276mp.2.2.2)
                have k303 : 0 ≤ (I296 0 36).toInt ∧ (I296 0 36).toInt ≤ 4 := by rw [fI296 0 36 (by decide)]; exact (by show 0 ≤ (I289 0 36).toInt ∧ (I289 0 36).toInt ≤ 4; rw [eI289, z_up_n (by decide)]; exact hI276mt.1)
                have k304 : 0 ≤ (I296 0 42).toInt ∧ (I296 0 42).toInt ≤ 1 := by rw [fI296 0 42 (by decide)]; exact (by show 0 ≤ (I289 0 42).toInt ∧ (I289 0 42).toInt ≤ 1; rw [eI289, z_up_n (by decide)]; exact hI276mt.2)
                have k305 : 0 ≤ (I296 0 40).toInt ∧ (I296 0 40).toInt ≤ 6199 := by rw [fI296 0 40 (by decide)]; exact (by show 0 ≤ (I289 0 40).toInt ∧ (I289 0 40).toInt ≤ 6199; rw [eI289, z_up_n (by decide)]; exact k281)
                have k306 : 0 ≤ (I296 0 15).toInt ∧ (I296 0 15).toInt ≤ 6100 := by rw [fI296 0 15 (by decide)]; exact (by show 0 ≤ (I289 0 15).toInt ∧ (I289 0 15).toInt ≤ 6100; rw [eI289, z_up_n (by decide)]; exact k282)
                have k307 : 0 ≤ (I296 0 35).toInt ∧ (I296 0 35).toInt ≤ (I296 0 34).toInt ∧ (I296 0 34).toInt ≤ (I296 0 33).toInt ∧ (I296 0 33).toInt ≤ 500 ∧ ((I296 0 36).toInt = 0 ∨ (I296 0 35).toInt + 1 ≤ (I296 0 34).toInt) := (by have q0 : (I296 0 35) = (I276 0 35) := (by rw [fI296 0 35 (by decide), eI289, z_up_n (by decide)]); have q1 : (I296 0 34) = (I276 0 34) := (by rw [fI296 0 34 (by decide), eI289, z_up_n (by decide)]); have q2 : (I296 0 33) = (I276 0 33) := (by rw [fI296 0 33 (by decide), eI289, z_up_n (by decide)]); have q3 : (I296 0 36) = (I276 0 36) := (by rw [fI296 0 36 (by decide), eI289, z_up_n (by decide)]); show 0 ≤ (I296 0 35).toInt ∧ (I296 0 35).toInt ≤ (I296 0 34).toInt ∧ (I296 0 34).toInt ≤ (I296 0 33).toInt ∧ (I296 0 33).toInt ≤ 500 ∧ ((I296 0 36).toInt = 0 ∨ (I296 0 35).toInt + 1 ≤ (I296 0 34).toInt); rw [q0, q1, q2, q3]; first | omega | decide)
                have k308 : (I296 0 35).toInt = (I276 0 35).toInt := by rw [fI296 0 35 (by decide), eI289, z_up_n (by decide)]
                have k309 : (I296 0 34).toInt = (I276 0 34).toInt := by rw [fI296 0 34 (by decide), eI289, z_up_n (by decide)]
                have k310 : (I296 0 36).toInt = (I276 0 36).toInt := by rw [fI296 0 36 (by decide), eI289, z_up_n (by decide)]
                have k311 : (I296 0 42).toInt = (I276 0 42).toInt := by rw [fI296 0 42 (by decide), eI289, z_up_n (by decide)]
                have k312 : (I296 0 39).toInt = (I276 0 39).toInt := by rw [fI296 0 39 (by decide), eI289, z_up_n (by decide)]
                have k313 : (I296 0 15).toInt = (I276 0 15).toInt := by rw [fI296 0 15 (by decide), eI289, z_up_n (by decide)]
                have k314 : (I296 0 40).toInt = (I276 0 40).toInt := by rw [fI296 0 40 (by decide), eI289, z_up_n (by decide)]
                have h315 := hp
                refine lv_goto (tgt := 311) hx hb dX12_atom_147 (by decide) ?_
                exact z_vret hx hb hr hK hS (Nat.le_of_ble_eq_true rfl) (Nat.le_of_ble_eq_true rfl) hlocks dX12_atom_311 (shM, ad, I296, J298, PM ad) hW ⟨I296, J298, rfl, ⟨(by show 0 ≤ (I296 0 31).toInt ∧ (I296 0 31).toInt ≤ 500; exact k299), (by show 0 ≤ (I296 0 33).toInt ∧ (I296 0 33).toInt ≤ 500; exact k300), (by show 0 ≤ (I296 0 34).toInt ∧ (I296 0 34).toInt ≤ 500; exact k301), (by show 0 ≤ (I296 0 35).toInt ∧ (I296 0 35).toInt ≤ 500; exact k302)⟩, ⟨(by show 0 ≤ (I296 0 36).toInt ∧ (I296 0 36).toInt ≤ 4; exact k303), (by show 0 ≤ (I296 0 42).toInt ∧ (I296 0 42).toInt ≤ 1; exact k304)⟩, ⟨(by show 0 ≤ (I296 0 47).toInt ∧ (I296 0 47).toInt ≤ 119; exact hI296md.1), (by show 0 ≤ (I296 0 39).toInt ∧ (I296 0 39).toInt ≤ 100; exact hI296md.2)⟩, (by show 0 ≤ (I296 0 40).toInt ∧ (I296 0 40).toInt ≤ 6199; exact k305), (by show 0 ≤ (I296 0 15).toInt ∧ (I296 0 15).toInt ≤ 6100; exact k306), (z_Nd_fr a291 fI296 (by decide)), (by show 0 ≤ (I296 0 35).toInt ∧ (I296 0 35).toInt ≤ (I296 0 34).toInt ∧ (I296 0 34).toInt ≤ (I296 0 33).toInt ∧ (I296 0 33).toInt ≤ 500 ∧ ((I296 0 36).toInt = 0 ∨ (I296 0 35).toInt + 1 ≤ (I296 0 34).toInt); first | omega | decide), f297, ((Classical.em ((I296 0 42).toInt = 0)).elim (fun hw9 => Or.inr ⟨a1.toNatClampNeg + 2, by have w1 := z_fw_20 (a := va.toInt) (o := vo.toInt) (by omega); have w2 := z_fo_2n (a := va.toInt) (by omega); have w3 := z_fw_2n (a := 2) (o := vo.toInt) (by omega); have w4 := z_fo_2y (a := 2) (by omega); have w5 := z_fw_00 (a := 0) (o := -1) (by omega); have w6 := z_rk_2; have w7 := z_rk_0; exact z_PUSH (d := a1.toNatClampNeg) (w := 2) (a := 2) (o := vo.toInt) (s := 7) (wi := 0) hPS (fun i hi => ⟨by rw [eI289, z_up_n (by decide), fI276 26 i (z_wr_c (by decide)), fI255 26 i (z_wr_c (by decide)), eI252, z_up_n (by decide)], by rw [eI289, z_up_k (by omega), fI276 27 i (z_wr_c (by decide)), fI255 27 i (z_wr_c (by decide)), eI252, z_up_n (by decide)], by rw [eI289, z_up_n (by decide), fI276 28 i (z_wr_c (by decide)), fI255 28 i (z_wr_c (by decide)), eI252, z_up_n (by decide)], by rw [eI289, z_up_n (by decide), fI276 29 i (z_wr_c (by decide)), fI255 29 i (z_wr_c (by decide)), eI252, z_up_k (by omega)]⟩) (by rw [show I289 26 a1.toNatClampNeg = vw from (by rw [eI289, z_up_n (by decide), fI276 26 a1.toNatClampNeg (z_wr_c (by decide)), fI255 26 a1.toNatClampNeg (z_wr_c (by decide)), eI252, z_up_n (by decide)]; exact evw.symm)]; exact hvw) (by rw [show I289 27 a1.toNatClampNeg = 2 from (by rw [eI289, z_up_s])]; exact z_l2) (by rw [show I289 28 a1.toNatClampNeg = vo from (by rw [eI289, z_up_n (by decide), fI276 28 a1.toNatClampNeg (z_wr_c (by decide)), fI255 28 a1.toNatClampNeg (z_wr_c (by decide)), eI252, z_up_n (by decide)]; exact evo.symm)]) (by rw [show I289 29 a1.toNatClampNeg = 7 from (by rw [eI289, z_up_n (by decide), fI276 29 a1.toNatClampNeg (z_wr_c (by decide)), fI255 29 a1.toNatClampNeg (z_wr_c (by decide)), eI252, z_up_s])]; exact z_l7) (by unfold z_fv; omega) hwd (by rw [eI289, z_up_n (by decide)]; omega) h315 z_l0 (by omega) (by omega) (by omega) (by omega) (by omega) (by omega) (by omega) (by omega)⟩) Or.inl)⟩
        · refine lv_if_ne (tgt := 88) hx hb dX12_atom_75 (by decide) (fun c316 => absurd (by decide) c316) (fun c316 => ?_)
          refine lv_aload_n hx hb dX12_atom_78 rfl (lv_at hl 0 rfl) ?_
          refine lv_ldc2 (v := 267347) hx hb hown (hts (.constantLong RX12 381 (267347)) (me_s (me_l (me_l (List.mem_of_getElem? (i := 4) rfl))))) dX12_atom_79 ?_
          refine z_ci hW hS hA (va_runV (As := [.long 267347]) (rest := []) ⟨hx, hb, hml, hown, hts⟩ (sx_X12_isWord l G ad I J ⟨(by show 0 ≤ (I 0 36).toInt ∧ (I 0 36).toInt ≤ 4; exact hmt.1), (by show 0 ≤ (I 0 42).toInt ∧ (I 0 42).toInt ≤ 1; exact hmt.2)⟩ 267347 _) (cwV 1 hts gX12_atom_X12_isWord rfl rfl rfl hy_X12_isWord ⟨Nat.le_of_ble_eq_true rfl, Nat.le_of_ble_eq_true rfl⟩) (z_preV (i := 0) hK hW rfl rfl) rfl rfl hl.1 rfl (lv_room (Nat.le_of_ble_eq_true rfl)) dX12_atom_82 ⟨Nat.le_of_ble_eq_true rfl, Nat.le_of_ble_eq_true rfl⟩) (fun r u1 H locs hp hW hS => ?_)
          obtain ⟨e9, hp⟩ := hp
          rw [e9] at hW
          rcases hp with ⟨rfl, h317⟩ | rfl
          · have h318 : (I 0 35).toInt + 1 ≤ (I 0 34).toInt := by omega
            refine lv_if_eq (tgt := 150) hx hb dX12_atom_85 (by decide) (fun c319 => absurd c319 (by decide)) (fun c319 => ?_)
            refine lv_aload_n hx hb dX12_atom_88 rfl (lv_at hl 0 rfl) ?_
            refine z_get (T := TX12) (N := 96) (ci := 12) (i := 0) (v := .ref (ad 29)) hx hb hts zj_X12_atom_X12 hown hK hW rfl rfl 46 (by decide) (hts (.fieldLink RX12 100 "PetrolBoardModel" "sort" "[I") (me_s (me_l (me_l (List.mem_of_getElem? (i := 5) rfl))))) (fun _ h => h) rfl dX12_atom_89 ?_
            refine lv_iload_n hx hb dX12_atom_92 rfl (lv_at hl 1 rfl) ?_
            refine lv_aload_n hx hb dX12_atom_93 rfl (lv_at hl 0 rfl) ?_
            refine lv_ldc2 (v := 6476969) hx hb hown (hts (.constantLong RX12 375 (6476969)) (me_s (me_l (me_l (List.mem_of_getElem? (i := 3) rfl))))) dX12_atom_94 ?_
            refine z_ci hW hS hA (va_runV (As := [.long 6476969]) (rest := [.int a1, .ref (ad 29)]) ⟨hx, hb, hml, hown, hts⟩ (sx_X12_isWord l G ad I J ⟨(by show 0 ≤ (I 0 36).toInt ∧ (I 0 36).toInt ≤ 4; exact hmt.1), (by show 0 ≤ (I 0 42).toInt ∧ (I 0 42).toInt ≤ 1; exact hmt.2)⟩ 6476969 _) (cwV 1 hts gX12_atom_X12_isWord rfl rfl rfl hy_X12_isWord ⟨Nat.le_of_ble_eq_true rfl, Nat.le_of_ble_eq_true rfl⟩) (z_preV (i := 0) hK hW rfl rfl) rfl rfl hl.1 rfl (lv_room (Nat.le_of_ble_eq_true rfl)) dX12_atom_97 ⟨Nat.le_of_ble_eq_true rfl, Nat.le_of_ble_eq_true rfl⟩) (fun r u1 H locs hp hW hS => ?_)
            obtain ⟨e9, hp⟩ := hp
            rw [e9] at hW
            rcases hp with ⟨rfl, h320⟩ | rfl
            · have h321 : (I 0 35).toInt + 1 ≤ (I 0 34).toInt := by omega
              refine lv_if_eq (tgt := 108) hx hb dX12_atom_100 (by decide) (fun c322 => absurd c322 (by decide)) (fun c322 => ?_)
              refine lv_bipush (v := 6) hx hb dX12_atom_103 (by decide) ?_
              refine lv_goto (tgt := 110) hx hb dX12_atom_105 (by decide) ?_
              refine z_iast (i := 29) hx hb hK hW hS rfl (z_ix rfl (by omega) (by omega)) dX12_atom_110 (fun H locs hz1 hW hS => ?_)
              obtain ⟨I323, eI323⟩ : ∃ K : z_I, K = z_up I 29 a1.toNatClampNeg 6 := ⟨_, rfl⟩
              rw [← eI323] at hW
              have f324 := z_fr_a z_fr_0 (show z_wa L_X12_atom 29 = true by decide) eI323
              have a325 := z_Nd_n hNd (by decide) eI323
              refine lv_aload_n hx hb dX12_atom_111 rfl (lv_at hl 0 rfl) ?_
              refine z_cv hW hS hA (va_runV (As := []) (rest := []) ⟨hx, hb, hml, hown, hts⟩ (sx_X12_opens l G ad I323 J ⟨(by show 0 ≤ (I323 0 31).toInt ∧ (I323 0 31).toInt ≤ 500; rw [eI323, z_up_n (by decide)]; exact hmp.1), (by show 0 ≤ (I323 0 33).toInt ∧ (I323 0 33).toInt ≤ 500; rw [eI323, z_up_n (by decide)]; exact hmp.2.1), (by show 0 ≤ (I323 0 34).toInt ∧ (I323 0 34).toInt ≤ 500; rw [eI323, z_up_n (by decide)]; exact hmp.2.2.1), (by show 0 ≤ (I323 0 35).toInt ∧ (I323 0 35).toInt ≤ 500; rw [eI323, z_up_n (by decide)]; exact hmp.2.2.2)⟩ ⟨(by show 0 ≤ (I323 0 36).toInt ∧ (I323 0 36).toInt ≤ 4; rw [eI323, z_up_n (by decide)]; exact hmt.1), (by show 0 ≤ (I323 0 42).toInt ∧ (I323 0 42).toInt ≤ 1; rw [eI323, z_up_n (by decide)]; exact hmt.2)⟩ (by have q0 : (I323 0 35) = (I 0 35) := (by rw [eI323, z_up_n (by decide)]); have q1 : (I323 0 34) = (I 0 34) := (by rw [eI323, z_up_n (by decide)]); have q2 : (I323 0 33) = (I 0 33) := (by rw [eI323, z_up_n (by decide)]); have q3 : (I323 0 36) = (I 0 36) := (by rw [eI323, z_up_n (by decide)]); show 0 ≤ (I323 0 35).toInt ∧ (I323 0 35).toInt ≤ (I323 0 34).toInt ∧ (I323 0 34).toInt ≤ (I323 0 33).toInt ∧ (I323 0 33).toInt ≤ 500 ∧ ((I323 0 36).toInt = 0 ∨ (I323 0 35).toInt + 1 ≤ (I323 0 34).toInt); rw [q0, q1, q2, q3]; first | omega | decide) ⟨(by show 0 ≤ (I323 0 47).toInt ∧ (I323 0 47).toInt ≤ 119; rw [eI323, z_up_n (by decide)]; exact hmd.1), (by show 0 ≤ (I323 0 39).toInt ∧ (I323 0 39).toInt ≤ 100; rw [eI323, z_up_n (by decide)]; exact hmd.2)⟩  (by have q0 : (I323 0 39) = (I 0 39) := (by rw [eI323, z_up_n (by decide)]); show (I323 0 39).toInt ≤ 9; rw [q0]; omega) _) (cwV 0 hts gX12_atom_X12_opens rfl rfl rfl hy_X12_opens ⟨Nat.le_of_ble_eq_true rfl, Nat.le_of_ble_eq_true rfl⟩) (z_preV (i := 0) hK hW rfl rfl) rfl rfl hl.1 rfl (lv_room (Nat.le_of_ble_eq_true rfl)) dX12_atom_112 ⟨Nat.le_of_ble_eq_true rfl, Nat.le_of_ble_eq_true rfl⟩) (fun u1 H locs hp hW hS => ?_)
              obtain ⟨I326, J328, e9, hI326mp, hI326mt, hI326rp, hI326md, fI326, hp⟩ := hp
              rw [e9] at hW
              have f327 := z_fr_sub (L := L_X12_atom) f324 fI326 (by decide)
              have k329 : 0 ≤ (I326 0 40).toInt ∧ (I326 0 40).toInt ≤ 6199 := by rw [fI326 0 40 (by decide)]; exact (by show 0 ≤ (I323 0 40).toInt ∧ (I323 0 40).toInt ≤ 6199; rw [eI323, z_up_n (by decide)]; exact hmg)
              have k330 : 0 ≤ (I326 0 15).toInt ∧ (I326 0 15).toInt ≤ 6100 := by rw [fI326 0 15 (by decide)]; exact (by show 0 ≤ (I323 0 15).toInt ∧ (I323 0 15).toInt ≤ 6100; rw [eI323, z_up_n (by decide)]; exact hmn)
              have k331 : 0 ≤ (I326 0 35).toInt ∧ (I326 0 35).toInt ≤ (I326 0 34).toInt ∧ (I326 0 34).toInt ≤ (I326 0 33).toInt ∧ (I326 0 33).toInt ≤ 500 ∧ ((I326 0 36).toInt = 0 ∨ (I326 0 35).toInt + 1 ≤ (I326 0 34).toInt) := hI326rp
              have k332 : (I326 0 47).toInt = (I 0 47).toInt := by rw [fI326 0 47 (by decide), eI323, z_up_n (by decide)]
              have k333 : (I326 0 15).toInt = (I 0 15).toInt := by rw [fI326 0 15 (by decide), eI323, z_up_n (by decide)]
              have k334 : (I326 0 40).toInt = (I 0 40).toInt := by rw [fI326 0 40 (by decide), eI323, z_up_n (by decide)]
              obtain ⟨h335, h336, h337⟩ := hp
              rw [show (I323 0 39) = (I 0 39) from by rw [eI323, z_up_n (by decide)]] at h335
              rw [show (I323 0 34) = (I 0 34) from by rw [eI323, z_up_n (by decide)]] at h336
              rw [show (I323 0 39) = (I 0 39) from by rw [eI323, z_up_n (by decide)]] at h337
              refine lv_aload_n hx hb dX12_atom_115 rfl (lv_at hl 0 rfl) ?_
              have r338 : 0 ≤ (I326 0 42).toInt ∧ (I326 0 42).toInt ≤ 1 := hI326mt.2
              refine z_get (T := TX12) (N := 96) (ci := 12) (i := 0) (v := .int (I326 0 42)) hx hb hts zj_X12_atom_X12 hown hK hW rfl rfl 42 (by decide) (hts (.fieldLink RX12 294 "PetrolBoardModel" "isWrong" "Z") (me_s (me_l (me_l (List.mem_of_getElem? (i := 6) rfl))))) (fun _ h => h) rfl dX12_atom_116 ?_
              refine lv_if_ne (tgt := 128) hx hb dX12_atom_119 (by decide) (fun c339 => ?_) (fun c339 => ?_)
              · have g340 := z_f_ne rfl z_l0 c339
                refine lv_aload_n hx hb dX12_atom_128 rfl (lv_at hl 0 rfl) ?_
                refine z_get (T := TX12) (N := 96) (ci := 12) (i := 0) (v := .ref (ad 27)) hx hb hts zj_X12_atom_X12 hown hK hW rfl rfl 44 (by decide) (hts (.fieldLink RX12 94 "PetrolBoardModel" "at" "[I") (me_s (me_l (me_l (List.mem_of_getElem? (i := 0) rfl))))) (fun _ h => h) rfl dX12_atom_129 ?_
                refine lv_iload_n hx hb dX12_atom_132 rfl (lv_at hl 1 rfl) ?_
                refine lv_iconst (v := 2) hx hb dX12_atom_133 (by decide) ?_
                refine z_iast (i := 27) hx hb hK hW hS rfl (z_ix rfl (by omega) (by omega)) dX12_atom_134 (fun H locs hz1 hW hS => ?_)
                obtain ⟨I341, eI341⟩ : ∃ K : z_I, K = z_up I326 27 a1.toNatClampNeg 2 := ⟨_, rfl⟩
                rw [← eI341] at hW
                have f342 := z_fr_a f327 (show z_wa L_X12_atom 27 = true by decide) eI341
                have a343 := z_Nd_n (z_Nd_fr a325 fI326 (by decide)) (by decide) eI341
                refine lv_aload_n hx hb dX12_atom_135 rfl (lv_at hl 0 rfl) ?_
                refine z_get (T := TX12) (N := 96) (ci := 12) (i := 0) (v := .int (I326 0 42)) hx hb hts zj_X12_atom_X12 hown hK hW rfl rfl 42 (by decide) (hts (.fieldLink RX12 294 "PetrolBoardModel" "isWrong" "Z") (me_s (me_l (me_l (List.mem_of_getElem? (i := 6) rfl))))) (fun _ h => h) (congrArg Value.int (by rw [eI341, z_up_n (by decide)])) dX12_atom_136 ?_
                refine lv_if_ne (tgt := 311) hx hb dX12_atom_139 (by decide) (fun c344 => ?_) (fun c344 => (by have g := z_f_eq rfl z_l0 c344; omega))
                have g345 := z_f_ne rfl z_l0 c344
                exact z_vret hx hb hr hK hS (Nat.le_of_ble_eq_true rfl) (Nat.le_of_ble_eq_true rfl) hlocks dX12_atom_311 (shM, ad, I341, J328, PM ad) hW ⟨I341, J328, rfl, ⟨(by show 0 ≤ (I341 0 31).toInt ∧ (I341 0 31).toInt ≤ 500; rw [eI341, z_up_n (by decide)]; exact hI326mp.1), (by show 0 ≤ (I341 0 33).toInt ∧ (I341 0 33).toInt ≤ 500; rw [eI341, z_up_n (by decide)]; exact hI326mp.2.1), (by show 0 ≤ (I341 0 34).toInt ∧ (I341 0 34).toInt ≤ 500; rw [eI341, z_up_n (by decide)]; exact hI326mp.2.2.1), (by show 0 ≤ (I341 0 35).toInt ∧ (I341 0 35).toInt ≤ 500; rw [eI341, z_up_n (by decide)]; exact hI326mp.2.2.2)⟩, ⟨(by show 0 ≤ (I341 0 36).toInt ∧ (I341 0 36).toInt ≤ 4; rw [eI341, z_up_n (by decide)]; exact hI326mt.1), (by show 0 ≤ (I341 0 42).toInt ∧ (I341 0 42).toInt ≤ 1; rw [eI341, z_up_n (by decide)]; exact hI326mt.2)⟩, ⟨(by show 0 ≤ (I341 0 47).toInt ∧ (I341 0 47).toInt ≤ 119; rw [eI341, z_up_n (by decide)]; exact hI326md.1), (by show 0 ≤ (I341 0 39).toInt ∧ (I341 0 39).toInt ≤ 100; rw [eI341, z_up_n (by decide)]; exact hI326md.2)⟩, (by show 0 ≤ (I341 0 40).toInt ∧ (I341 0 40).toInt ≤ 6199; rw [eI341, z_up_n (by decide)]; exact k329), (by show 0 ≤ (I341 0 15).toInt ∧ (I341 0 15).toInt ≤ 6100; rw [eI341, z_up_n (by decide)]; exact k330), a343, (by have q0 : (I341 0 35) = (I326 0 35) := (by rw [eI341, z_up_n (by decide)]); have q1 : (I341 0 34) = (I326 0 34) := (by rw [eI341, z_up_n (by decide)]); have q2 : (I341 0 33) = (I326 0 33) := (by rw [eI341, z_up_n (by decide)]); have q3 : (I341 0 36) = (I326 0 36) := (by rw [eI341, z_up_n (by decide)]); show 0 ≤ (I341 0 35).toInt ∧ (I341 0 35).toInt ≤ (I341 0 34).toInt ∧ (I341 0 34).toInt ≤ (I341 0 33).toInt ∧ (I341 0 33).toInt ≤ 500 ∧ ((I341 0 36).toInt = 0 ∨ (I341 0 35).toInt + 1 ≤ (I341 0 34).toInt); rw [q0, q1, q2, q3]; first | omega | decide), f342, (Or.inl (by have q0 : (I341 0 42) = (I326 0 42) := (by rw [eI341, z_up_n (by decide)]); show ¬ (I341 0 42).toInt = 0; rw [q0]; omega))⟩
              · have g346 := z_f_eq rfl z_l0 c339
                refine lv_aload_n hx hb dX12_atom_122 rfl (lv_at hl 0 rfl) ?_
                refine lv_bipush (v := 40) hx hb dX12_atom_123 (by decide) ?_
                refine z_cv hW hS hA (va_runV (As := [.int 40]) (rest := []) ⟨hx, hb, hml, hown, hts⟩ (sx_X12_must l G ad I326 J328 ⟨(by show 0 ≤ (I326 0 31).toInt ∧ (I326 0 31).toInt ≤ 500; exact hI326mp.1), (by show 0 ≤ (I326 0 33).toInt ∧ (I326 0 33).toInt ≤ 500; exact hI326mp.2.1), (by show 0 ≤ (I326 0 34).toInt ∧ (I326 0 34).toInt ≤ 500; exact hI326mp.2.2.1), (by show 0 ≤ (I326 0 35).toInt ∧ (I326 0 35).toInt ≤ 500; exact hI326mp.2.2.2)⟩ ⟨(by show 0 ≤ (I326 0 36).toInt ∧ (I326 0 36).toInt ≤ 4; exact hI326mt.1), (by show 0 ≤ (I326 0 42).toInt ∧ (I326 0 42).toInt ≤ 1; exact hI326mt.2)⟩ (by show 0 ≤ (I326 0 35).toInt ∧ (I326 0 35).toInt ≤ (I326 0 34).toInt ∧ (I326 0 34).toInt ≤ (I326 0 33).toInt ∧ (I326 0 33).toInt ≤ 500 ∧ ((I326 0 36).toInt = 0 ∨ (I326 0 35).toInt + 1 ≤ (I326 0 34).toInt); first | omega | decide) 40 _) (cwV 1 hts gX12_atom_X12_must rfl rfl rfl hy_X12_must ⟨Nat.le_of_ble_eq_true rfl, Nat.le_of_ble_eq_true rfl⟩) (z_preV (i := 0) hK hW rfl rfl) rfl rfl hl.1 rfl (lv_room (Nat.le_of_ble_eq_true rfl)) dX12_atom_125 ⟨Nat.le_of_ble_eq_true rfl, Nat.le_of_ble_eq_true rfl⟩) (fun u1 H locs hp hW hS => ?_)
                obtain ⟨I347, J349, e9, hI347mp, hI347mt, hI347rp, fI347, hp⟩ := hp
                rw [e9] at hW
                have f348 := z_fr_sub (L := L_X12_atom) f327 fI347 (by decide)
                have k350 : 0 ≤ (I347 0 47).toInt ∧ (I347 0 47).toInt ≤ 119 := by rw [fI347 0 47 (by decide)]; exact (by show 0 ≤ (I326 0 47).toInt ∧ (I326 0 47).toInt ≤ 119; exact hI326md.1)
                have k351 : 0 ≤ (I347 0 39).toInt ∧ (I347 0 39).toInt ≤ 100 := by rw [fI347 0 39 (by decide)]; exact (by show 0 ≤ (I326 0 39).toInt ∧ (I326 0 39).toInt ≤ 100; exact hI326md.2)
                have k352 : 0 ≤ (I347 0 40).toInt ∧ (I347 0 40).toInt ≤ 6199 := by rw [fI347 0 40 (by decide)]; exact (by show 0 ≤ (I326 0 40).toInt ∧ (I326 0 40).toInt ≤ 6199; exact k329)
                have k353 : 0 ≤ (I347 0 15).toInt ∧ (I347 0 15).toInt ≤ 6100 := by rw [fI347 0 15 (by decide)]; exact (by show 0 ≤ (I326 0 15).toInt ∧ (I326 0 15).toInt ≤ 6100; exact k330)
                have k354 : 0 ≤ (I347 0 35).toInt ∧ (I347 0 35).toInt ≤ (I347 0 34).toInt ∧ (I347 0 34).toInt ≤ (I347 0 33).toInt ∧ (I347 0 33).toInt ≤ 500 ∧ ((I347 0 36).toInt = 0 ∨ (I347 0 35).toInt + 1 ≤ (I347 0 34).toInt) := hI347rp
                have k355 : (I347 0 47).toInt = (I326 0 47).toInt := by rw [fI347 0 47 (by decide)]
                have k356 : (I347 0 39).toInt = (I326 0 39).toInt := by rw [fI347 0 39 (by decide)]
                have k357 : (I347 0 15).toInt = (I326 0 15).toInt := by rw [fI347 0 15 (by decide)]
                have k358 : (I347 0 40).toInt = (I326 0 40).toInt := by rw [fI347 0 40 (by decide)]
                have h359 := hp
                refine lv_aload_n hx hb dX12_atom_128 rfl (lv_at hl 0 rfl) ?_
                refine z_get (T := TX12) (N := 96) (ci := 12) (i := 0) (v := .ref (ad 27)) hx hb hts zj_X12_atom_X12 hown hK hW rfl rfl 44 (by decide) (hts (.fieldLink RX12 94 "PetrolBoardModel" "at" "[I") (me_s (me_l (me_l (List.mem_of_getElem? (i := 0) rfl))))) (fun _ h => h) rfl dX12_atom_129 ?_
                refine lv_iload_n hx hb dX12_atom_132 rfl (lv_at hl 1 rfl) ?_
                refine lv_iconst (v := 2) hx hb dX12_atom_133 (by decide) ?_
                refine z_iast (i := 27) hx hb hK hW hS rfl (z_ix rfl (by omega) (by omega)) dX12_atom_134 (fun H locs hz1 hW hS => ?_)
                obtain ⟨I360, eI360⟩ : ∃ K : z_I, K = z_up I347 27 a1.toNatClampNeg 2 := ⟨_, rfl⟩
                rw [← eI360] at hW
                have f361 := z_fr_a f348 (show z_wa L_X12_atom 27 = true by decide) eI360
                have a362 := z_Nd_n (z_Nd_fr (z_Nd_fr a325 fI326 (by decide)) fI347 (by decide)) (by decide) eI360
                refine lv_aload_n hx hb dX12_atom_135 rfl (lv_at hl 0 rfl) ?_
                have r363 : 0 ≤ (I347 0 42).toInt ∧ (I347 0 42).toInt ≤ 1 := hI347mt.2
                refine z_get (T := TX12) (N := 96) (ci := 12) (i := 0) (v := .int (I347 0 42)) hx hb hts zj_X12_atom_X12 hown hK hW rfl rfl 42 (by decide) (hts (.fieldLink RX12 294 "PetrolBoardModel" "isWrong" "Z") (me_s (me_l (me_l (List.mem_of_getElem? (i := 6) rfl))))) (fun _ h => h) (congrArg Value.int (by rw [eI360, z_up_n (by decide)])) dX12_atom_136 ?_
                refine lv_if_ne (tgt := 311) hx hb dX12_atom_139 (by decide) (fun c364 => ?_) (fun c364 => ?_)
                · have g365 := z_f_ne rfl z_l0 c364
                  exact z_vret hx hb hr hK hS (Nat.le_of_ble_eq_true rfl) (Nat.le_of_ble_eq_true rfl) hlocks dX12_atom_311 (shM, ad, I360, J349, PM ad) hW ⟨I360, J349, rfl, ⟨(by show 0 ≤ (I360 0 31).toInt ∧ (I360 0 31).toInt ≤ 500; rw [eI360, z_up_n (by decide)]; exact hI347mp.1), (by show 0 ≤ (I360 0 33).toInt ∧ (I360 0 33).toInt ≤ 500; rw [eI360, z_up_n (by decide)]; exact hI347mp.2.1), (by show 0 ≤ (I360 0 34).toInt ∧ (I360 0 34).toInt ≤ 500; rw [eI360, z_up_n (by decide)]; exact hI347mp.2.2.1), (by show 0 ≤ (I360 0 35).toInt ∧ (I360 0 35).toInt ≤ 500; rw [eI360, z_up_n (by decide)]; exact hI347mp.2.2.2)⟩, ⟨(by show 0 ≤ (I360 0 36).toInt ∧ (I360 0 36).toInt ≤ 4; rw [eI360, z_up_n (by decide)]; exact hI347mt.1), (by show 0 ≤ (I360 0 42).toInt ∧ (I360 0 42).toInt ≤ 1; rw [eI360, z_up_n (by decide)]; exact hI347mt.2)⟩, ⟨(by show 0 ≤ (I360 0 47).toInt ∧ (I360 0 47).toInt ≤ 119; rw [eI360, z_up_n (by decide)]; exact k350), (by show 0 ≤ (I360 0 39).toInt ∧ (I360 0 39).toInt ≤ 100; rw [eI360, z_up_n (by decide)]; exact k351)⟩, (by show 0 ≤ (I360 0 40).toInt ∧ (I360 0 40).toInt ≤ 6199; rw [eI360, z_up_n (by decide)]; exact k352), (by show 0 ≤ (I360 0 15).toInt ∧ (I360 0 15).toInt ≤ 6100; rw [eI360, z_up_n (by decide)]; exact k353), a362, (by have q0 : (I360 0 35) = (I347 0 35) := (by rw [eI360, z_up_n (by decide)]); have q1 : (I360 0 34) = (I347 0 34) := (by rw [eI360, z_up_n (by decide)]); have q2 : (I360 0 33) = (I347 0 33) := (by rw [eI360, z_up_n (by decide)]); have q3 : (I360 0 36) = (I347 0 36) := (by rw [eI360, z_up_n (by decide)]); show 0 ≤ (I360 0 35).toInt ∧ (I360 0 35).toInt ≤ (I360 0 34).toInt ∧ (I360 0 34).toInt ≤ (I360 0 33).toInt ∧ (I360 0 33).toInt ≤ 500 ∧ ((I360 0 36).toInt = 0 ∨ (I360 0 35).toInt + 1 ≤ (I360 0 34).toInt); rw [q0, q1, q2, q3]; first | omega | decide), f361, (Or.inl (by have q0 : (I360 0 42) = (I347 0 42) := (by rw [eI360, z_up_n (by decide)]); show ¬ (I360 0 42).toInt = 0; rw [q0]; omega))⟩
                · have g366 := z_f_eq rfl z_l0 c364
                  refine lv_aload_n hx hb dX12_atom_142 rfl (lv_at hl 0 rfl) ?_
                  refine lv_iconst (v := 0) hx hb dX12_atom_143 (by decide) ?_
                  refine z_cv hW hS hA (va_runV (As := [.int 0]) (rest := []) ⟨hx, hb, hml, hown, hts⟩ (sx_X12_begin l G ad I360 J349 ⟨(by show 0 ≤ (I360 0 47).toInt ∧ (I360 0 47).toInt ≤ 119; rw [eI360, z_up_n (by decide)]; exact k350), (by show 0 ≤ (I360 0 39).toInt ∧ (I360 0 39).toInt ≤ 100; rw [eI360, z_up_n (by decide)]; exact k351)⟩ 0 (by have q0 : (I360 0 47) = (I347 0 47) := (by rw [eI360, z_up_n (by decide)]); show (I360 0 47).toInt ≤ 118; rw [q0]; omega) _) (cwV 1 hts gX12_atom_X12_begin rfl rfl rfl hy_X12_begin ⟨Nat.le_of_ble_eq_true rfl, Nat.le_of_ble_eq_true rfl⟩) (z_preV (i := 0) hK hW rfl rfl) rfl rfl hl.1 rfl (lv_room (Nat.le_of_ble_eq_true rfl)) dX12_atom_144 ⟨Nat.le_of_ble_eq_true rfl, Nat.le_of_ble_eq_true rfl⟩) (fun u1 H locs hp hW hS => ?_)
                  obtain ⟨I367, J369, e9, hI367md, fI367, hp⟩ := hp
                  rw [e9] at hW
                  have f368 := z_fr_sub (L := L_X12_atom) f361 fI367 (by decide)
                  have k370 : 0 ≤ (I367 0 31).toInt ∧ (I367 0 31).toInt ≤ 500 := by rw [fI367 0 31 (by decide)]; exact (by show 0 ≤ (I360 0 31).toInt ∧ (I360 0 31).toInt ≤ 500; rw [eI360, z_up_n (by decide)]; exact hI347mp.1)
                  have k371 : 0 ≤ (I367 0 33).toInt ∧ (I367 0 33).toInt ≤ 500 := by rw [fI367 0 33 (by decide)]; exact (by show 0 ≤ (I360 0 33).toInt ∧ (I360 0 33).toInt ≤ 500; rw [eI360, z_up_n (by decide)]; exact hI347mp.2.1)
                  have k372 : 0 ≤ (I367 0 34).toInt ∧ (I367 0 34).toInt ≤ 500 := by rw [fI367 0 34 (by decide)]; exact (by show 0 ≤ (I360 0 34).toInt ∧ (I360 0 34).toInt ≤ 500; rw [eI360, z_up_n (by decide)]; exact hI347mp.2.2.1)
                  have k373 : 0 ≤ (I367 0 35).toInt ∧ (I367 0 35).toInt ≤ 500 := by rw [fI367 0 35 (by decide)]; exact (by show 0 ≤ (I360 0 35).toInt ∧ (I360 0 35).toInt ≤ 500; rw [eI360, z_up_n (by decide)]; exact hI347mp.2.2.2)
                  have k374 : 0 ≤ (I367 0 36).toInt ∧ (I367 0 36).toInt ≤ 4 := by rw [fI367 0 36 (by decide)]; exact (by show 0 ≤ (I360 0 36).toInt ∧ (I360 0 36).toInt ≤ 4; rw [eI360, z_up_n (by decide)]; exact hI347mt.1)
                  have k375 : 0 ≤ (I367 0 42).toInt ∧ (I367 0 42).toInt ≤ 1 := by rw [fI367 0 42 (by decide)]; exact (by show 0 ≤ (I360 0 42).toInt ∧ (I360 0 42).toInt ≤ 1; rw [eI360, z_up_n (by decide)]; exact hI347mt.2)
                  have k376 : 0 ≤ (I367 0 40).toInt ∧ (I367 0 40).toInt ≤ 6199 := by rw [fI367 0 40 (by decide)]; exact (by show 0 ≤ (I360 0 40).toInt ∧ (I360 0 40).toInt ≤ 6199; rw [eI360, z_up_n (by decide)]; exact k352)
                  have k377 : 0 ≤ (I367 0 15).toInt ∧ (I367 0 15).toInt ≤ 6100 := by rw [fI367 0 15 (by decide)]; exact (by show 0 ≤ (I360 0 15).toInt ∧ (I360 0 15).toInt ≤ 6100; rw [eI360, z_up_n (by decide)]; exact k353)
                  have k378 : 0 ≤ (I367 0 35).toInt ∧ (I367 0 35).toInt ≤ (I367 0 34).toInt ∧ (I367 0 34).toInt ≤ (I367 0 33).toInt ∧ (I367 0 33).toInt ≤ 500 ∧ ((I367 0 36).toInt = 0 ∨ (I367 0 35).toInt + 1 ≤ (I367 0 34).toInt) := (by have q0 : (I367 0 35) = (I347 0 35) := (by rw [fI367 0 35 (by decide), eI360, z_up_n (by decide)]); have q1 : (I367 0 34) = (I347 0 34) := (by rw [fI367 0 34 (by decide), eI360, z_up_n (by decide)]); have q2 : (I367 0 33) = (I347 0 33) := (by rw [fI367 0 33 (by decide), eI360, z_up_n (by decide)]); have q3 : (I367 0 36) = (I347 0 36) := (by rw [fI367 0 36 (by decide), eI360, z_up_n (by decide)]); show 0 ≤ (I367 0 35).toInt ∧ (I367 0 35).toInt ≤ (I367 0 34).toInt ∧ (I367 0 34).toInt ≤ (I367 0 33).toInt ∧ (I367 0 33).toInt ≤ 500 ∧ ((I367 0 36).toInt = 0 ∨ (I367 0 35).toInt + 1 ≤ (I367 0 34).toInt); rw [q0, q1, q2, q3]; first | omega | decide)
                  have k379 : (I367 0 35).toInt = (I347 0 35).toInt := by rw [fI367 0 35 (by decide), eI360, z_up_n (by decide)]
                  have k380 : (I367 0 34).toInt = (I347 0 34).toInt := by rw [fI367 0 34 (by decide), eI360, z_up_n (by decide)]
                  have k381 : (I367 0 36).toInt = (I347 0 36).toInt := by rw [fI367 0 36 (by decide), eI360, z_up_n (by decide)]
                  have k382 : (I367 0 42).toInt = (I347 0 42).toInt := by rw [fI367 0 42 (by decide), eI360, z_up_n (by decide)]
                  have k383 : (I367 0 39).toInt = (I347 0 39).toInt := by rw [fI367 0 39 (by decide), eI360, z_up_n (by decide)]
                  have k384 : (I367 0 15).toInt = (I347 0 15).toInt := by rw [fI367 0 15 (by decide), eI360, z_up_n (by decide)]
                  have k385 : (I367 0 40).toInt = (I347 0 40).toInt := by rw [fI367 0 40 (by decide), eI360, z_up_n (by decide)]
                  have h386 := hp
                  refine lv_goto (tgt := 311) hx hb dX12_atom_147 (by decide) ?_
                  exact z_vret hx hb hr hK hS (Nat.le_of_ble_eq_true rfl) (Nat.le_of_ble_eq_true rfl) hlocks dX12_atom_311 (shM, ad, I367, J369, PM ad) hW ⟨I367, J369, rfl, ⟨(by show 0 ≤ (I367 0 31).toInt ∧ (I367 0 31).toInt ≤ 500; exact k370), (by show 0 ≤ (I367 0 33).toInt ∧ (I367 0 33).toInt ≤ 500; exact k371), (by show 0 ≤ (I367 0 34).toInt ∧ (I367 0 34).toInt ≤ 500; exact k372), (by show 0 ≤ (I367 0 35).toInt ∧ (I367 0 35).toInt ≤ 500; exact k373)⟩, ⟨(by show 0 ≤ (I367 0 36).toInt ∧ (I367 0 36).toInt ≤ 4; exact k374), (by show 0 ≤ (I367 0 42).toInt ∧ (I367 0 42).toInt ≤ 1; exact k375)⟩, ⟨(by show 0 ≤ (I367 0 47).toInt ∧ (I367 0 47).toInt ≤ 119; exact hI367md.1), (by show 0 ≤ (I367 0 39).toInt ∧ (I367 0 39).toInt ≤ 100; exact hI367md.2)⟩, (by show 0 ≤ (I367 0 40).toInt ∧ (I367 0 40).toInt ≤ 6199; exact k376), (by show 0 ≤ (I367 0 15).toInt ∧ (I367 0 15).toInt ≤ 6100; exact k377), (z_Nd_fr a362 fI367 (by decide)), (by show 0 ≤ (I367 0 35).toInt ∧ (I367 0 35).toInt ≤ (I367 0 34).toInt ∧ (I367 0 34).toInt ≤ (I367 0 33).toInt ∧ (I367 0 33).toInt ≤ 500 ∧ ((I367 0 36).toInt = 0 ∨ (I367 0 35).toInt + 1 ≤ (I367 0 34).toInt); first | omega | decide), f368, ((Classical.em ((I367 0 42).toInt = 0)).elim (fun hw9 => Or.inr ⟨a1.toNatClampNeg + 2, by have w1 := z_fw_20 (a := va.toInt) (o := vo.toInt) (by omega); have w2 := z_fo_2n (a := va.toInt) (by omega); have w3 := z_fw_2n (a := 2) (o := vo.toInt) (by omega); have w4 := z_fo_2y (a := 2) (by omega); have w5 := z_fw_00 (a := 0) (o := -1) (by omega); have w6 := z_rk_2; have w7 := z_rk_0; exact z_PUSH (d := a1.toNatClampNeg) (w := 2) (a := 2) (o := vo.toInt) (s := 6) (wi := 0) hPS (fun i hi => ⟨by rw [eI360, z_up_n (by decide), fI347 26 i (z_wr_c (by decide)), fI326 26 i (z_wr_c (by decide)), eI323, z_up_n (by decide)], by rw [eI360, z_up_k (by omega), fI347 27 i (z_wr_c (by decide)), fI326 27 i (z_wr_c (by decide)), eI323, z_up_n (by decide)], by rw [eI360, z_up_n (by decide), fI347 28 i (z_wr_c (by decide)), fI326 28 i (z_wr_c (by decide)), eI323, z_up_n (by decide)], by rw [eI360, z_up_n (by decide), fI347 29 i (z_wr_c (by decide)), fI326 29 i (z_wr_c (by decide)), eI323, z_up_k (by omega)]⟩) (by rw [show I360 26 a1.toNatClampNeg = vw from (by rw [eI360, z_up_n (by decide), fI347 26 a1.toNatClampNeg (z_wr_c (by decide)), fI326 26 a1.toNatClampNeg (z_wr_c (by decide)), eI323, z_up_n (by decide)]; exact evw.symm)]; exact hvw) (by rw [show I360 27 a1.toNatClampNeg = 2 from (by rw [eI360, z_up_s])]; exact z_l2) (by rw [show I360 28 a1.toNatClampNeg = vo from (by rw [eI360, z_up_n (by decide), fI347 28 a1.toNatClampNeg (z_wr_c (by decide)), fI326 28 a1.toNatClampNeg (z_wr_c (by decide)), eI323, z_up_n (by decide)]; exact evo.symm)]) (by rw [show I360 29 a1.toNatClampNeg = 6 from (by rw [eI360, z_up_n (by decide), fI347 29 a1.toNatClampNeg (z_wr_c (by decide)), fI326 29 a1.toNatClampNeg (z_wr_c (by decide)), eI323, z_up_s])]; exact z_l6) (by unfold z_fv; omega) hwd (by rw [eI360, z_up_n (by decide)]; omega) h386 z_l0 (by omega) (by omega) (by omega) (by omega) (by omega) (by omega) (by omega) (by omega)⟩) Or.inl)⟩
            · refine lv_if_eq (tgt := 108) hx hb dX12_atom_100 (by decide) (fun c387 => ?_) (fun c387 => absurd (by decide) c387)
              refine lv_bipush (v := 7) hx hb dX12_atom_108 (by decide) ?_
              refine z_iast (i := 29) hx hb hK hW hS rfl (z_ix rfl (by omega) (by omega)) dX12_atom_110 (fun H locs hz1 hW hS => ?_)
              obtain ⟨I388, eI388⟩ : ∃ K : z_I, K = z_up I 29 a1.toNatClampNeg 7 := ⟨_, rfl⟩
              rw [← eI388] at hW
              have f389 := z_fr_a z_fr_0 (show z_wa L_X12_atom 29 = true by decide) eI388
              have a390 := z_Nd_n hNd (by decide) eI388
              refine lv_aload_n hx hb dX12_atom_111 rfl (lv_at hl 0 rfl) ?_
              refine z_cv hW hS hA (va_runV (As := []) (rest := []) ⟨hx, hb, hml, hown, hts⟩ (sx_X12_opens l G ad I388 J ⟨(by show 0 ≤ (I388 0 31).toInt ∧ (I388 0 31).toInt ≤ 500; rw [eI388, z_up_n (by decide)]; exact hmp.1), (by show 0 ≤ (I388 0 33).toInt ∧ (I388 0 33).toInt ≤ 500; rw [eI388, z_up_n (by decide)]; exact hmp.2.1), (by show 0 ≤ (I388 0 34).toInt ∧ (I388 0 34).toInt ≤ 500; rw [eI388, z_up_n (by decide)]; exact hmp.2.2.1), (by show 0 ≤ (I388 0 35).toInt ∧ (I388 0 35).toInt ≤ 500; rw [eI388, z_up_n (by decide)]; exact hmp.2.2.2)⟩ ⟨(by show 0 ≤ (I388 0 36).toInt ∧ (I388 0 36).toInt ≤ 4; rw [eI388, z_up_n (by decide)]; exact hmt.1), (by show 0 ≤ (I388 0 42).toInt ∧ (I388 0 42).toInt ≤ 1; rw [eI388, z_up_n (by decide)]; exact hmt.2)⟩ (by have q0 : (I388 0 35) = (I 0 35) := (by rw [eI388, z_up_n (by decide)]); have q1 : (I388 0 34) = (I 0 34) := (by rw [eI388, z_up_n (by decide)]); have q2 : (I388 0 33) = (I 0 33) := (by rw [eI388, z_up_n (by decide)]); have q3 : (I388 0 36) = (I 0 36) := (by rw [eI388, z_up_n (by decide)]); show 0 ≤ (I388 0 35).toInt ∧ (I388 0 35).toInt ≤ (I388 0 34).toInt ∧ (I388 0 34).toInt ≤ (I388 0 33).toInt ∧ (I388 0 33).toInt ≤ 500 ∧ ((I388 0 36).toInt = 0 ∨ (I388 0 35).toInt + 1 ≤ (I388 0 34).toInt); rw [q0, q1, q2, q3]; first | omega | decide) ⟨(by show 0 ≤ (I388 0 47).toInt ∧ (I388 0 47).toInt ≤ 119; rw [eI388, z_up_n (by decide)]; exact hmd.1), (by show 0 ≤ (I388 0 39).toInt ∧ (I388 0 39).toInt ≤ 100; rw [eI388, z_up_n (by decide)]; exact hmd.2)⟩  (by have q0 : (I388 0 39) = (I 0 39) := (by rw [eI388, z_up_n (by decide)]); show (I388 0 39).toInt ≤ 9; rw [q0]; omega) _) (cwV 0 hts gX12_atom_X12_opens rfl rfl rfl hy_X12_opens ⟨Nat.le_of_ble_eq_true rfl, Nat.le_of_ble_eq_true rfl⟩) (z_preV (i := 0) hK hW rfl rfl) rfl rfl hl.1 rfl (lv_room (Nat.le_of_ble_eq_true rfl)) dX12_atom_112 ⟨Nat.le_of_ble_eq_true rfl, Nat.le_of_ble_eq_true rfl⟩) (fun u1 H locs hp hW hS => ?_)
              obtain ⟨I391, J393, e9, hI391mp, hI391mt, hI391rp, hI391md, fI391, hp⟩ := hp
              rw [e9] at hW
              have f392 := z_fr_sub (L := L_X12_atom) f389 fI391 (by decide)
              have k394 : 0 ≤ (I391 0 40).toInt ∧ (I391 0 40).toInt ≤ 6199 := by rw [fI391 0 40 (by decide)]; exact (by show 0 ≤ (I388 0 40).toInt ∧ (I388 0 40).toInt ≤ 6199; rw [eI388, z_up_n (by decide)]; exact hmg)
              have k395 : 0 ≤ (I391 0 15).toInt ∧ (I391 0 15).toInt ≤ 6100 := by rw [fI391 0 15 (by decide)]; exact (by show 0 ≤ (I388 0 15).toInt ∧ (I388 0 15).toInt ≤ 6100; rw [eI388, z_up_n (by decide)]; exact hmn)
              have k396 : 0 ≤ (I391 0 35).toInt ∧ (I391 0 35).toInt ≤ (I391 0 34).toInt ∧ (I391 0 34).toInt ≤ (I391 0 33).toInt ∧ (I391 0 33).toInt ≤ 500 ∧ ((I391 0 36).toInt = 0 ∨ (I391 0 35).toInt + 1 ≤ (I391 0 34).toInt) := hI391rp
              have k397 : (I391 0 47).toInt = (I 0 47).toInt := by rw [fI391 0 47 (by decide), eI388, z_up_n (by decide)]
              have k398 : (I391 0 15).toInt = (I 0 15).toInt := by rw [fI391 0 15 (by decide), eI388, z_up_n (by decide)]
              have k399 : (I391 0 40).toInt = (I 0 40).toInt := by rw [fI391 0 40 (by decide), eI388, z_up_n (by decide)]
              obtain ⟨h400, h401, h402⟩ := hp
              rw [show (I388 0 39) = (I 0 39) from by rw [eI388, z_up_n (by decide)]] at h400
              rw [show (I388 0 34) = (I 0 34) from by rw [eI388, z_up_n (by decide)]] at h401
              rw [show (I388 0 39) = (I 0 39) from by rw [eI388, z_up_n (by decide)]] at h402
              refine lv_aload_n hx hb dX12_atom_115 rfl (lv_at hl 0 rfl) ?_
              have r403 : 0 ≤ (I391 0 42).toInt ∧ (I391 0 42).toInt ≤ 1 := hI391mt.2
              refine z_get (T := TX12) (N := 96) (ci := 12) (i := 0) (v := .int (I391 0 42)) hx hb hts zj_X12_atom_X12 hown hK hW rfl rfl 42 (by decide) (hts (.fieldLink RX12 294 "PetrolBoardModel" "isWrong" "Z") (me_s (me_l (me_l (List.mem_of_getElem? (i := 6) rfl))))) (fun _ h => h) rfl dX12_atom_116 ?_
              refine lv_if_ne (tgt := 128) hx hb dX12_atom_119 (by decide) (fun c404 => ?_) (fun c404 => ?_)
              · have g405 := z_f_ne rfl z_l0 c404
                refine lv_aload_n hx hb dX12_atom_128 rfl (lv_at hl 0 rfl) ?_
                refine z_get (T := TX12) (N := 96) (ci := 12) (i := 0) (v := .ref (ad 27)) hx hb hts zj_X12_atom_X12 hown hK hW rfl rfl 44 (by decide) (hts (.fieldLink RX12 94 "PetrolBoardModel" "at" "[I") (me_s (me_l (me_l (List.mem_of_getElem? (i := 0) rfl))))) (fun _ h => h) rfl dX12_atom_129 ?_
                refine lv_iload_n hx hb dX12_atom_132 rfl (lv_at hl 1 rfl) ?_
                refine lv_iconst (v := 2) hx hb dX12_atom_133 (by decide) ?_
                refine z_iast (i := 27) hx hb hK hW hS rfl (z_ix rfl (by omega) (by omega)) dX12_atom_134 (fun H locs hz1 hW hS => ?_)
                obtain ⟨I406, eI406⟩ : ∃ K : z_I, K = z_up I391 27 a1.toNatClampNeg 2 := ⟨_, rfl⟩
                rw [← eI406] at hW
                have f407 := z_fr_a f392 (show z_wa L_X12_atom 27 = true by decide) eI406
                have a408 := z_Nd_n (z_Nd_fr a390 fI391 (by decide)) (by decide) eI406
                refine lv_aload_n hx hb dX12_atom_135 rfl (lv_at hl 0 rfl) ?_
                refine z_get (T := TX12) (N := 96) (ci := 12) (i := 0) (v := .int (I391 0 42)) hx hb hts zj_X12_atom_X12 hown hK hW rfl rfl 42 (by decide) (hts (.fieldLink RX12 294 "PetrolBoardModel" "isWrong" "Z") (me_s (me_l (me_l (List.mem_of_getElem? (i := 6) rfl))))) (fun _ h => h) (congrArg Value.int (by rw [eI406, z_up_n (by decide)])) dX12_atom_136 ?_
                refine lv_if_ne (tgt := 311) hx hb dX12_atom_139 (by decide) (fun c409 => ?_) (fun c409 => (by have g := z_f_eq rfl z_l0 c409; omega))
                have g410 := z_f_ne rfl z_l0 c409
                exact z_vret hx hb hr hK hS (Nat.le_of_ble_eq_true rfl) (Nat.le_of_ble_eq_true rfl) hlocks dX12_atom_311 (shM, ad, I406, J393, PM ad) hW ⟨I406, J393, rfl, ⟨(by show 0 ≤ (I406 0 31).toInt ∧ (I406 0 31).toInt ≤ 500; rw [eI406, z_up_n (by decide)]; exact hI391mp.1), (by show 0 ≤ (I406 0 33).toInt ∧ (I406 0 33).toInt ≤ 500; rw [eI406, z_up_n (by decide)]; exact hI391mp.2.1), (by show 0 ≤ (I406 0 34).toInt ∧ (I406 0 34).toInt ≤ 500; rw [eI406, z_up_n (by decide)]; exact hI391mp.2.2.1), (by show 0 ≤ (I406 0 35).toInt ∧ (I406 0 35).toInt ≤ 500; rw [eI406, z_up_n (by decide)]; exact hI391mp.2.2.2)⟩, ⟨(by show 0 ≤ (I406 0 36).toInt ∧ (I406 0 36).toInt ≤ 4; rw [eI406, z_up_n (by decide)]; exact hI391mt.1), (by show 0 ≤ (I406 0 42).toInt ∧ (I406 0 42).toInt ≤ 1; rw [eI406, z_up_n (by decide)]; exact hI391mt.2)⟩, ⟨(by show 0 ≤ (I406 0 47).toInt ∧ (I406 0 47).toInt ≤ 119; rw [eI406, z_up_n (by decide)]; exact hI391md.1), (by show 0 ≤ (I406 0 39).toInt ∧ (I406 0 39).toInt ≤ 100; rw [eI406, z_up_n (by decide)]; exact hI391md.2)⟩, (by show 0 ≤ (I406 0 40).toInt ∧ (I406 0 40).toInt ≤ 6199; rw [eI406, z_up_n (by decide)]; exact k394), (by show 0 ≤ (I406 0 15).toInt ∧ (I406 0 15).toInt ≤ 6100; rw [eI406, z_up_n (by decide)]; exact k395), a408, (by have q0 : (I406 0 35) = (I391 0 35) := (by rw [eI406, z_up_n (by decide)]); have q1 : (I406 0 34) = (I391 0 34) := (by rw [eI406, z_up_n (by decide)]); have q2 : (I406 0 33) = (I391 0 33) := (by rw [eI406, z_up_n (by decide)]); have q3 : (I406 0 36) = (I391 0 36) := (by rw [eI406, z_up_n (by decide)]); show 0 ≤ (I406 0 35).toInt ∧ (I406 0 35).toInt ≤ (I406 0 34).toInt ∧ (I406 0 34).toInt ≤ (I406 0 33).toInt ∧ (I406 0 33).toInt ≤ 500 ∧ ((I406 0 36).toInt = 0 ∨ (I406 0 35).toInt + 1 ≤ (I406 0 34).toInt); rw [q0, q1, q2, q3]; first | omega | decide), f407, (Or.inl (by have q0 : (I406 0 42) = (I391 0 42) := (by rw [eI406, z_up_n (by decide)]); show ¬ (I406 0 42).toInt = 0; rw [q0]; omega))⟩
              · have g411 := z_f_eq rfl z_l0 c404
                refine lv_aload_n hx hb dX12_atom_122 rfl (lv_at hl 0 rfl) ?_
                refine lv_bipush (v := 40) hx hb dX12_atom_123 (by decide) ?_
                refine z_cv hW hS hA (va_runV (As := [.int 40]) (rest := []) ⟨hx, hb, hml, hown, hts⟩ (sx_X12_must l G ad I391 J393 ⟨(by show 0 ≤ (I391 0 31).toInt ∧ (I391 0 31).toInt ≤ 500; exact hI391mp.1), (by show 0 ≤ (I391 0 33).toInt ∧ (I391 0 33).toInt ≤ 500; exact hI391mp.2.1), (by show 0 ≤ (I391 0 34).toInt ∧ (I391 0 34).toInt ≤ 500; exact hI391mp.2.2.1), (by show 0 ≤ (I391 0 35).toInt ∧ (I391 0 35).toInt ≤ 500; exact hI391mp.2.2.2)⟩ ⟨(by show 0 ≤ (I391 0 36).toInt ∧ (I391 0 36).toInt ≤ 4; exact hI391mt.1), (by show 0 ≤ (I391 0 42).toInt ∧ (I391 0 42).toInt ≤ 1; exact hI391mt.2)⟩ (by show 0 ≤ (I391 0 35).toInt ∧ (I391 0 35).toInt ≤ (I391 0 34).toInt ∧ (I391 0 34).toInt ≤ (I391 0 33).toInt ∧ (I391 0 33).toInt ≤ 500 ∧ ((I391 0 36).toInt = 0 ∨ (I391 0 35).toInt + 1 ≤ (I391 0 34).toInt); first | omega | decide) 40 _) (cwV 1 hts gX12_atom_X12_must rfl rfl rfl hy_X12_must ⟨Nat.le_of_ble_eq_true rfl, Nat.le_of_ble_eq_true rfl⟩) (z_preV (i := 0) hK hW rfl rfl) rfl rfl hl.1 rfl (lv_room (Nat.le_of_ble_eq_true rfl)) dX12_atom_125 ⟨Nat.le_of_ble_eq_true rfl, Nat.le_of_ble_eq_true rfl⟩) (fun u1 H locs hp hW hS => ?_)
                obtain ⟨I412, J414, e9, hI412mp, hI412mt, hI412rp, fI412, hp⟩ := hp
                rw [e9] at hW
                have f413 := z_fr_sub (L := L_X12_atom) f392 fI412 (by decide)
                have k415 : 0 ≤ (I412 0 47).toInt ∧ (I412 0 47).toInt ≤ 119 := by rw [fI412 0 47 (by decide)]; exact (by show 0 ≤ (I391 0 47).toInt ∧ (I391 0 47).toInt ≤ 119; exact hI391md.1)
                have k416 : 0 ≤ (I412 0 39).toInt ∧ (I412 0 39).toInt ≤ 100 := by rw [fI412 0 39 (by decide)]; exact (by show 0 ≤ (I391 0 39).toInt ∧ (I391 0 39).toInt ≤ 100; exact hI391md.2)
                have k417 : 0 ≤ (I412 0 40).toInt ∧ (I412 0 40).toInt ≤ 6199 := by rw [fI412 0 40 (by decide)]; exact (by show 0 ≤ (I391 0 40).toInt ∧ (I391 0 40).toInt ≤ 6199; exact k394)
                have k418 : 0 ≤ (I412 0 15).toInt ∧ (I412 0 15).toInt ≤ 6100 := by rw [fI412 0 15 (by decide)]; exact (by show 0 ≤ (I391 0 15).toInt ∧ (I391 0 15).toInt ≤ 6100; exact k395)
                have k419 : 0 ≤ (I412 0 35).toInt ∧ (I412 0 35).toInt ≤ (I412 0 34).toInt ∧ (I412 0 34).toInt ≤ (I412 0 33).toInt ∧ (I412 0 33).toInt ≤ 500 ∧ ((I412 0 36).toInt = 0 ∨ (I412 0 35).toInt + 1 ≤ (I412 0 34).toInt) := hI412rp
                have k420 : (I412 0 47).toInt = (I391 0 47).toInt := by rw [fI412 0 47 (by decide)]
                have k421 : (I412 0 39).toInt = (I391 0 39).toInt := by rw [fI412 0 39 (by decide)]
                have k422 : (I412 0 15).toInt = (I391 0 15).toInt := by rw [fI412 0 15 (by decide)]
                have k423 : (I412 0 40).toInt = (I391 0 40).toInt := by rw [fI412 0 40 (by decide)]
                have h424 := hp
                refine lv_aload_n hx hb dX12_atom_128 rfl (lv_at hl 0 rfl) ?_
                refine z_get (T := TX12) (N := 96) (ci := 12) (i := 0) (v := .ref (ad 27)) hx hb hts zj_X12_atom_X12 hown hK hW rfl rfl 44 (by decide) (hts (.fieldLink RX12 94 "PetrolBoardModel" "at" "[I") (me_s (me_l (me_l (List.mem_of_getElem? (i := 0) rfl))))) (fun _ h => h) rfl dX12_atom_129 ?_
                refine lv_iload_n hx hb dX12_atom_132 rfl (lv_at hl 1 rfl) ?_
                refine lv_iconst (v := 2) hx hb dX12_atom_133 (by decide) ?_
                refine z_iast (i := 27) hx hb hK hW hS rfl (z_ix rfl (by omega) (by omega)) dX12_atom_134 (fun H locs hz1 hW hS => ?_)
                obtain ⟨I425, eI425⟩ : ∃ K : z_I, K = z_up I412 27 a1.toNatClampNeg 2 := ⟨_, rfl⟩
                rw [← eI425] at hW
                have f426 := z_fr_a f413 (show z_wa L_X12_atom 27 = true by decide) eI425
                have a427 := z_Nd_n (z_Nd_fr (z_Nd_fr a390 fI391 (by decide)) fI412 (by decide)) (by decide) eI425
                refine lv_aload_n hx hb dX12_atom_135 rfl (lv_at hl 0 rfl) ?_
                have r428 : 0 ≤ (I412 0 42).toInt ∧ (I412 0 42).toInt ≤ 1 := hI412mt.2
                refine z_get (T := TX12) (N := 96) (ci := 12) (i := 0) (v := .int (I412 0 42)) hx hb hts zj_X12_atom_X12 hown hK hW rfl rfl 42 (by decide) (hts (.fieldLink RX12 294 "PetrolBoardModel" "isWrong" "Z") (me_s (me_l (me_l (List.mem_of_getElem? (i := 6) rfl))))) (fun _ h => h) (congrArg Value.int (by rw [eI425, z_up_n (by decide)])) dX12_atom_136 ?_
                refine lv_if_ne (tgt := 311) hx hb dX12_atom_139 (by decide) (fun c429 => ?_) (fun c429 => ?_)
                · have g430 := z_f_ne rfl z_l0 c429
                  exact z_vret hx hb hr hK hS (Nat.le_of_ble_eq_true rfl) (Nat.le_of_ble_eq_true rfl) hlocks dX12_atom_311 (shM, ad, I425, J414, PM ad) hW ⟨I425, J414, rfl, ⟨(by show 0 ≤ (I425 0 31).toInt ∧ (I425 0 31).toInt ≤ 500; rw [eI425, z_up_n (by decide)]; exact hI412mp.1), (by show 0 ≤ (I425 0 33).toInt ∧ (I425 0 33).toInt ≤ 500; rw [eI425, z_up_n (by decide)]; exact hI412mp.2.1), (by show 0 ≤ (I425 0 34).toInt ∧ (I425 0 34).toInt ≤ 500; rw [eI425, z_up_n (by decide)]; exact hI412mp.2.2.1), (by show 0 ≤ (I425 0 35).toInt ∧ (I425 0 35).toInt ≤ 500; rw [eI425, z_up_n (by decide)]; exact hI412mp.2.2.2)⟩, ⟨(by show 0 ≤ (I425 0 36).toInt ∧ (I425 0 36).toInt ≤ 4; rw [eI425, z_up_n (by decide)]; exact hI412mt.1), (by show 0 ≤ (I425 0 42).toInt ∧ (I425 0 42).toInt ≤ 1; rw [eI425, z_up_n (by decide)]; exact hI412mt.2)⟩, ⟨(by show 0 ≤ (I425 0 47).toInt ∧ (I425 0 47).toInt ≤ 119; rw [eI425, z_up_n (by decide)]; exact k415), (by show 0 ≤ (I425 0 39).toInt ∧ (I425 0 39).toInt ≤ 100; rw [eI425, z_up_n (by decide)]; exact k416)⟩, (by show 0 ≤ (I425 0 40).toInt ∧ (I425 0 40).toInt ≤ 6199; rw [eI425, z_up_n (by decide)]; exact k417), (by show 0 ≤ (I425 0 15).toInt ∧ (I425 0 15).toInt ≤ 6100; rw [eI425, z_up_n (by decide)]; exact k418), a427, (by have q0 : (I425 0 35) = (I412 0 35) := (by rw [eI425, z_up_n (by decide)]); have q1 : (I425 0 34) = (I412 0 34) := (by rw [eI425, z_up_n (by decide)]); have q2 : (I425 0 33) = (I412 0 33) := (by rw [eI425, z_up_n (by decide)]); have q3 : (I425 0 36) = (I412 0 36) := (by rw [eI425, z_up_n (by decide)]); show 0 ≤ (I425 0 35).toInt ∧ (I425 0 35).toInt ≤ (I425 0 34).toInt ∧ (I425 0 34).toInt ≤ (I425 0 33).toInt ∧ (I425 0 33).toInt ≤ 500 ∧ ((I425 0 36).toInt = 0 ∨ (I425 0 35).toInt + 1 ≤ (I425 0 34).toInt); rw [q0, q1, q2, q3]; first | omega | decide), f426, (Or.inl (by have q0 : (I425 0 42) = (I412 0 42) := (by rw [eI425, z_up_n (by decide)]); show ¬ (I425 0 42).toInt = 0; rw [q0]; omega))⟩
                · have g431 := z_f_eq rfl z_l0 c429
                  refine lv_aload_n hx hb dX12_atom_142 rfl (lv_at hl 0 rfl) ?_
                  refine lv_iconst (v := 0) hx hb dX12_atom_143 (by decide) ?_
                  refine z_cv hW hS hA (va_runV (As := [.int 0]) (rest := []) ⟨hx, hb, hml, hown, hts⟩ (sx_X12_begin l G ad I425 J414 ⟨(by show 0 ≤ (I425 0 47).toInt ∧ (I425 0 47).toInt ≤ 119; rw [eI425, z_up_n (by decide)]; exact k415), (by show 0 ≤ (I425 0 39).toInt ∧ (I425 0 39).toInt ≤ 100; rw [eI425, z_up_n (by decide)]; exact k416)⟩ 0 (by have q0 : (I425 0 47) = (I412 0 47) := (by rw [eI425, z_up_n (by decide)]); show (I425 0 47).toInt ≤ 118; rw [q0]; omega) _) (cwV 1 hts gX12_atom_X12_begin rfl rfl rfl hy_X12_begin ⟨Nat.le_of_ble_eq_true rfl, Nat.le_of_ble_eq_true rfl⟩) (z_preV (i := 0) hK hW rfl rfl) rfl rfl hl.1 rfl (lv_room (Nat.le_of_ble_eq_true rfl)) dX12_atom_144 ⟨Nat.le_of_ble_eq_true rfl, Nat.le_of_ble_eq_true rfl⟩) (fun u1 H locs hp hW hS => ?_)
                  obtain ⟨I432, J434, e9, hI432md, fI432, hp⟩ := hp
                  rw [e9] at hW
                  have f433 := z_fr_sub (L := L_X12_atom) f426 fI432 (by decide)
                  have k435 : 0 ≤ (I432 0 31).toInt ∧ (I432 0 31).toInt ≤ 500 := by rw [fI432 0 31 (by decide)]; exact (by show 0 ≤ (I425 0 31).toInt ∧ (I425 0 31).toInt ≤ 500; rw [eI425, z_up_n (by decide)]; exact hI412mp.1)
                  have k436 : 0 ≤ (I432 0 33).toInt ∧ (I432 0 33).toInt ≤ 500 := by rw [fI432 0 33 (by decide)]; exact (by show 0 ≤ (I425 0 33).toInt ∧ (I425 0 33).toInt ≤ 500; rw [eI425, z_up_n (by decide)]; exact hI412mp.2.1)
                  have k437 : 0 ≤ (I432 0 34).toInt ∧ (I432 0 34).toInt ≤ 500 := by rw [fI432 0 34 (by decide)]; exact (by show 0 ≤ (I425 0 34).toInt ∧ (I425 0 34).toInt ≤ 500; rw [eI425, z_up_n (by decide)]; exact hI412mp.2.2.1)
                  have k438 : 0 ≤ (I432 0 35).toInt ∧ (I432 0 35).toInt ≤ 500 := by rw [fI432 0 35 (by decide)]; exact (by show 0 ≤ (I425 0 35).toInt ∧ (I425 0 35).toInt ≤ 500; rw [eI425, z_up_n (by decide)]; exact hI412mp.2.2.2)
                  have k439 : 0 ≤ (I432 0 36).toInt ∧ (I432 0 36).toInt ≤ 4 := by rw [fI432 0 36 (by decide)]; exact (by show 0 ≤ (I425 0 36).toInt ∧ (I425 0 36).toInt ≤ 4; rw [eI425, z_up_n (by decide)]; exact hI412mt.1)
                  have k440 : 0 ≤ (I432 0 42).toInt ∧ (I432 0 42).toInt ≤ 1 := by rw [fI432 0 42 (by decide)]; exact (by show 0 ≤ (I425 0 42).toInt ∧ (I425 0 42).toInt ≤ 1; rw [eI425, z_up_n (by decide)]; exact hI412mt.2)
                  have k441 : 0 ≤ (I432 0 40).toInt ∧ (I432 0 40).toInt ≤ 6199 := by rw [fI432 0 40 (by decide)]; exact (by show 0 ≤ (I425 0 40).toInt ∧ (I425 0 40).toInt ≤ 6199; rw [eI425, z_up_n (by decide)]; exact k417)
                  have k442 : 0 ≤ (I432 0 15).toInt ∧ (I432 0 15).toInt ≤ 6100 := by rw [fI432 0 15 (by decide)]; exact (by show 0 ≤ (I425 0 15).toInt ∧ (I425 0 15).toInt ≤ 6100; rw [eI425, z_up_n (by decide)]; exact k418)
                  have k443 : 0 ≤ (I432 0 35).toInt ∧ (I432 0 35).toInt ≤ (I432 0 34).toInt ∧ (I432 0 34).toInt ≤ (I432 0 33).toInt ∧ (I432 0 33).toInt ≤ 500 ∧ ((I432 0 36).toInt = 0 ∨ (I432 0 35).toInt + 1 ≤ (I432 0 34).toInt) := (by have q0 : (I432 0 35) = (I412 0 35) := (by rw [fI432 0 35 (by decide), eI425, z_up_n (by decide)]); have q1 : (I432 0 34) = (I412 0 34) := (by rw [fI432 0 34 (by decide), eI425, z_up_n (by decide)]); have q2 : (I432 0 33) = (I412 0 33) := (by rw [fI432 0 33 (by decide), eI425, z_up_n (by decide)]); have q3 : (I432 0 36) = (I412 0 36) := (by rw [fI432 0 36 (by decide), eI425, z_up_n (by decide)]); show 0 ≤ (I432 0 35).toInt ∧ (I432 0 35).toInt ≤ (I432 0 34).toInt ∧ (I432 0 34).toInt ≤ (I432 0 33).toInt ∧ (I432 0 33).toInt ≤ 500 ∧ ((I432 0 36).toInt = 0 ∨ (I432 0 35).toInt + 1 ≤ (I432 0 34).toInt); rw [q0, q1, q2, q3]; first | omega | decide)
                  have k444 : (I432 0 35).toInt = (I412 0 35).toInt := by rw [fI432 0 35 (by decide), eI425, z_up_n (by decide)]
                  have k445 : (I432 0 34).toInt = (I412 0 34).toInt := by rw [fI432 0 34 (by decide), eI425, z_up_n (by decide)]
                  have k446 : (I432 0 36).toInt = (I412 0 36).toInt := by rw [fI432 0 36 (by decide), eI425, z_up_n (by decide)]
                  have k447 : (I432 0 42).toInt = (I412 0 42).toInt := by rw [fI432 0 42 (by decide), eI425, z_up_n (by decide)]
                  have k448 : (I432 0 39).toInt = (I412 0 39).toInt := by rw [fI432 0 39 (by decide), eI425, z_up_n (by decide)]
                  have k449 : (I432 0 15).toInt = (I412 0 15).toInt := by rw [fI432 0 15 (by decide), eI425, z_up_n (by decide)]
                  have k450 : (I432 0 40).toInt = (I412 0 40).toInt := by rw [fI432 0 40 (by decide), eI425, z_up_n (by decide)]
                  have h451 := hp
                  refine lv_goto (tgt := 311) hx hb dX12_atom_147 (by decide) ?_
                  exact z_vret hx hb hr hK hS (Nat.le_of_ble_eq_true rfl) (Nat.le_of_ble_eq_true rfl) hlocks dX12_atom_311 (shM, ad, I432, J434, PM ad) hW ⟨I432, J434, rfl, ⟨(by show 0 ≤ (I432 0 31).toInt ∧ (I432 0 31).toInt ≤ 500; exact k435), (by show 0 ≤ (I432 0 33).toInt ∧ (I432 0 33).toInt ≤ 500; exact k436), (by show 0 ≤ (I432 0 34).toInt ∧ (I432 0 34).toInt ≤ 500; exact k437), (by show 0 ≤ (I432 0 35).toInt ∧ (I432 0 35).toInt ≤ 500; exact k438)⟩, ⟨(by show 0 ≤ (I432 0 36).toInt ∧ (I432 0 36).toInt ≤ 4; exact k439), (by show 0 ≤ (I432 0 42).toInt ∧ (I432 0 42).toInt ≤ 1; exact k440)⟩, ⟨(by show 0 ≤ (I432 0 47).toInt ∧ (I432 0 47).toInt ≤ 119; exact hI432md.1), (by show 0 ≤ (I432 0 39).toInt ∧ (I432 0 39).toInt ≤ 100; exact hI432md.2)⟩, (by show 0 ≤ (I432 0 40).toInt ∧ (I432 0 40).toInt ≤ 6199; exact k441), (by show 0 ≤ (I432 0 15).toInt ∧ (I432 0 15).toInt ≤ 6100; exact k442), (z_Nd_fr a427 fI432 (by decide)), (by show 0 ≤ (I432 0 35).toInt ∧ (I432 0 35).toInt ≤ (I432 0 34).toInt ∧ (I432 0 34).toInt ≤ (I432 0 33).toInt ∧ (I432 0 33).toInt ≤ 500 ∧ ((I432 0 36).toInt = 0 ∨ (I432 0 35).toInt + 1 ≤ (I432 0 34).toInt); first | omega | decide), f433, ((Classical.em ((I432 0 42).toInt = 0)).elim (fun hw9 => Or.inr ⟨a1.toNatClampNeg + 2, by have w1 := z_fw_20 (a := va.toInt) (o := vo.toInt) (by omega); have w2 := z_fo_2n (a := va.toInt) (by omega); have w3 := z_fw_2n (a := 2) (o := vo.toInt) (by omega); have w4 := z_fo_2y (a := 2) (by omega); have w5 := z_fw_00 (a := 0) (o := -1) (by omega); have w6 := z_rk_2; have w7 := z_rk_0; exact z_PUSH (d := a1.toNatClampNeg) (w := 2) (a := 2) (o := vo.toInt) (s := 7) (wi := 0) hPS (fun i hi => ⟨by rw [eI425, z_up_n (by decide), fI412 26 i (z_wr_c (by decide)), fI391 26 i (z_wr_c (by decide)), eI388, z_up_n (by decide)], by rw [eI425, z_up_k (by omega), fI412 27 i (z_wr_c (by decide)), fI391 27 i (z_wr_c (by decide)), eI388, z_up_n (by decide)], by rw [eI425, z_up_n (by decide), fI412 28 i (z_wr_c (by decide)), fI391 28 i (z_wr_c (by decide)), eI388, z_up_n (by decide)], by rw [eI425, z_up_n (by decide), fI412 29 i (z_wr_c (by decide)), fI391 29 i (z_wr_c (by decide)), eI388, z_up_k (by omega)]⟩) (by rw [show I425 26 a1.toNatClampNeg = vw from (by rw [eI425, z_up_n (by decide), fI412 26 a1.toNatClampNeg (z_wr_c (by decide)), fI391 26 a1.toNatClampNeg (z_wr_c (by decide)), eI388, z_up_n (by decide)]; exact evw.symm)]; exact hvw) (by rw [show I425 27 a1.toNatClampNeg = 2 from (by rw [eI425, z_up_s])]; exact z_l2) (by rw [show I425 28 a1.toNatClampNeg = vo from (by rw [eI425, z_up_n (by decide), fI412 28 a1.toNatClampNeg (z_wr_c (by decide)), fI391 28 a1.toNatClampNeg (z_wr_c (by decide)), eI388, z_up_n (by decide)]; exact evo.symm)]) (by rw [show I425 29 a1.toNatClampNeg = 7 from (by rw [eI425, z_up_n (by decide), fI412 29 a1.toNatClampNeg (z_wr_c (by decide)), fI391 29 a1.toNatClampNeg (z_wr_c (by decide)), eI388, z_up_s])]; exact z_l7) (by unfold z_fv; omega) hwd (by rw [eI425, z_up_n (by decide)]; omega) h451 z_l0 (by omega) (by omega) (by omega) (by omega) (by omega) (by omega) (by omega) (by omega)⟩) Or.inl)⟩
          · refine lv_if_eq (tgt := 150) hx hb dX12_atom_85 (by decide) (fun c452 => ?_) (fun c452 => absurd (by decide) c452)
            refine lv_aload_n hx hb dX12_atom_150 rfl (lv_at hl 0 rfl) ?_
            refine z_get (T := TX12) (N := 96) (ci := 12) (i := 0) (v := .int (I 0 36)) hx hb hts zj_X12_atom_X12 hown hK hW rfl rfl 36 (by decide) (hts (.fieldLink RX12 281 "PetrolBoardModel" "token" "I") (me_s (me_l (me_l (List.mem_of_getElem? (i := 1) rfl))))) (fun _ h => h) rfl dX12_atom_151 ?_
            refine lv_iconst (v := 1) hx hb dX12_atom_154 (by decide) ?_
            refine lv_icmp_ne (tgt := 169) hx hb dX12_atom_155 (by decide) (fun c453 => ?_) (fun c453 => ?_)
            · have g454 := z_f_ne rfl z_l1 c453
              refine lv_iconst (v := (-1)) hx hb dX12_atom_169 (by decide) ?_
              refine lv_istore_n (lv' := [(2, .int (-1)), (0, .ref (ad 0)), (1, .int a1)]) hx hb dX12_atom_170 rfl hl (by decide) rfl (fun ls hl => ?_)
              refine lv_iload_n hx hb dX12_atom_171 rfl (lv_at hl 0 rfl) ?_
              refine lv_if_ge (tgt := 180) hx hb dX12_atom_172 (by decide) (fun c455 => absurd c455 (by decide)) (fun c455 => ?_)
              refine lv_aload_n hx hb dX12_atom_175 rfl (lv_at hl 1 rfl) ?_
              refine z_cv hW hS hA (va_runV (As := []) (rest := []) ⟨hx, hb, hml, hown, hts⟩ (sx_X12_errs l G ad I J ⟨(by show 0 ≤ (I 0 36).toInt ∧ (I 0 36).toInt ≤ 4; exact hmt.1), (by show 0 ≤ (I 0 42).toInt ∧ (I 0 42).toInt ≤ 1; exact hmt.2)⟩  _) (cwV 0 hts gX12_atom_X12_errs rfl rfl rfl hy_X12_errs ⟨Nat.le_of_ble_eq_true rfl, Nat.le_of_ble_eq_true rfl⟩) (z_preV (i := 0) hK hW rfl rfl) rfl rfl hl.1 rfl (lv_room (Nat.le_of_ble_eq_true rfl)) dX12_atom_176 ⟨Nat.le_of_ble_eq_true rfl, Nat.le_of_ble_eq_true rfl⟩) (fun u1 H locs hp hW hS => ?_)
              obtain ⟨I456, J458, e9, hI456mt, fI456, hp⟩ := hp
              rw [e9] at hW
              have f457 := z_fr_sub (L := L_X12_atom) z_fr_0 fI456 (by decide)
              have k459 : 0 ≤ (I456 0 31).toInt ∧ (I456 0 31).toInt ≤ 500 := by rw [fI456 0 31 (by decide)]; exact (by show 0 ≤ (I 0 31).toInt ∧ (I 0 31).toInt ≤ 500; exact hmp.1)
              have k460 : 0 ≤ (I456 0 33).toInt ∧ (I456 0 33).toInt ≤ 500 := by rw [fI456 0 33 (by decide)]; exact (by show 0 ≤ (I 0 33).toInt ∧ (I 0 33).toInt ≤ 500; exact hmp.2.1)
              have k461 : 0 ≤ (I456 0 34).toInt ∧ (I456 0 34).toInt ≤ 500 := by rw [fI456 0 34 (by decide)]; exact (by show 0 ≤ (I 0 34).toInt ∧ (I 0 34).toInt ≤ 500; exact hmp.2.2.1)
              have k462 : 0 ≤ (I456 0 35).toInt ∧ (I456 0 35).toInt ≤ 500 := by rw [fI456 0 35 (by decide)]; exact (by show 0 ≤ (I 0 35).toInt ∧ (I 0 35).toInt ≤ 500; exact hmp.2.2.2)
              have k463 : (I456 0 36).toInt = (I 0 36).toInt := by rw [fI456 0 36 (by decide)]
              have k464 : 0 ≤ (I456 0 47).toInt ∧ (I456 0 47).toInt ≤ 119 := by rw [fI456 0 47 (by decide)]; exact (by show 0 ≤ (I 0 47).toInt ∧ (I 0 47).toInt ≤ 119; exact hmd.1)
              have k465 : 0 ≤ (I456 0 39).toInt ∧ (I456 0 39).toInt ≤ 100 := by rw [fI456 0 39 (by decide)]; exact (by show 0 ≤ (I 0 39).toInt ∧ (I 0 39).toInt ≤ 100; exact hmd.2)
              have k466 : 0 ≤ (I456 0 40).toInt ∧ (I456 0 40).toInt ≤ 6199 := by rw [fI456 0 40 (by decide)]; exact (by show 0 ≤ (I 0 40).toInt ∧ (I 0 40).toInt ≤ 6199; exact hmg)
              have k467 : 0 ≤ (I456 0 15).toInt ∧ (I456 0 15).toInt ≤ 6100 := by rw [fI456 0 15 (by decide)]; exact (by show 0 ≤ (I 0 15).toInt ∧ (I 0 15).toInt ≤ 6100; exact hmn)
              have k468 : 0 ≤ (I456 0 35).toInt ∧ (I456 0 35).toInt ≤ (I456 0 34).toInt ∧ (I456 0 34).toInt ≤ (I456 0 33).toInt ∧ (I456 0 33).toInt ≤ 500 ∧ ((I456 0 36).toInt = 0 ∨ (I456 0 35).toInt + 1 ≤ (I456 0 34).toInt) := (by have q0 : (I456 0 35) = (I 0 35) := (by rw [fI456 0 35 (by decide)]); have q1 : (I456 0 34) = (I 0 34) := (by rw [fI456 0 34 (by decide)]); have q2 : (I456 0 33) = (I 0 33) := (by rw [fI456 0 33 (by decide)]); have q3 : (I456 0 36) = (I 0 36) := (by rw [fI456 0 36 (by decide)]); show 0 ≤ (I456 0 35).toInt ∧ (I456 0 35).toInt ≤ (I456 0 34).toInt ∧ (I456 0 34).toInt ≤ (I456 0 33).toInt ∧ (I456 0 33).toInt ≤ 500 ∧ ((I456 0 36).toInt = 0 ∨ (I456 0 35).toInt + 1 ≤ (I456 0 34).toInt); rw [q0, q1, q2, q3]; first | omega | decide)
              have k469 : (I456 0 35).toInt = (I 0 35).toInt := by rw [fI456 0 35 (by decide)]
              have k470 : (I456 0 34).toInt = (I 0 34).toInt := by rw [fI456 0 34 (by decide)]
              have k471 : (I456 0 36).toInt = (I 0 36).toInt := by rw [fI456 0 36 (by decide)]
              have k472 : (I456 0 47).toInt = (I 0 47).toInt := by rw [fI456 0 47 (by decide)]
              have k473 : (I456 0 39).toInt = (I 0 39).toInt := by rw [fI456 0 39 (by decide)]
              have k474 : (I456 0 15).toInt = (I 0 15).toInt := by rw [fI456 0 15 (by decide)]
              have k475 : (I456 0 40).toInt = (I 0 40).toInt := by rw [fI456 0 40 (by decide)]
              have h476 := hp
              exact z_vret hx hb hr hK hS (Nat.le_of_ble_eq_true rfl) (Nat.le_of_ble_eq_true rfl) hlocks dX12_atom_179 (shM, ad, I456, J458, PM ad) hW ⟨I456, J458, rfl, ⟨(by show 0 ≤ (I456 0 31).toInt ∧ (I456 0 31).toInt ≤ 500; exact k459), (by show 0 ≤ (I456 0 33).toInt ∧ (I456 0 33).toInt ≤ 500; exact k460), (by show 0 ≤ (I456 0 34).toInt ∧ (I456 0 34).toInt ≤ 500; exact k461), (by show 0 ≤ (I456 0 35).toInt ∧ (I456 0 35).toInt ≤ 500; exact k462)⟩, ⟨(by show 0 ≤ (I456 0 36).toInt ∧ (I456 0 36).toInt ≤ 4; exact hI456mt.1), (by show 0 ≤ (I456 0 42).toInt ∧ (I456 0 42).toInt ≤ 1; exact hI456mt.2)⟩, ⟨(by show 0 ≤ (I456 0 47).toInt ∧ (I456 0 47).toInt ≤ 119; exact k464), (by show 0 ≤ (I456 0 39).toInt ∧ (I456 0 39).toInt ≤ 100; exact k465)⟩, (by show 0 ≤ (I456 0 40).toInt ∧ (I456 0 40).toInt ≤ 6199; exact k466), (by show 0 ≤ (I456 0 15).toInt ∧ (I456 0 15).toInt ≤ 6100; exact k467), (z_Nd_fr hNd fI456 (by decide)), (by show 0 ≤ (I456 0 35).toInt ∧ (I456 0 35).toInt ≤ (I456 0 34).toInt ∧ (I456 0 34).toInt ≤ (I456 0 33).toInt ∧ (I456 0 33).toInt ≤ 500 ∧ ((I456 0 36).toInt = 0 ∨ (I456 0 35).toInt + 1 ≤ (I456 0 34).toInt); first | omega | decide), f457, (Or.inl (by show ¬ (I456 0 42).toInt = 0; omega))⟩
            · have g477 := z_f_eq rfl z_l1 c453
              refine lv_aload_n hx hb dX12_atom_158 rfl (lv_at hl 0 rfl) ?_
              refine lv_aload_n hx hb dX12_atom_159 rfl (lv_at hl 0 rfl) ?_
              refine z_get (T := TX12) (N := 96) (ci := 12) (i := 0) (v := .long (J 0 41)) hx hb hts zj_X12_atom_X12 hown hK hW rfl rfl 41 (by decide) (hts (.fieldLink RX12 271 "PetrolBoardModel" "word" "J") (me_s (me_l (me_l (List.mem_of_getElem? (i := 7) rfl))))) (fun _ h => h) rfl dX12_atom_160 ?_
              refine z_ci hW hS hA (va_runV (As := [.long (J 0 41)]) (rest := []) ⟨hx, hb, hml, hown, hts⟩ (sx_X12_nameOf l G ad I J  (J 0 41) _) (cwV 1 hts gX12_atom_X12_nameOf rfl rfl rfl hy_X12_nameOf ⟨Nat.le_of_ble_eq_true rfl, Nat.le_of_ble_eq_true rfl⟩) (z_preV (i := 0) hK hW rfl rfl) rfl rfl hl.1 rfl (lv_room (Nat.le_of_ble_eq_true rfl)) dX12_atom_163 ⟨Nat.le_of_ble_eq_true rfl, Nat.le_of_ble_eq_true rfl⟩) (fun r u1 H locs hp hW hS => ?_)
              obtain ⟨e9, hp⟩ := hp
              rw [e9] at hW
              have hq := hp
              generalize r = x478 at hq ⊢
              have h479 := hq
              refine lv_goto (tgt := 170) hx hb dX12_atom_166 (by decide) ?_
              refine lv_istore_n (lv' := [(2, .int x478), (0, .ref (ad 0)), (1, .int a1)]) hx hb dX12_atom_170 rfl hl (by decide) rfl (fun ls hl => ?_)
              refine lv_iload_n hx hb dX12_atom_171 rfl (lv_at hl 0 rfl) ?_
              refine lv_if_ge (tgt := 180) hx hb dX12_atom_172 (by decide) (fun c480 => ?_) (fun c480 => ?_)
              · have g481 := z_f_ge rfl z_l0 c480
                refine lv_aload_n hx hb dX12_atom_180 rfl (lv_at hl 1 rfl) ?_
                refine z_cv hW hS hA (va_runV (As := []) (rest := []) ⟨hx, hb, hml, hown, hts⟩ (sx_X12_next l G ad I J ⟨(by show 0 ≤ (I 0 31).toInt ∧ (I 0 31).toInt ≤ 500; exact hmp.1), (by show 0 ≤ (I 0 33).toInt ∧ (I 0 33).toInt ≤ 500; exact hmp.2.1), (by show 0 ≤ (I 0 34).toInt ∧ (I 0 34).toInt ≤ 500; exact hmp.2.2.1), (by show 0 ≤ (I 0 35).toInt ∧ (I 0 35).toInt ≤ 500; exact hmp.2.2.2)⟩ ⟨(by show 0 ≤ (I 0 36).toInt ∧ (I 0 36).toInt ≤ 4; exact hmt.1), (by show 0 ≤ (I 0 42).toInt ∧ (I 0 42).toInt ≤ 1; exact hmt.2)⟩ (by show 0 ≤ (I 0 34).toInt ∧ (I 0 34).toInt ≤ (I 0 33).toInt ∧ (I 0 33).toInt ≤ 500; first | omega | decide)  _) (cwV 0 hts gX12_atom_X12_next rfl rfl rfl hy_X12_next ⟨Nat.le_of_ble_eq_true rfl, Nat.le_of_ble_eq_true rfl⟩) (z_preV (i := 0) hK hW rfl rfl) rfl rfl hl.1 rfl (lv_room (Nat.le_of_ble_eq_true rfl)) dX12_atom_181 ⟨Nat.le_of_ble_eq_true rfl, Nat.le_of_ble_eq_true rfl⟩) (fun u1 H locs hp hW hS => ?_)
                obtain ⟨I482, J484, e9, hI482mp, hI482mt, hI482rp, fI482, hp⟩ := hp
                rw [e9] at hW
                have f483 := z_fr_sub (L := L_X12_atom) z_fr_0 fI482 (by decide)
                have k485 : 0 ≤ (I482 0 47).toInt ∧ (I482 0 47).toInt ≤ 119 := by rw [fI482 0 47 (by decide)]; exact (by show 0 ≤ (I 0 47).toInt ∧ (I 0 47).toInt ≤ 119; exact hmd.1)
                have k486 : 0 ≤ (I482 0 39).toInt ∧ (I482 0 39).toInt ≤ 100 := by rw [fI482 0 39 (by decide)]; exact (by show 0 ≤ (I 0 39).toInt ∧ (I 0 39).toInt ≤ 100; exact hmd.2)
                have k487 : 0 ≤ (I482 0 40).toInt ∧ (I482 0 40).toInt ≤ 6199 := by rw [fI482 0 40 (by decide)]; exact (by show 0 ≤ (I 0 40).toInt ∧ (I 0 40).toInt ≤ 6199; exact hmg)
                have k488 : 0 ≤ (I482 0 15).toInt ∧ (I482 0 15).toInt ≤ 6100 := by rw [fI482 0 15 (by decide)]; exact (by show 0 ≤ (I 0 15).toInt ∧ (I 0 15).toInt ≤ 6100; exact hmn)
                have k489 : 0 ≤ (I482 0 35).toInt ∧ (I482 0 35).toInt ≤ (I482 0 34).toInt ∧ (I482 0 34).toInt ≤ (I482 0 33).toInt ∧ (I482 0 33).toInt ≤ 500 ∧ ((I482 0 36).toInt = 0 ∨ (I482 0 35).toInt + 1 ≤ (I482 0 34).toInt) := hI482rp
                have k490 : (I482 0 42).toInt = (I 0 42).toInt := by rw [fI482 0 42 (by decide)]
                have k491 : (I482 0 47).toInt = (I 0 47).toInt := by rw [fI482 0 47 (by decide)]
                have k492 : (I482 0 39).toInt = (I 0 39).toInt := by rw [fI482 0 39 (by decide)]
                have k493 : (I482 0 15).toInt = (I 0 15).toInt := by rw [fI482 0 15 (by decide)]
                have k494 : (I482 0 40).toInt = (I 0 40).toInt := by rw [fI482 0 40 (by decide)]
                have h495 := hp
                refine lv_aload_n hx hb dX12_atom_184 rfl (lv_at hl 1 rfl) ?_
                refine lv_aload_n hx hb dX12_atom_185 rfl (lv_at hl 1 rfl) ?_
                refine lv_iconst (v := 1) hx hb dX12_atom_186 (by decide) ?_
                refine lv_iload_n hx hb dX12_atom_187 rfl (lv_at hl 0 rfl) ?_
                refine lv_iconst (v := 0) hx hb dX12_atom_188 (by decide) ?_
                refine z_ci hW hS hA (va_runV (As := [.int 1, .int x478, .int 0]) (rest := [.ref (ad 0)]) ⟨hx, hb, hml, hown, hts⟩ (sx_X12_node l G ad I482 J484 (by show 0 ≤ (I482 0 15).toInt ∧ (I482 0 15).toInt ≤ 6100; exact k488) (z_Nd_fr hNd fI482 (by decide)) 1 x478 0 (by show (I482 0 15).toInt ≤ 6099; omega) (by have := z_l1; have := z_l0; first | omega | decide) (by have := z_l1; have := z_l0; first | omega | decide) (by have := z_l1; have := z_l0; first | omega | decide) _) (cwV 3 hts gX12_atom_X12_node rfl rfl rfl hy_X12_node ⟨Nat.le_of_ble_eq_true rfl, Nat.le_of_ble_eq_true rfl⟩) (z_preV (i := 0) hK hW rfl rfl) rfl rfl hl.1 rfl (lv_room (Nat.le_of_ble_eq_true rfl)) dX12_atom_189 ⟨Nat.le_of_ble_eq_true rfl, Nat.le_of_ble_eq_true rfl⟩) (fun r u1 H locs hp hW hS => ?_)
                obtain ⟨I496, J498, e9, hI496mn, hI496Nd, fI496, hp⟩ := hp
                rw [e9] at hW
                have f497 := z_fr_sub (L := L_X12_atom) f483 fI496 (by decide)
                have k499 : 0 ≤ (I496 0 31).toInt ∧ (I496 0 31).toInt ≤ 500 := by rw [fI496 0 31 (by decide)]; exact (by show 0 ≤ (I482 0 31).toInt ∧ (I482 0 31).toInt ≤ 500; exact hI482mp.1)
                have k500 : 0 ≤ (I496 0 33).toInt ∧ (I496 0 33).toInt ≤ 500 := by rw [fI496 0 33 (by decide)]; exact (by show 0 ≤ (I482 0 33).toInt ∧ (I482 0 33).toInt ≤ 500; exact hI482mp.2.1)
                have k501 : 0 ≤ (I496 0 34).toInt ∧ (I496 0 34).toInt ≤ 500 := by rw [fI496 0 34 (by decide)]; exact (by show 0 ≤ (I482 0 34).toInt ∧ (I482 0 34).toInt ≤ 500; exact hI482mp.2.2.1)
                have k502 : 0 ≤ (I496 0 35).toInt ∧ (I496 0 35).toInt ≤ 500 := by rw [fI496 0 35 (by decide)]; exact (by show 0 ≤ (I482 0 35).toInt ∧ (I482 0 35).toInt ≤ 500; exact hI482mp.2.2.2)
                have k503 : 0 ≤ (I496 0 36).toInt ∧ (I496 0 36).toInt ≤ 4 := by rw [fI496 0 36 (by decide)]; exact (by show 0 ≤ (I482 0 36).toInt ∧ (I482 0 36).toInt ≤ 4; exact hI482mt.1)
                have k504 : 0 ≤ (I496 0 42).toInt ∧ (I496 0 42).toInt ≤ 1 := by rw [fI496 0 42 (by decide)]; exact (by show 0 ≤ (I482 0 42).toInt ∧ (I482 0 42).toInt ≤ 1; exact hI482mt.2)
                have k505 : 0 ≤ (I496 0 47).toInt ∧ (I496 0 47).toInt ≤ 119 := by rw [fI496 0 47 (by decide)]; exact (by show 0 ≤ (I482 0 47).toInt ∧ (I482 0 47).toInt ≤ 119; exact k485)
                have k506 : 0 ≤ (I496 0 39).toInt ∧ (I496 0 39).toInt ≤ 100 := by rw [fI496 0 39 (by decide)]; exact (by show 0 ≤ (I482 0 39).toInt ∧ (I482 0 39).toInt ≤ 100; exact k486)
                have k507 : 0 ≤ (I496 0 40).toInt ∧ (I496 0 40).toInt ≤ 6199 := by rw [fI496 0 40 (by decide)]; exact (by show 0 ≤ (I482 0 40).toInt ∧ (I482 0 40).toInt ≤ 6199; exact k487)
                have k508 : 0 ≤ (I496 0 35).toInt ∧ (I496 0 35).toInt ≤ (I496 0 34).toInt ∧ (I496 0 34).toInt ≤ (I496 0 33).toInt ∧ (I496 0 33).toInt ≤ 500 ∧ ((I496 0 36).toInt = 0 ∨ (I496 0 35).toInt + 1 ≤ (I496 0 34).toInt) := (by have q0 : (I496 0 35) = (I482 0 35) := (by rw [fI496 0 35 (by decide)]); have q1 : (I496 0 34) = (I482 0 34) := (by rw [fI496 0 34 (by decide)]); have q2 : (I496 0 33) = (I482 0 33) := (by rw [fI496 0 33 (by decide)]); have q3 : (I496 0 36) = (I482 0 36) := (by rw [fI496 0 36 (by decide)]); show 0 ≤ (I496 0 35).toInt ∧ (I496 0 35).toInt ≤ (I496 0 34).toInt ∧ (I496 0 34).toInt ≤ (I496 0 33).toInt ∧ (I496 0 33).toInt ≤ 500 ∧ ((I496 0 36).toInt = 0 ∨ (I496 0 35).toInt + 1 ≤ (I496 0 34).toInt); rw [q0, q1, q2, q3]; first | omega | decide)
                have k509 : (I496 0 35).toInt = (I482 0 35).toInt := by rw [fI496 0 35 (by decide)]
                have k510 : (I496 0 34).toInt = (I482 0 34).toInt := by rw [fI496 0 34 (by decide)]
                have k511 : (I496 0 36).toInt = (I482 0 36).toInt := by rw [fI496 0 36 (by decide)]
                have k512 : (I496 0 42).toInt = (I482 0 42).toInt := by rw [fI496 0 42 (by decide)]
                have k513 : (I496 0 47).toInt = (I482 0 47).toInt := by rw [fI496 0 47 (by decide)]
                have k514 : (I496 0 39).toInt = (I482 0 39).toInt := by rw [fI496 0 39 (by decide)]
                have k515 : (I496 0 40).toInt = (I482 0 40).toInt := by rw [fI496 0 40 (by decide)]
                refine lv_topi (fun x516 ex516 => ?_)
                rw [← ex516] at hp
                obtain ⟨h517, h518⟩ := hp
                have h519 : 0 ≤ x516.toInt ∧ x516.toInt ≤ 6100 := (by have q9 : 0 ≤ (I482 0 15).toInt ∧ (I482 0 15).toInt ≤ 6100 := (by show 0 ≤ (I482 0 15).toInt ∧ (I482 0 15).toInt ≤ 6100; exact k488); omega)
                refine z_cv hW hS hA (va_runV (As := [.int x516]) (rest := []) ⟨hx, hb, hml, hown, hts⟩ (sx_X12_ends l G ad I496 J498 ⟨(by show 0 ≤ (I496 0 47).toInt ∧ (I496 0 47).toInt ≤ 119; exact k505), (by show 0 ≤ (I496 0 39).toInt ∧ (I496 0 39).toInt ≤ 100; exact k506)⟩ (by show 0 ≤ (I496 0 40).toInt ∧ (I496 0 40).toInt ≤ 6199; exact k507) x516 (by first | omega | decide) (by show 1 ≤ (I496 0 47).toInt; omega) _) (cwV 1 hts gX12_atom_X12_ends rfl rfl rfl hy_X12_ends ⟨Nat.le_of_ble_eq_true rfl, Nat.le_of_ble_eq_true rfl⟩) (z_preV (i := 0) hK hW rfl rfl) rfl rfl hl.1 rfl (lv_room (Nat.le_of_ble_eq_true rfl)) dX12_atom_192 ⟨Nat.le_of_ble_eq_true rfl, Nat.le_of_ble_eq_true rfl⟩) (fun u1 H locs hp hW hS => ?_)
                obtain ⟨I520, J522, e9, hI520md, hI520mg, fI520, hp⟩ := hp
                rw [e9] at hW
                have f521 := z_fr_sub (L := L_X12_atom) f497 fI520 (by decide)
                have k523 : 0 ≤ (I520 0 31).toInt ∧ (I520 0 31).toInt ≤ 500 := by rw [fI520 0 31 (by decide)]; exact (by show 0 ≤ (I496 0 31).toInt ∧ (I496 0 31).toInt ≤ 500; exact k499)
                have k524 : 0 ≤ (I520 0 33).toInt ∧ (I520 0 33).toInt ≤ 500 := by rw [fI520 0 33 (by decide)]; exact (by show 0 ≤ (I496 0 33).toInt ∧ (I496 0 33).toInt ≤ 500; exact k500)
                have k525 : 0 ≤ (I520 0 34).toInt ∧ (I520 0 34).toInt ≤ 500 := by rw [fI520 0 34 (by decide)]; exact (by show 0 ≤ (I496 0 34).toInt ∧ (I496 0 34).toInt ≤ 500; exact k501)
                have k526 : 0 ≤ (I520 0 35).toInt ∧ (I520 0 35).toInt ≤ 500 := by rw [fI520 0 35 (by decide)]; exact (by show 0 ≤ (I496 0 35).toInt ∧ (I496 0 35).toInt ≤ 500; exact k502)
                have k527 : 0 ≤ (I520 0 36).toInt ∧ (I520 0 36).toInt ≤ 4 := by rw [fI520 0 36 (by decide)]; exact (by show 0 ≤ (I496 0 36).toInt ∧ (I496 0 36).toInt ≤ 4; exact k503)
                have k528 : 0 ≤ (I520 0 42).toInt ∧ (I520 0 42).toInt ≤ 1 := by rw [fI520 0 42 (by decide)]; exact (by show 0 ≤ (I496 0 42).toInt ∧ (I496 0 42).toInt ≤ 1; exact k504)
                have k529 : 0 ≤ (I520 0 15).toInt ∧ (I520 0 15).toInt ≤ 6100 := by rw [fI520 0 15 (by decide)]; exact (by show 0 ≤ (I496 0 15).toInt ∧ (I496 0 15).toInt ≤ 6100; exact hI496mn)
                have k530 : 0 ≤ (I520 0 35).toInt ∧ (I520 0 35).toInt ≤ (I520 0 34).toInt ∧ (I520 0 34).toInt ≤ (I520 0 33).toInt ∧ (I520 0 33).toInt ≤ 500 ∧ ((I520 0 36).toInt = 0 ∨ (I520 0 35).toInt + 1 ≤ (I520 0 34).toInt) := (by have q0 : (I520 0 35) = (I496 0 35) := (by rw [fI520 0 35 (by decide)]); have q1 : (I520 0 34) = (I496 0 34) := (by rw [fI520 0 34 (by decide)]); have q2 : (I520 0 33) = (I496 0 33) := (by rw [fI520 0 33 (by decide)]); have q3 : (I520 0 36) = (I496 0 36) := (by rw [fI520 0 36 (by decide)]); show 0 ≤ (I520 0 35).toInt ∧ (I520 0 35).toInt ≤ (I520 0 34).toInt ∧ (I520 0 34).toInt ≤ (I520 0 33).toInt ∧ (I520 0 33).toInt ≤ 500 ∧ ((I520 0 36).toInt = 0 ∨ (I520 0 35).toInt + 1 ≤ (I520 0 34).toInt); rw [q0, q1, q2, q3]; first | omega | decide)
                have k531 : (I520 0 35).toInt = (I496 0 35).toInt := by rw [fI520 0 35 (by decide)]
                have k532 : (I520 0 34).toInt = (I496 0 34).toInt := by rw [fI520 0 34 (by decide)]
                have k533 : (I520 0 36).toInt = (I496 0 36).toInt := by rw [fI520 0 36 (by decide)]
                have k534 : (I520 0 42).toInt = (I496 0 42).toInt := by rw [fI520 0 42 (by decide)]
                have k535 : (I520 0 39).toInt = (I496 0 39).toInt := by rw [fI520 0 39 (by decide)]
                have k536 : (I520 0 15).toInt = (I496 0 15).toInt := by rw [fI520 0 15 (by decide)]
                have h537 := hp
                refine lv_goto (tgt := 311) hx hb dX12_atom_195 (by decide) ?_
                exact z_vret hx hb hr hK hS (Nat.le_of_ble_eq_true rfl) (Nat.le_of_ble_eq_true rfl) hlocks dX12_atom_311 (shM, ad, I520, J522, PM ad) hW ⟨I520, J522, rfl, ⟨(by show 0 ≤ (I520 0 31).toInt ∧ (I520 0 31).toInt ≤ 500; exact k523), (by show 0 ≤ (I520 0 33).toInt ∧ (I520 0 33).toInt ≤ 500; exact k524), (by show 0 ≤ (I520 0 34).toInt ∧ (I520 0 34).toInt ≤ 500; exact k525), (by show 0 ≤ (I520 0 35).toInt ∧ (I520 0 35).toInt ≤ 500; exact k526)⟩, ⟨(by show 0 ≤ (I520 0 36).toInt ∧ (I520 0 36).toInt ≤ 4; exact k527), (by show 0 ≤ (I520 0 42).toInt ∧ (I520 0 42).toInt ≤ 1; exact k528)⟩, ⟨(by show 0 ≤ (I520 0 47).toInt ∧ (I520 0 47).toInt ≤ 119; exact hI520md.1), (by show 0 ≤ (I520 0 39).toInt ∧ (I520 0 39).toInt ≤ 100; exact hI520md.2)⟩, (by show 0 ≤ (I520 0 40).toInt ∧ (I520 0 40).toInt ≤ 6199; exact hI520mg), (by show 0 ≤ (I520 0 15).toInt ∧ (I520 0 15).toInt ≤ 6100; exact k529), (z_Nd_fr hI496Nd fI520 (by decide)), (by show 0 ≤ (I520 0 35).toInt ∧ (I520 0 35).toInt ≤ (I520 0 34).toInt ∧ (I520 0 34).toInt ≤ (I520 0 33).toInt ∧ (I520 0 33).toInt ≤ 500 ∧ ((I520 0 36).toInt = 0 ∨ (I520 0 35).toInt + 1 ≤ (I520 0 34).toInt); first | omega | decide), f521, ((Classical.em ((I520 0 42).toInt = 0)).elim (fun hw9 => Or.inr ⟨a1.toNatClampNeg, by have w1 := z_fw_20 (a := va.toInt) (o := vo.toInt) (by omega); have w2 := z_fo_2n (a := va.toInt) (by omega); exact z_POP (d := a1.toNatClampNeg) hPS (fun i hi => ⟨by rw [fI520 26 i (z_wr_c (by decide)), fI496 26 i (z_wr_c (by decide)), fI482 26 i (z_wr_c (by decide))], by rw [fI520 27 i (z_wr_c (by decide)), fI496 27 i (z_wr_c (by decide)), fI482 27 i (z_wr_c (by decide))], by rw [fI520 28 i (z_wr_c (by decide)), fI496 28 i (z_wr_c (by decide)), fI482 28 i (z_wr_c (by decide))], by rw [fI520 29 i (z_wr_c (by decide)), fI496 29 i (z_wr_c (by decide)), fI482 29 i (z_wr_c (by decide))]⟩) (by omega) (by omega) (by omega) (by omega) (by omega) (by omega)⟩) Or.inl)⟩
              · have g538 := z_f_nge rfl z_l0 c480
                refine lv_aload_n hx hb dX12_atom_175 rfl (lv_at hl 1 rfl) ?_
                refine z_cv hW hS hA (va_runV (As := []) (rest := []) ⟨hx, hb, hml, hown, hts⟩ (sx_X12_errs l G ad I J ⟨(by show 0 ≤ (I 0 36).toInt ∧ (I 0 36).toInt ≤ 4; exact hmt.1), (by show 0 ≤ (I 0 42).toInt ∧ (I 0 42).toInt ≤ 1; exact hmt.2)⟩  _) (cwV 0 hts gX12_atom_X12_errs rfl rfl rfl hy_X12_errs ⟨Nat.le_of_ble_eq_true rfl, Nat.le_of_ble_eq_true rfl⟩) (z_preV (i := 0) hK hW rfl rfl) rfl rfl hl.1 rfl (lv_room (Nat.le_of_ble_eq_true rfl)) dX12_atom_176 ⟨Nat.le_of_ble_eq_true rfl, Nat.le_of_ble_eq_true rfl⟩) (fun u1 H locs hp hW hS => ?_)
                obtain ⟨I539, J541, e9, hI539mt, fI539, hp⟩ := hp
                rw [e9] at hW
                have f540 := z_fr_sub (L := L_X12_atom) z_fr_0 fI539 (by decide)
                have k542 : 0 ≤ (I539 0 31).toInt ∧ (I539 0 31).toInt ≤ 500 := by rw [fI539 0 31 (by decide)]; exact (by show 0 ≤ (I 0 31).toInt ∧ (I 0 31).toInt ≤ 500; exact hmp.1)
                have k543 : 0 ≤ (I539 0 33).toInt ∧ (I539 0 33).toInt ≤ 500 := by rw [fI539 0 33 (by decide)]; exact (by show 0 ≤ (I 0 33).toInt ∧ (I 0 33).toInt ≤ 500; exact hmp.2.1)
                have k544 : 0 ≤ (I539 0 34).toInt ∧ (I539 0 34).toInt ≤ 500 := by rw [fI539 0 34 (by decide)]; exact (by show 0 ≤ (I 0 34).toInt ∧ (I 0 34).toInt ≤ 500; exact hmp.2.2.1)
                have k545 : 0 ≤ (I539 0 35).toInt ∧ (I539 0 35).toInt ≤ 500 := by rw [fI539 0 35 (by decide)]; exact (by show 0 ≤ (I 0 35).toInt ∧ (I 0 35).toInt ≤ 500; exact hmp.2.2.2)
                have k546 : (I539 0 36).toInt = (I 0 36).toInt := by rw [fI539 0 36 (by decide)]
                have k547 : 0 ≤ (I539 0 47).toInt ∧ (I539 0 47).toInt ≤ 119 := by rw [fI539 0 47 (by decide)]; exact (by show 0 ≤ (I 0 47).toInt ∧ (I 0 47).toInt ≤ 119; exact hmd.1)
                have k548 : 0 ≤ (I539 0 39).toInt ∧ (I539 0 39).toInt ≤ 100 := by rw [fI539 0 39 (by decide)]; exact (by show 0 ≤ (I 0 39).toInt ∧ (I 0 39).toInt ≤ 100; exact hmd.2)
                have k549 : 0 ≤ (I539 0 40).toInt ∧ (I539 0 40).toInt ≤ 6199 := by rw [fI539 0 40 (by decide)]; exact (by show 0 ≤ (I 0 40).toInt ∧ (I 0 40).toInt ≤ 6199; exact hmg)
                have k550 : 0 ≤ (I539 0 15).toInt ∧ (I539 0 15).toInt ≤ 6100 := by rw [fI539 0 15 (by decide)]; exact (by show 0 ≤ (I 0 15).toInt ∧ (I 0 15).toInt ≤ 6100; exact hmn)
                have k551 : 0 ≤ (I539 0 35).toInt ∧ (I539 0 35).toInt ≤ (I539 0 34).toInt ∧ (I539 0 34).toInt ≤ (I539 0 33).toInt ∧ (I539 0 33).toInt ≤ 500 ∧ ((I539 0 36).toInt = 0 ∨ (I539 0 35).toInt + 1 ≤ (I539 0 34).toInt) := (by have q0 : (I539 0 35) = (I 0 35) := (by rw [fI539 0 35 (by decide)]); have q1 : (I539 0 34) = (I 0 34) := (by rw [fI539 0 34 (by decide)]); have q2 : (I539 0 33) = (I 0 33) := (by rw [fI539 0 33 (by decide)]); have q3 : (I539 0 36) = (I 0 36) := (by rw [fI539 0 36 (by decide)]); show 0 ≤ (I539 0 35).toInt ∧ (I539 0 35).toInt ≤ (I539 0 34).toInt ∧ (I539 0 34).toInt ≤ (I539 0 33).toInt ∧ (I539 0 33).toInt ≤ 500 ∧ ((I539 0 36).toInt = 0 ∨ (I539 0 35).toInt + 1 ≤ (I539 0 34).toInt); rw [q0, q1, q2, q3]; first | omega | decide)
                have k552 : (I539 0 35).toInt = (I 0 35).toInt := by rw [fI539 0 35 (by decide)]
                have k553 : (I539 0 34).toInt = (I 0 34).toInt := by rw [fI539 0 34 (by decide)]
                have k554 : (I539 0 36).toInt = (I 0 36).toInt := by rw [fI539 0 36 (by decide)]
                have k555 : (I539 0 47).toInt = (I 0 47).toInt := by rw [fI539 0 47 (by decide)]
                have k556 : (I539 0 39).toInt = (I 0 39).toInt := by rw [fI539 0 39 (by decide)]
                have k557 : (I539 0 15).toInt = (I 0 15).toInt := by rw [fI539 0 15 (by decide)]
                have k558 : (I539 0 40).toInt = (I 0 40).toInt := by rw [fI539 0 40 (by decide)]
                have h559 := hp
                exact z_vret hx hb hr hK hS (Nat.le_of_ble_eq_true rfl) (Nat.le_of_ble_eq_true rfl) hlocks dX12_atom_179 (shM, ad, I539, J541, PM ad) hW ⟨I539, J541, rfl, ⟨(by show 0 ≤ (I539 0 31).toInt ∧ (I539 0 31).toInt ≤ 500; exact k542), (by show 0 ≤ (I539 0 33).toInt ∧ (I539 0 33).toInt ≤ 500; exact k543), (by show 0 ≤ (I539 0 34).toInt ∧ (I539 0 34).toInt ≤ 500; exact k544), (by show 0 ≤ (I539 0 35).toInt ∧ (I539 0 35).toInt ≤ 500; exact k545)⟩, ⟨(by show 0 ≤ (I539 0 36).toInt ∧ (I539 0 36).toInt ≤ 4; exact hI539mt.1), (by show 0 ≤ (I539 0 42).toInt ∧ (I539 0 42).toInt ≤ 1; exact hI539mt.2)⟩, ⟨(by show 0 ≤ (I539 0 47).toInt ∧ (I539 0 47).toInt ≤ 119; exact k547), (by show 0 ≤ (I539 0 39).toInt ∧ (I539 0 39).toInt ≤ 100; exact k548)⟩, (by show 0 ≤ (I539 0 40).toInt ∧ (I539 0 40).toInt ≤ 6199; exact k549), (by show 0 ≤ (I539 0 15).toInt ∧ (I539 0 15).toInt ≤ 6100; exact k550), (z_Nd_fr hNd fI539 (by decide)), (by show 0 ≤ (I539 0 35).toInt ∧ (I539 0 35).toInt ≤ (I539 0 34).toInt ∧ (I539 0 34).toInt ≤ (I539 0 33).toInt ∧ (I539 0 33).toInt ≤ 500 ∧ ((I539 0 36).toInt = 0 ∨ (I539 0 35).toInt + 1 ≤ (I539 0 34).toInt); first | omega | decide), f540, (Or.inl (by show ¬ (I539 0 42).toInt = 0; omega))⟩
    · have g560 := z_f_eq rfl z_l2 c140
      refine lv_aload_n hx hb dX12_atom_17 rfl (lv_at hl 0 rfl) ?_
      refine z_get (T := TX12) (N := 96) (ci := 12) (i := 0) (v := .int (I 0 38)) hx hb hts zj_X12_atom_X12 hown hK hW rfl rfl 38 (by decide) (hts (.fieldLink RX12 278 "PetrolBoardModel" "value" "I") (me_s (me_l (me_l (List.mem_of_getElem? (i := 2) rfl))))) (fun _ h => h) rfl dX12_atom_18 ?_
      refine lv_istore_n (lv' := [(2, .int (I 0 38)), (0, .ref (ad 0)), (1, .int a1)]) hx hb dX12_atom_21 rfl hl (by decide) rfl (fun ls hl => ?_)
      refine lv_aload_n hx hb dX12_atom_22 rfl (lv_at hl 1 rfl) ?_
      refine z_cv hW hS hA (va_runV (As := []) (rest := []) ⟨hx, hb, hml, hown, hts⟩ (sx_X12_next l G ad I J ⟨(by show 0 ≤ (I 0 31).toInt ∧ (I 0 31).toInt ≤ 500; exact hmp.1), (by show 0 ≤ (I 0 33).toInt ∧ (I 0 33).toInt ≤ 500; exact hmp.2.1), (by show 0 ≤ (I 0 34).toInt ∧ (I 0 34).toInt ≤ 500; exact hmp.2.2.1), (by show 0 ≤ (I 0 35).toInt ∧ (I 0 35).toInt ≤ 500; exact hmp.2.2.2)⟩ ⟨(by show 0 ≤ (I 0 36).toInt ∧ (I 0 36).toInt ≤ 4; exact hmt.1), (by show 0 ≤ (I 0 42).toInt ∧ (I 0 42).toInt ≤ 1; exact hmt.2)⟩ (by show 0 ≤ (I 0 34).toInt ∧ (I 0 34).toInt ≤ (I 0 33).toInt ∧ (I 0 33).toInt ≤ 500; first | omega | decide)  _) (cwV 0 hts gX12_atom_X12_next rfl rfl rfl hy_X12_next ⟨Nat.le_of_ble_eq_true rfl, Nat.le_of_ble_eq_true rfl⟩) (z_preV (i := 0) hK hW rfl rfl) rfl rfl hl.1 rfl (lv_room (Nat.le_of_ble_eq_true rfl)) dX12_atom_23 ⟨Nat.le_of_ble_eq_true rfl, Nat.le_of_ble_eq_true rfl⟩) (fun u1 H locs hp hW hS => ?_)
      obtain ⟨I561, J563, e9, hI561mp, hI561mt, hI561rp, fI561, hp⟩ := hp
      rw [e9] at hW
      have f562 := z_fr_sub (L := L_X12_atom) z_fr_0 fI561 (by decide)
      have k564 : 0 ≤ (I561 0 47).toInt ∧ (I561 0 47).toInt ≤ 119 := by rw [fI561 0 47 (by decide)]; exact (by show 0 ≤ (I 0 47).toInt ∧ (I 0 47).toInt ≤ 119; exact hmd.1)
      have k565 : 0 ≤ (I561 0 39).toInt ∧ (I561 0 39).toInt ≤ 100 := by rw [fI561 0 39 (by decide)]; exact (by show 0 ≤ (I 0 39).toInt ∧ (I 0 39).toInt ≤ 100; exact hmd.2)
      have k566 : 0 ≤ (I561 0 40).toInt ∧ (I561 0 40).toInt ≤ 6199 := by rw [fI561 0 40 (by decide)]; exact (by show 0 ≤ (I 0 40).toInt ∧ (I 0 40).toInt ≤ 6199; exact hmg)
      have k567 : 0 ≤ (I561 0 15).toInt ∧ (I561 0 15).toInt ≤ 6100 := by rw [fI561 0 15 (by decide)]; exact (by show 0 ≤ (I 0 15).toInt ∧ (I 0 15).toInt ≤ 6100; exact hmn)
      have k568 : 0 ≤ (I561 0 35).toInt ∧ (I561 0 35).toInt ≤ (I561 0 34).toInt ∧ (I561 0 34).toInt ≤ (I561 0 33).toInt ∧ (I561 0 33).toInt ≤ 500 ∧ ((I561 0 36).toInt = 0 ∨ (I561 0 35).toInt + 1 ≤ (I561 0 34).toInt) := hI561rp
      have k569 : (I561 0 42).toInt = (I 0 42).toInt := by rw [fI561 0 42 (by decide)]
      have k570 : (I561 0 47).toInt = (I 0 47).toInt := by rw [fI561 0 47 (by decide)]
      have k571 : (I561 0 39).toInt = (I 0 39).toInt := by rw [fI561 0 39 (by decide)]
      have k572 : (I561 0 15).toInt = (I 0 15).toInt := by rw [fI561 0 15 (by decide)]
      have k573 : (I561 0 40).toInt = (I 0 40).toInt := by rw [fI561 0 40 (by decide)]
      have h574 := hp
      refine lv_aload_n hx hb dX12_atom_26 rfl (lv_at hl 1 rfl) ?_
      refine lv_aload_n hx hb dX12_atom_27 rfl (lv_at hl 1 rfl) ?_
      refine lv_iconst (v := 0) hx hb dX12_atom_28 (by decide) ?_
      refine lv_iload_n hx hb dX12_atom_29 rfl (lv_at hl 0 rfl) ?_
      refine lv_iconst (v := 0) hx hb dX12_atom_30 (by decide) ?_
      refine z_ci hW hS hA (va_runV (As := [.int 0, .int (I 0 38), .int 0]) (rest := [.ref (ad 0)]) ⟨hx, hb, hml, hown, hts⟩ (sx_X12_node l G ad I561 J563 (by show 0 ≤ (I561 0 15).toInt ∧ (I561 0 15).toInt ≤ 6100; exact k567) (z_Nd_fr hNd fI561 (by decide)) 0 (I 0 38) 0 (by show (I561 0 15).toInt ≤ 6099; omega) (by have := z_l0; have := z_l0; first | omega | decide) (by have := z_l0; have := z_l0; first | omega | decide) (by have := z_l0; have := z_l0; first | omega | decide) _) (cwV 3 hts gX12_atom_X12_node rfl rfl rfl hy_X12_node ⟨Nat.le_of_ble_eq_true rfl, Nat.le_of_ble_eq_true rfl⟩) (z_preV (i := 0) hK hW rfl rfl) rfl rfl hl.1 rfl (lv_room (Nat.le_of_ble_eq_true rfl)) dX12_atom_31 ⟨Nat.le_of_ble_eq_true rfl, Nat.le_of_ble_eq_true rfl⟩) (fun r u1 H locs hp hW hS => ?_)
      obtain ⟨I575, J577, e9, hI575mn, hI575Nd, fI575, hp⟩ := hp
      rw [e9] at hW
      have f576 := z_fr_sub (L := L_X12_atom) f562 fI575 (by decide)
      have k578 : 0 ≤ (I575 0 31).toInt ∧ (I575 0 31).toInt ≤ 500 := by rw [fI575 0 31 (by decide)]; exact (by show 0 ≤ (I561 0 31).toInt ∧ (I561 0 31).toInt ≤ 500; exact hI561mp.1)
      have k579 : 0 ≤ (I575 0 33).toInt ∧ (I575 0 33).toInt ≤ 500 := by rw [fI575 0 33 (by decide)]; exact (by show 0 ≤ (I561 0 33).toInt ∧ (I561 0 33).toInt ≤ 500; exact hI561mp.2.1)
      have k580 : 0 ≤ (I575 0 34).toInt ∧ (I575 0 34).toInt ≤ 500 := by rw [fI575 0 34 (by decide)]; exact (by show 0 ≤ (I561 0 34).toInt ∧ (I561 0 34).toInt ≤ 500; exact hI561mp.2.2.1)
      have k581 : 0 ≤ (I575 0 35).toInt ∧ (I575 0 35).toInt ≤ 500 := by rw [fI575 0 35 (by decide)]; exact (by show 0 ≤ (I561 0 35).toInt ∧ (I561 0 35).toInt ≤ 500; exact hI561mp.2.2.2)
      have k582 : 0 ≤ (I575 0 36).toInt ∧ (I575 0 36).toInt ≤ 4 := by rw [fI575 0 36 (by decide)]; exact (by show 0 ≤ (I561 0 36).toInt ∧ (I561 0 36).toInt ≤ 4; exact hI561mt.1)
      have k583 : 0 ≤ (I575 0 42).toInt ∧ (I575 0 42).toInt ≤ 1 := by rw [fI575 0 42 (by decide)]; exact (by show 0 ≤ (I561 0 42).toInt ∧ (I561 0 42).toInt ≤ 1; exact hI561mt.2)
      have k584 : 0 ≤ (I575 0 47).toInt ∧ (I575 0 47).toInt ≤ 119 := by rw [fI575 0 47 (by decide)]; exact (by show 0 ≤ (I561 0 47).toInt ∧ (I561 0 47).toInt ≤ 119; exact k564)
      have k585 : 0 ≤ (I575 0 39).toInt ∧ (I575 0 39).toInt ≤ 100 := by rw [fI575 0 39 (by decide)]; exact (by show 0 ≤ (I561 0 39).toInt ∧ (I561 0 39).toInt ≤ 100; exact k565)
      have k586 : 0 ≤ (I575 0 40).toInt ∧ (I575 0 40).toInt ≤ 6199 := by rw [fI575 0 40 (by decide)]; exact (by show 0 ≤ (I561 0 40).toInt ∧ (I561 0 40).toInt ≤ 6199; exact k566)
      have k587 : 0 ≤ (I575 0 35).toInt ∧ (I575 0 35).toInt ≤ (I575 0 34).toInt ∧ (I575 0 34).toInt ≤ (I575 0 33).toInt ∧ (I575 0 33).toInt ≤ 500 ∧ ((I575 0 36).toInt = 0 ∨ (I575 0 35).toInt + 1 ≤ (I575 0 34).toInt) := (by have q0 : (I575 0 35) = (I561 0 35) := (by rw [fI575 0 35 (by decide)]); have q1 : (I575 0 34) = (I561 0 34) := (by rw [fI575 0 34 (by decide)]); have q2 : (I575 0 33) = (I561 0 33) := (by rw [fI575 0 33 (by decide)]); have q3 : (I575 0 36) = (I561 0 36) := (by rw [fI575 0 36 (by decide)]); show 0 ≤ (I575 0 35).toInt ∧ (I575 0 35).toInt ≤ (I575 0 34).toInt ∧ (I575 0 34).toInt ≤ (I575 0 33).toInt ∧ (I575 0 33).toInt ≤ 500 ∧ ((I575 0 36).toInt = 0 ∨ (I575 0 35).toInt + 1 ≤ (I575 0 34).toInt); rw [q0, q1, q2, q3]; first | omega | decide)
      have k588 : (I575 0 35).toInt = (I561 0 35).toInt := by rw [fI575 0 35 (by decide)]
      have k589 : (I575 0 34).toInt = (I561 0 34).toInt := by rw [fI575 0 34 (by decide)]
      have k590 : (I575 0 36).toInt = (I561 0 36).toInt := by rw [fI575 0 36 (by decide)]
      have k591 : (I575 0 42).toInt = (I561 0 42).toInt := by rw [fI575 0 42 (by decide)]
      have k592 : (I575 0 47).toInt = (I561 0 47).toInt := by rw [fI575 0 47 (by decide)]
      have k593 : (I575 0 39).toInt = (I561 0 39).toInt := by rw [fI575 0 39 (by decide)]
      have k594 : (I575 0 40).toInt = (I561 0 40).toInt := by rw [fI575 0 40 (by decide)]
      refine lv_topi (fun x595 ex595 => ?_)
      rw [← ex595] at hp
      obtain ⟨h596, h597⟩ := hp
      have h598 : 0 ≤ x595.toInt ∧ x595.toInt ≤ 6100 := (by have q9 : 0 ≤ (I561 0 15).toInt ∧ (I561 0 15).toInt ≤ 6100 := (by show 0 ≤ (I561 0 15).toInt ∧ (I561 0 15).toInt ≤ 6100; exact k567); omega)
      refine z_cv hW hS hA (va_runV (As := [.int x595]) (rest := []) ⟨hx, hb, hml, hown, hts⟩ (sx_X12_ends l G ad I575 J577 ⟨(by show 0 ≤ (I575 0 47).toInt ∧ (I575 0 47).toInt ≤ 119; exact k584), (by show 0 ≤ (I575 0 39).toInt ∧ (I575 0 39).toInt ≤ 100; exact k585)⟩ (by show 0 ≤ (I575 0 40).toInt ∧ (I575 0 40).toInt ≤ 6199; exact k586) x595 (by first | omega | decide) (by show 1 ≤ (I575 0 47).toInt; omega) _) (cwV 1 hts gX12_atom_X12_ends rfl rfl rfl hy_X12_ends ⟨Nat.le_of_ble_eq_true rfl, Nat.le_of_ble_eq_true rfl⟩) (z_preV (i := 0) hK hW rfl rfl) rfl rfl hl.1 rfl (lv_room (Nat.le_of_ble_eq_true rfl)) dX12_atom_34 ⟨Nat.le_of_ble_eq_true rfl, Nat.le_of_ble_eq_true rfl⟩) (fun u1 H locs hp hW hS => ?_)
      obtain ⟨I599, J601, e9, hI599md, hI599mg, fI599, hp⟩ := hp
      rw [e9] at hW
      have f600 := z_fr_sub (L := L_X12_atom) f576 fI599 (by decide)
      have k602 : 0 ≤ (I599 0 31).toInt ∧ (I599 0 31).toInt ≤ 500 := by rw [fI599 0 31 (by decide)]; exact (by show 0 ≤ (I575 0 31).toInt ∧ (I575 0 31).toInt ≤ 500; exact k578)
      have k603 : 0 ≤ (I599 0 33).toInt ∧ (I599 0 33).toInt ≤ 500 := by rw [fI599 0 33 (by decide)]; exact (by show 0 ≤ (I575 0 33).toInt ∧ (I575 0 33).toInt ≤ 500; exact k579)
      have k604 : 0 ≤ (I599 0 34).toInt ∧ (I599 0 34).toInt ≤ 500 := by rw [fI599 0 34 (by decide)]; exact (by show 0 ≤ (I575 0 34).toInt ∧ (I575 0 34).toInt ≤ 500; exact k580)
      have k605 : 0 ≤ (I599 0 35).toInt ∧ (I599 0 35).toInt ≤ 500 := by rw [fI599 0 35 (by decide)]; exact (by show 0 ≤ (I575 0 35).toInt ∧ (I575 0 35).toInt ≤ 500; exact k581)
      have k606 : 0 ≤ (I599 0 36).toInt ∧ (I599 0 36).toInt ≤ 4 := by rw [fI599 0 36 (by decide)]; exact (by show 0 ≤ (I575 0 36).toInt ∧ (I575 0 36).toInt ≤ 4; exact k582)
      have k607 : 0 ≤ (I599 0 42).toInt ∧ (I599 0 42).toInt ≤ 1 := by rw [fI599 0 42 (by decide)]; exact (by show 0 ≤ (I575 0 42).toInt ∧ (I575 0 42).toInt ≤ 1; exact k583)
      have k608 : 0 ≤ (I599 0 15).toInt ∧ (I599 0 15).toInt ≤ 6100 := by rw [fI599 0 15 (by decide)]; exact (by show 0 ≤ (I575 0 15).toInt ∧ (I575 0 15).toInt ≤ 6100; exact hI575mn)
      have k609 : 0 ≤ (I599 0 35).toInt ∧ (I599 0 35).toInt ≤ (I599 0 34).toInt ∧ (I599 0 34).toInt ≤ (I599 0 33).toInt ∧ (I599 0 33).toInt ≤ 500 ∧ ((I599 0 36).toInt = 0 ∨ (I599 0 35).toInt + 1 ≤ (I599 0 34).toInt) := (by have q0 : (I599 0 35) = (I575 0 35) := (by rw [fI599 0 35 (by decide)]); have q1 : (I599 0 34) = (I575 0 34) := (by rw [fI599 0 34 (by decide)]); have q2 : (I599 0 33) = (I575 0 33) := (by rw [fI599 0 33 (by decide)]); have q3 : (I599 0 36) = (I575 0 36) := (by rw [fI599 0 36 (by decide)]); show 0 ≤ (I599 0 35).toInt ∧ (I599 0 35).toInt ≤ (I599 0 34).toInt ∧ (I599 0 34).toInt ≤ (I599 0 33).toInt ∧ (I599 0 33).toInt ≤ 500 ∧ ((I599 0 36).toInt = 0 ∨ (I599 0 35).toInt + 1 ≤ (I599 0 34).toInt); rw [q0, q1, q2, q3]; first | omega | decide)
      have k610 : (I599 0 35).toInt = (I575 0 35).toInt := by rw [fI599 0 35 (by decide)]
      have k611 : (I599 0 34).toInt = (I575 0 34).toInt := by rw [fI599 0 34 (by decide)]
      have k612 : (I599 0 36).toInt = (I575 0 36).toInt := by rw [fI599 0 36 (by decide)]
      have k613 : (I599 0 42).toInt = (I575 0 42).toInt := by rw [fI599 0 42 (by decide)]
      have k614 : (I599 0 39).toInt = (I575 0 39).toInt := by rw [fI599 0 39 (by decide)]
      have k615 : (I599 0 15).toInt = (I575 0 15).toInt := by rw [fI599 0 15 (by decide)]
      have h616 := hp
      refine lv_goto (tgt := 311) hx hb dX12_atom_37 (by decide) ?_
      exact z_vret hx hb hr hK hS (Nat.le_of_ble_eq_true rfl) (Nat.le_of_ble_eq_true rfl) hlocks dX12_atom_311 (shM, ad, I599, J601, PM ad) hW ⟨I599, J601, rfl, ⟨(by show 0 ≤ (I599 0 31).toInt ∧ (I599 0 31).toInt ≤ 500; exact k602), (by show 0 ≤ (I599 0 33).toInt ∧ (I599 0 33).toInt ≤ 500; exact k603), (by show 0 ≤ (I599 0 34).toInt ∧ (I599 0 34).toInt ≤ 500; exact k604), (by show 0 ≤ (I599 0 35).toInt ∧ (I599 0 35).toInt ≤ 500; exact k605)⟩, ⟨(by show 0 ≤ (I599 0 36).toInt ∧ (I599 0 36).toInt ≤ 4; exact k606), (by show 0 ≤ (I599 0 42).toInt ∧ (I599 0 42).toInt ≤ 1; exact k607)⟩, ⟨(by show 0 ≤ (I599 0 47).toInt ∧ (I599 0 47).toInt ≤ 119; exact hI599md.1), (by show 0 ≤ (I599 0 39).toInt ∧ (I599 0 39).toInt ≤ 100; exact hI599md.2)⟩, (by show 0 ≤ (I599 0 40).toInt ∧ (I599 0 40).toInt ≤ 6199; exact hI599mg), (by show 0 ≤ (I599 0 15).toInt ∧ (I599 0 15).toInt ≤ 6100; exact k608), (z_Nd_fr hI575Nd fI599 (by decide)), (by show 0 ≤ (I599 0 35).toInt ∧ (I599 0 35).toInt ≤ (I599 0 34).toInt ∧ (I599 0 34).toInt ≤ (I599 0 33).toInt ∧ (I599 0 33).toInt ≤ 500 ∧ ((I599 0 36).toInt = 0 ∨ (I599 0 35).toInt + 1 ≤ (I599 0 34).toInt); first | omega | decide), f600, ((Classical.em ((I599 0 42).toInt = 0)).elim (fun hw9 => Or.inr ⟨a1.toNatClampNeg, by have w1 := z_fw_20 (a := va.toInt) (o := vo.toInt) (by omega); have w2 := z_fo_2n (a := va.toInt) (by omega); exact z_POP (d := a1.toNatClampNeg) hPS (fun i hi => ⟨by rw [fI599 26 i (z_wr_c (by decide)), fI575 26 i (z_wr_c (by decide)), fI561 26 i (z_wr_c (by decide))], by rw [fI599 27 i (z_wr_c (by decide)), fI575 27 i (z_wr_c (by decide)), fI561 27 i (z_wr_c (by decide))], by rw [fI599 28 i (z_wr_c (by decide)), fI575 28 i (z_wr_c (by decide)), fI561 28 i (z_wr_c (by decide))], by rw [fI599 29 i (z_wr_c (by decide)), fI575 29 i (z_wr_c (by decide)), fI561 29 i (z_wr_c (by decide))]⟩) (by omega) (by omega) (by omega) (by omega) (by omega) (by omega)⟩) Or.inl)⟩
noncomputable def L_X12_chain_1 : z_L := [(0, 35), (0, 36), (0, 37), (0, 38), (0, 34), (0, 42), (0, 32), (0, 39), (21, 999), (22, 999), (23, 999), (0, 15), (26, 999), (27, 999), (28, 999), (29, 999), (0, 47), (0, 40)]
theorem zj_X12_chain_X12 : ∀ w ∈ wsX120, w ∈ wsX12_chain := fun w h => (List.mem_cons_of_mem _ (List.mem_append_right _ h))
set_option maxHeartbeats 8000000 in
set_option maxRecDepth 100000 in
theorem sx_X12_chain_1 (l : Launch) (G : z_G) (ad : Nat → Nat) (I : z_I) (J : z_J) (hmp : z_imp I) (hmt : z_imt I) (hmd : z_imd I) (hmg : z_img I) (hmn : z_imn I) (hNd : z_Nd I) (hrp : z_irp I) (B : Int) (a1 : Int32) (q1 : 0 ≤ a1.toInt ∧ a1.toInt ≤ 33) (hwd : (I 26 a1.toNatClampNeg).toInt = 3) (hPS : z_PS I (a1.toNatClampNeg + 1) B) : z_Mv l yX12_chain wsX12_chain { frames := 3, cells := 0, slots := 0, locals := 55 } [.ref (ad 0), .int a1, .int 1] G (shM, ad, I, J, PM ad) (fun u1 => ∃ (I1 : z_I) (J1 : z_J), u1 = (shM, ad, I1, J1, PM ad) ∧ z_imp I1 ∧ z_imt I1 ∧ z_imd I1 ∧ z_img I1 ∧ z_imn I1 ∧ z_Nd I1 ∧ z_irp I1 ∧ z_fr L_X12_chain_1 I1 I ∧ (¬ (I1 0 42).toInt = 0 ∨ ∃ n, z_PS I1 n (B - 1))) 0 0 := by
  intro sz
  refine z_headQ (cc := cX12_chain) (maxL := 3) (ret := none) (by decide) rfl (Nat.le_of_ble_eq_true rfl) ?_
  intro p e s m below meth c0 ls hIn hK hsz hW hl
  obtain ⟨hx, hb, hr, hml, hown, hts, hlocks, hname⟩ := hIn
  subst hsz
  have hown : s.vm.findClass RX12 = some m.cls := hown
  have hA : ∀ q : Nat, s.heap.size ≤ q → z_A (shM, ad, I, J, PM ad) s.heap.size q := fun q h => Or.inr h
  generalize hAe : z_A (shM, ad, I, J, PM ad) s.heap.size = A at *
  have hS : va_S A s.heap s.heap [] := va_S.rf
  have hl : lv_has ls 3 [(0, .ref (ad 0)), (1, .int a1), (2, .int 1)] := hl
  obtain ⟨va, eva⟩ : ∃ y, y = I 27 a1.toNatClampNeg := ⟨_, rfl⟩
  obtain ⟨vo, evo⟩ : ∃ y, y = I 28 a1.toNatClampNeg := ⟨_, rfl⟩
  obtain ⟨vs, evs⟩ : ∃ y, y = I 29 a1.toNatClampNeg := ⟨_, rfl⟩
  have hT := z_top hPS
  unfold z_fv at hT
  rw [hwd, ← eva, ← evo, ← evs] at hT
  obtain ⟨t1, t2, t3, t4, t5, t6, t7, t8, t9, t10, t11, t12, t13, t14, t15, t16, t17, t18, t19, t20, t21⟩ := hT
  have hk9 := z_clt (x := a1) rfl q1.1
  have hcw := z_fwc_3 va.toInt vo.toInt
  have hcf := z_foc_3 va.toInt
  obtain ⟨vw, evw⟩ : ∃ y, y = I 26 a1.toNatClampNeg := ⟨_, rfl⟩
  have hvw : vw.toInt = 3 := by rw [evw]; exact hwd
  have krp : 0 ≤ (I 0 35).toInt ∧ (I 0 35).toInt ≤ (I 0 34).toInt ∧ (I 0 34).toInt ≤ (I 0 33).toInt ∧ (I 0 33).toInt ≤ 500 ∧ ((I 0 36).toInt = 0 ∨ (I 0 35).toInt + 1 ≤ (I 0 34).toInt) := hrp
  refine lv_aload_n hx hb dX12_chain_0 rfl (lv_at hl 0 rfl) ?_
  refine z_get (T := TX12) (N := 96) (ci := 12) (i := 0) (v := .ref (ad 27)) hx hb hts zj_X12_chain_X12 hown hK hW rfl rfl 44 (by decide) (hts (.fieldLink RX12 94 "PetrolBoardModel" "at" "[I") (me_s (me_l (me_l (List.mem_of_getElem? (i := 0) rfl))))) (fun _ h => h) rfl dX12_chain_1 ?_
  refine lv_iload_n hx hb dX12_chain_4 rfl (lv_at hl 1 rfl) ?_
  refine z_iald (i := 27) hx hb hK hW rfl (z_ix rfl (by omega) (by omega)) dX12_chain_5 ?_
  refine z_topi (v := va) eva.symm ?_
  refine lv_if_ne (tgt := 30) hx hb dX12_chain_6 (by decide) (fun c1 => ?_) (fun c1 => ?_)
  · have g2 := z_f_ne rfl z_l0 c1
    refine lv_aload_n hx hb dX12_chain_30 rfl (lv_at hl 0 rfl) ?_
    refine z_get (T := TX12) (N := 96) (ci := 12) (i := 0) (v := .ref (ad 28)) hx hb hts zj_X12_chain_X12 hown hK hW rfl rfl 45 (by decide) (hts (.fieldLink RX12 97 "PetrolBoardModel" "one" "[I") (me_s (me_l (me_l (List.mem_of_getElem? (i := 1) rfl))))) (fun _ h => h) rfl dX12_chain_31 ?_
    refine lv_iload_n hx hb dX12_chain_34 rfl (lv_at hl 1 rfl) ?_
    refine lv_aload_n hx hb dX12_chain_35 rfl (lv_at hl 0 rfl) ?_
    refine z_get (T := TX12) (N := 96) (ci := 12) (i := 0) (v := .ref (ad 28)) hx hb hts zj_X12_chain_X12 hown hK hW rfl rfl 45 (by decide) (hts (.fieldLink RX12 97 "PetrolBoardModel" "one" "[I") (me_s (me_l (me_l (List.mem_of_getElem? (i := 1) rfl))))) (fun _ h => h) rfl dX12_chain_36 ?_
    refine lv_iload_n hx hb dX12_chain_39 rfl (lv_at hl 1 rfl) ?_
    refine z_iald (i := 28) hx hb hK hW rfl (z_ix rfl (by omega) (by omega)) dX12_chain_40 ?_
    refine z_topi (v := vo) evo.symm ?_
    refine lv_if_ge (tgt := 51) hx hb dX12_chain_41 (by decide) (fun c3 => ?_) (fun c3 => ?_)
    · have g4 := z_f_ge rfl z_l0 c3
      refine lv_aload_n hx hb dX12_chain_51 rfl (lv_at hl 0 rfl) ?_
      refine lv_iload_n hx hb dX12_chain_52 rfl (lv_at hl 2 rfl) ?_
      refine lv_if_eq (tgt := 61) hx hb dX12_chain_53 (by decide) (fun c5 => absurd c5 (by decide)) (fun c5 => ?_)
      refine lv_bipush (v := 13) hx hb dX12_chain_56 (by decide) ?_
      refine lv_goto (tgt := 63) hx hb dX12_chain_58 (by decide) ?_
      refine lv_aload_n hx hb dX12_chain_63 rfl (lv_at hl 0 rfl) ?_
      refine z_get (T := TX12) (N := 96) (ci := 12) (i := 0) (v := .ref (ad 28)) hx hb hts zj_X12_chain_X12 hown hK hW rfl rfl 45 (by decide) (hts (.fieldLink RX12 97 "PetrolBoardModel" "one" "[I") (me_s (me_l (me_l (List.mem_of_getElem? (i := 1) rfl))))) (fun _ h => h) rfl dX12_chain_64 ?_
      refine lv_iload_n hx hb dX12_chain_67 rfl (lv_at hl 1 rfl) ?_
      refine z_iald (i := 28) hx hb hK hW rfl (z_ix rfl (by omega) (by omega)) dX12_chain_68 ?_
      refine z_topi (v := vo) evo.symm ?_
      refine lv_aload_n hx hb dX12_chain_69 rfl (lv_at hl 0 rfl) ?_
      have r6 : 0 ≤ (I 0 40).toInt ∧ (I 0 40).toInt ≤ 6199 := hmg
      refine z_get (T := TX12) (N := 96) (ci := 12) (i := 0) (v := .int (I 0 40)) hx hb hts zj_X12_chain_X12 hown hK hW rfl rfl 40 (by decide) (hts (.fieldLink RX12 343 "PetrolBoardModel" "got" "I") (me_s (me_l (me_l (List.mem_of_getElem? (i := 2) rfl))))) (fun _ h => h) rfl dX12_chain_70 ?_
      refine z_ci hW hS hA (va_runV (As := [.int 13, .int vo, .int (I 0 40)]) (rest := [.int a1, .ref (ad 28)]) ⟨hx, hb, hml, hown, hts⟩ (sx_X12_node l G ad I J (by show 0 ≤ (I 0 15).toInt ∧ (I 0 15).toInt ≤ 6100; exact hmn) hNd 13 vo (I 0 40) (by show (I 0 15).toInt ≤ 6099; omega) (by have := z_l13; first | omega | decide) (by have := z_l13; first | omega | decide) (by have := z_l13; first | omega | decide) _) (cwV 3 hts gX12_chain_X12_node rfl rfl rfl hy_X12_node ⟨Nat.le_of_ble_eq_true rfl, Nat.le_of_ble_eq_true rfl⟩) (z_preV (i := 0) hK hW rfl rfl) rfl rfl hl.1 rfl (lv_room (Nat.le_of_ble_eq_true rfl)) dX12_chain_73 ⟨Nat.le_of_ble_eq_true rfl, Nat.le_of_ble_eq_true rfl⟩) (fun r u1 H locs hp hW hS => ?_)
      obtain ⟨I7, J9, e9, hI7mn, hI7Nd, fI7, hp⟩ := hp
      rw [e9] at hW
      have f8 := z_fr_sub (L := L_X12_chain_1) z_fr_0 fI7 (by decide)
      have k10 : 0 ≤ (I7 0 31).toInt ∧ (I7 0 31).toInt ≤ 500 := by rw [fI7 0 31 (by decide)]; exact (by show 0 ≤ (I 0 31).toInt ∧ (I 0 31).toInt ≤ 500; exact hmp.1)
      have k11 : 0 ≤ (I7 0 33).toInt ∧ (I7 0 33).toInt ≤ 500 := by rw [fI7 0 33 (by decide)]; exact (by show 0 ≤ (I 0 33).toInt ∧ (I 0 33).toInt ≤ 500; exact hmp.2.1)
      have k12 : 0 ≤ (I7 0 34).toInt ∧ (I7 0 34).toInt ≤ 500 := by rw [fI7 0 34 (by decide)]; exact (by show 0 ≤ (I 0 34).toInt ∧ (I 0 34).toInt ≤ 500; exact hmp.2.2.1)
      have k13 : 0 ≤ (I7 0 35).toInt ∧ (I7 0 35).toInt ≤ 500 := by rw [fI7 0 35 (by decide)]; exact (by show 0 ≤ (I 0 35).toInt ∧ (I 0 35).toInt ≤ 500; exact hmp.2.2.2)
      have k14 : 0 ≤ (I7 0 36).toInt ∧ (I7 0 36).toInt ≤ 4 := by rw [fI7 0 36 (by decide)]; exact (by show 0 ≤ (I 0 36).toInt ∧ (I 0 36).toInt ≤ 4; exact hmt.1)
      have k15 : 0 ≤ (I7 0 42).toInt ∧ (I7 0 42).toInt ≤ 1 := by rw [fI7 0 42 (by decide)]; exact (by show 0 ≤ (I 0 42).toInt ∧ (I 0 42).toInt ≤ 1; exact hmt.2)
      have k16 : 0 ≤ (I7 0 47).toInt ∧ (I7 0 47).toInt ≤ 119 := by rw [fI7 0 47 (by decide)]; exact (by show 0 ≤ (I 0 47).toInt ∧ (I 0 47).toInt ≤ 119; exact hmd.1)
      have k17 : 0 ≤ (I7 0 39).toInt ∧ (I7 0 39).toInt ≤ 100 := by rw [fI7 0 39 (by decide)]; exact (by show 0 ≤ (I 0 39).toInt ∧ (I 0 39).toInt ≤ 100; exact hmd.2)
      have k18 : 0 ≤ (I7 0 40).toInt ∧ (I7 0 40).toInt ≤ 6199 := by rw [fI7 0 40 (by decide)]; exact (by show 0 ≤ (I 0 40).toInt ∧ (I 0 40).toInt ≤ 6199; exact hmg)
      have k19 : 0 ≤ (I7 0 35).toInt ∧ (I7 0 35).toInt ≤ (I7 0 34).toInt ∧ (I7 0 34).toInt ≤ (I7 0 33).toInt ∧ (I7 0 33).toInt ≤ 500 ∧ ((I7 0 36).toInt = 0 ∨ (I7 0 35).toInt + 1 ≤ (I7 0 34).toInt) := (by have q0 : (I7 0 35) = (I 0 35) := (by rw [fI7 0 35 (by decide)]); have q1 : (I7 0 34) = (I 0 34) := (by rw [fI7 0 34 (by decide)]); have q2 : (I7 0 33) = (I 0 33) := (by rw [fI7 0 33 (by decide)]); have q3 : (I7 0 36) = (I 0 36) := (by rw [fI7 0 36 (by decide)]); show 0 ≤ (I7 0 35).toInt ∧ (I7 0 35).toInt ≤ (I7 0 34).toInt ∧ (I7 0 34).toInt ≤ (I7 0 33).toInt ∧ (I7 0 33).toInt ≤ 500 ∧ ((I7 0 36).toInt = 0 ∨ (I7 0 35).toInt + 1 ≤ (I7 0 34).toInt); rw [q0, q1, q2, q3]; first | omega | decide)
      have k20 : (I7 0 35).toInt = (I 0 35).toInt := by rw [fI7 0 35 (by decide)]
      have k21 : (I7 0 34).toInt = (I 0 34).toInt := by rw [fI7 0 34 (by decide)]
      have k22 : (I7 0 36).toInt = (I 0 36).toInt := by rw [fI7 0 36 (by decide)]
      have k23 : (I7 0 42).toInt = (I 0 42).toInt := by rw [fI7 0 42 (by decide)]
      have k24 : (I7 0 47).toInt = (I 0 47).toInt := by rw [fI7 0 47 (by decide)]
      have k25 : (I7 0 39).toInt = (I 0 39).toInt := by rw [fI7 0 39 (by decide)]
      have k26 : (I7 0 40).toInt = (I 0 40).toInt := by rw [fI7 0 40 (by decide)]
      refine lv_topi (fun x27 ex27 => ?_)
      rw [← ex27] at hp
      obtain ⟨h28, h29⟩ := hp
      have h30 : 0 ≤ x27.toInt ∧ x27.toInt ≤ 6100 := (by have q9 : 0 ≤ (I 0 15).toInt ∧ (I 0 15).toInt ≤ 6100 := (by show 0 ≤ (I 0 15).toInt ∧ (I 0 15).toInt ≤ 6100; exact hmn); omega)
      refine z_iast (i := 28) hx hb hK hW hS rfl (z_ix rfl (by omega) (by omega)) dX12_chain_76 (fun H locs hz1 hW hS => ?_)
      obtain ⟨I31, eI31⟩ : ∃ K : z_I, K = z_up I7 28 a1.toNatClampNeg x27 := ⟨_, rfl⟩
      rw [← eI31] at hW
      have f32 := z_fr_a f8 (show z_wa L_X12_chain_1 28 = true by decide) eI31
      have a33 := z_Nd_n hI7Nd (by decide) eI31
      refine lv_aload_n hx hb dX12_chain_77 rfl (lv_at hl 0 rfl) ?_
      refine lv_iload_n hx hb dX12_chain_78 rfl (lv_at hl 2 rfl) ?_
      refine lv_if_eq (tgt := 88) hx hb dX12_chain_79 (by decide) (fun c34 => absurd c34 (by decide)) (fun c34 => ?_)
      refine lv_ldc2 (v := 423) hx hb hown (hts (.constantLong RX12 390 (423)) (me_s (me_l (me_l (List.mem_of_getElem? (i := 3) rfl))))) dX12_chain_82 ?_
      refine lv_goto (tgt := 91) hx hb dX12_chain_85 (by decide) ?_
      refine z_ci hW hS hA (va_runV (As := [.long 423]) (rest := []) ⟨hx, hb, hml, hown, hts⟩ (sx_X12_isWord l G ad I31 J9 ⟨(by show 0 ≤ (I31 0 36).toInt ∧ (I31 0 36).toInt ≤ 4; rw [eI31, z_up_n (by decide)]; exact k14), (by show 0 ≤ (I31 0 42).toInt ∧ (I31 0 42).toInt ≤ 1; rw [eI31, z_up_n (by decide)]; exact k15)⟩ 423 _) (cwV 1 hts gX12_chain_X12_isWord rfl rfl rfl hy_X12_isWord ⟨Nat.le_of_ble_eq_true rfl, Nat.le_of_ble_eq_true rfl⟩) (z_preV (i := 0) hK hW rfl rfl) rfl rfl hl.1 rfl (lv_room (Nat.le_of_ble_eq_true rfl)) dX12_chain_91 ⟨Nat.le_of_ble_eq_true rfl, Nat.le_of_ble_eq_true rfl⟩) (fun r u1 H locs hp hW hS => ?_)
      obtain ⟨e9, hp⟩ := hp
      rw [e9] at hW
      rcases hp with ⟨rfl, h35⟩ | rfl
      · rw [show (I31 0 36) = (I7 0 36) from by rw [eI31, z_up_n (by decide)]] at h35
        have h36 : (I7 0 35).toInt + 1 ≤ (I7 0 34).toInt := by omega
        refine lv_if_eq (tgt := 117) hx hb dX12_chain_94 (by decide) (fun c37 => absurd c37 (by decide)) (fun c37 => ?_)
        refine lv_aload_n hx hb dX12_chain_97 rfl (lv_at hl 0 rfl) ?_
        refine z_cv hW hS hA (va_runV (As := []) (rest := []) ⟨hx, hb, hml, hown, hts⟩ (sx_X12_next l G ad I31 J9 ⟨(by show 0 ≤ (I31 0 31).toInt ∧ (I31 0 31).toInt ≤ 500; rw [eI31, z_up_n (by decide)]; exact k10), (by show 0 ≤ (I31 0 33).toInt ∧ (I31 0 33).toInt ≤ 500; rw [eI31, z_up_n (by decide)]; exact k11), (by show 0 ≤ (I31 0 34).toInt ∧ (I31 0 34).toInt ≤ 500; rw [eI31, z_up_n (by decide)]; exact k12), (by show 0 ≤ (I31 0 35).toInt ∧ (I31 0 35).toInt ≤ 500; rw [eI31, z_up_n (by decide)]; exact k13)⟩ ⟨(by show 0 ≤ (I31 0 36).toInt ∧ (I31 0 36).toInt ≤ 4; rw [eI31, z_up_n (by decide)]; exact k14), (by show 0 ≤ (I31 0 42).toInt ∧ (I31 0 42).toInt ≤ 1; rw [eI31, z_up_n (by decide)]; exact k15)⟩ (by have q0 : (I31 0 34) = (I7 0 34) := (by rw [eI31, z_up_n (by decide)]); have q1 : (I31 0 33) = (I7 0 33) := (by rw [eI31, z_up_n (by decide)]); show 0 ≤ (I31 0 34).toInt ∧ (I31 0 34).toInt ≤ (I31 0 33).toInt ∧ (I31 0 33).toInt ≤ 500; rw [q0, q1]; first | omega | decide)  _) (cwV 0 hts gX12_chain_X12_next rfl rfl rfl hy_X12_next ⟨Nat.le_of_ble_eq_true rfl, Nat.le_of_ble_eq_true rfl⟩) (z_preV (i := 0) hK hW rfl rfl) rfl rfl hl.1 rfl (lv_room (Nat.le_of_ble_eq_true rfl)) dX12_chain_98 ⟨Nat.le_of_ble_eq_true rfl, Nat.le_of_ble_eq_true rfl⟩) (fun u1 H locs hp hW hS => ?_)
        obtain ⟨I38, J40, e9, hI38mp, hI38mt, hI38rp, fI38, hp⟩ := hp
        rw [e9] at hW
        have f39 := z_fr_sub (L := L_X12_chain_1) f32 fI38 (by decide)
        have k41 : 0 ≤ (I38 0 47).toInt ∧ (I38 0 47).toInt ≤ 119 := by rw [fI38 0 47 (by decide)]; exact (by show 0 ≤ (I31 0 47).toInt ∧ (I31 0 47).toInt ≤ 119; rw [eI31, z_up_n (by decide)]; exact k16)
        have k42 : 0 ≤ (I38 0 39).toInt ∧ (I38 0 39).toInt ≤ 100 := by rw [fI38 0 39 (by decide)]; exact (by show 0 ≤ (I31 0 39).toInt ∧ (I31 0 39).toInt ≤ 100; rw [eI31, z_up_n (by decide)]; exact k17)
        have k43 : 0 ≤ (I38 0 40).toInt ∧ (I38 0 40).toInt ≤ 6199 := by rw [fI38 0 40 (by decide)]; exact (by show 0 ≤ (I31 0 40).toInt ∧ (I31 0 40).toInt ≤ 6199; rw [eI31, z_up_n (by decide)]; exact k18)
        have k44 : 0 ≤ (I38 0 15).toInt ∧ (I38 0 15).toInt ≤ 6100 := by rw [fI38 0 15 (by decide)]; exact (by show 0 ≤ (I31 0 15).toInt ∧ (I31 0 15).toInt ≤ 6100; rw [eI31, z_up_n (by decide)]; exact hI7mn)
        have k45 : 0 ≤ (I38 0 35).toInt ∧ (I38 0 35).toInt ≤ (I38 0 34).toInt ∧ (I38 0 34).toInt ≤ (I38 0 33).toInt ∧ (I38 0 33).toInt ≤ 500 ∧ ((I38 0 36).toInt = 0 ∨ (I38 0 35).toInt + 1 ≤ (I38 0 34).toInt) := hI38rp
        have k46 : (I38 0 42).toInt = (I7 0 42).toInt := by rw [fI38 0 42 (by decide), eI31, z_up_n (by decide)]
        have k47 : (I38 0 47).toInt = (I7 0 47).toInt := by rw [fI38 0 47 (by decide), eI31, z_up_n (by decide)]
        have k48 : (I38 0 39).toInt = (I7 0 39).toInt := by rw [fI38 0 39 (by decide), eI31, z_up_n (by decide)]
        have k49 : (I38 0 15).toInt = (I7 0 15).toInt := by rw [fI38 0 15 (by decide), eI31, z_up_n (by decide)]
        have k50 : (I38 0 40).toInt = (I7 0 40).toInt := by rw [fI38 0 40 (by decide), eI31, z_up_n (by decide)]
        have h51 := hp
        rw [show (I31 0 34) = (I7 0 34) from by rw [eI31, z_up_n (by decide)]] at h51
        refine lv_aload_n hx hb dX12_chain_101 rfl (lv_at hl 0 rfl) ?_
        refine lv_iload_n hx hb dX12_chain_102 rfl (lv_at hl 2 rfl) ?_
        refine lv_if_eq (tgt := 110) hx hb dX12_chain_103 (by decide) (fun c52 => absurd c52 (by decide)) (fun c52 => ?_)
        refine lv_iconst (v := 4) hx hb dX12_chain_106 (by decide) ?_
        refine lv_goto (tgt := 111) hx hb dX12_chain_107 (by decide) ?_
        refine z_cv hW hS hA (va_runV (As := [.int 4]) (rest := []) ⟨hx, hb, hml, hown, hts⟩ (sx_X12_begin l G ad I38 J40 ⟨(by show 0 ≤ (I38 0 47).toInt ∧ (I38 0 47).toInt ≤ 119; exact k41), (by show 0 ≤ (I38 0 39).toInt ∧ (I38 0 39).toInt ≤ 100; exact k42)⟩ 4 (by show (I38 0 47).toInt ≤ 118; omega) _) (cwV 1 hts gX12_chain_X12_begin rfl rfl rfl hy_X12_begin ⟨Nat.le_of_ble_eq_true rfl, Nat.le_of_ble_eq_true rfl⟩) (z_preV (i := 0) hK hW rfl rfl) rfl rfl hl.1 rfl (lv_room (Nat.le_of_ble_eq_true rfl)) dX12_chain_111 ⟨Nat.le_of_ble_eq_true rfl, Nat.le_of_ble_eq_true rfl⟩) (fun u1 H locs hp hW hS => ?_)
        obtain ⟨I53, J55, e9, hI53md, fI53, hp⟩ := hp
        rw [e9] at hW
        have f54 := z_fr_sub (L := L_X12_chain_1) f39 fI53 (by decide)
        have k56 : 0 ≤ (I53 0 31).toInt ∧ (I53 0 31).toInt ≤ 500 := by rw [fI53 0 31 (by decide)]; exact (by show 0 ≤ (I38 0 31).toInt ∧ (I38 0 31).toInt ≤ 500; exact hI38mp.1)
        have k57 : 0 ≤ (I53 0 33).toInt ∧ (I53 0 33).toInt ≤ 500 := by rw [fI53 0 33 (by decide)]; exact (by show 0 ≤ (I38 0 33).toInt ∧ (I38 0 33).toInt ≤ 500; exact hI38mp.2.1)
        have k58 : 0 ≤ (I53 0 34).toInt ∧ (I53 0 34).toInt ≤ 500 := by rw [fI53 0 34 (by decide)]; exact (by show 0 ≤ (I38 0 34).toInt ∧ (I38 0 34).toInt ≤ 500; exact hI38mp.2.2.1)
        have k59 : 0 ≤ (I53 0 35).toInt ∧ (I53 0 35).toInt ≤ 500 := by rw [fI53 0 35 (by decide)]; exact (by show 0 ≤ (I38 0 35).toInt ∧ (I38 0 35).toInt ≤ 500; exact hI38mp.2.2.2)
        have k60 : 0 ≤ (I53 0 36).toInt ∧ (I53 0 36).toInt ≤ 4 := by rw [fI53 0 36 (by decide)]; exact (by show 0 ≤ (I38 0 36).toInt ∧ (I38 0 36).toInt ≤ 4; exact hI38mt.1)
        have k61 : 0 ≤ (I53 0 42).toInt ∧ (I53 0 42).toInt ≤ 1 := by rw [fI53 0 42 (by decide)]; exact (by show 0 ≤ (I38 0 42).toInt ∧ (I38 0 42).toInt ≤ 1; exact hI38mt.2)
        have k62 : 0 ≤ (I53 0 40).toInt ∧ (I53 0 40).toInt ≤ 6199 := by rw [fI53 0 40 (by decide)]; exact (by show 0 ≤ (I38 0 40).toInt ∧ (I38 0 40).toInt ≤ 6199; exact k43)
        have k63 : 0 ≤ (I53 0 15).toInt ∧ (I53 0 15).toInt ≤ 6100 := by rw [fI53 0 15 (by decide)]; exact (by show 0 ≤ (I38 0 15).toInt ∧ (I38 0 15).toInt ≤ 6100; exact k44)
        have k64 : 0 ≤ (I53 0 35).toInt ∧ (I53 0 35).toInt ≤ (I53 0 34).toInt ∧ (I53 0 34).toInt ≤ (I53 0 33).toInt ∧ (I53 0 33).toInt ≤ 500 ∧ ((I53 0 36).toInt = 0 ∨ (I53 0 35).toInt + 1 ≤ (I53 0 34).toInt) := (by have q0 : (I53 0 35) = (I38 0 35) := (by rw [fI53 0 35 (by decide)]); have q1 : (I53 0 34) = (I38 0 34) := (by rw [fI53 0 34 (by decide)]); have q2 : (I53 0 33) = (I38 0 33) := (by rw [fI53 0 33 (by decide)]); have q3 : (I53 0 36) = (I38 0 36) := (by rw [fI53 0 36 (by decide)]); show 0 ≤ (I53 0 35).toInt ∧ (I53 0 35).toInt ≤ (I53 0 34).toInt ∧ (I53 0 34).toInt ≤ (I53 0 33).toInt ∧ (I53 0 33).toInt ≤ 500 ∧ ((I53 0 36).toInt = 0 ∨ (I53 0 35).toInt + 1 ≤ (I53 0 34).toInt); rw [q0, q1, q2, q3]; first | omega | decide)
        have k65 : (I53 0 35).toInt = (I38 0 35).toInt := by rw [fI53 0 35 (by decide)]
        have k66 : (I53 0 34).toInt = (I38 0 34).toInt := by rw [fI53 0 34 (by decide)]
        have k67 : (I53 0 36).toInt = (I38 0 36).toInt := by rw [fI53 0 36 (by decide)]
        have k68 : (I53 0 42).toInt = (I38 0 42).toInt := by rw [fI53 0 42 (by decide)]
        have k69 : (I53 0 39).toInt = (I38 0 39).toInt := by rw [fI53 0 39 (by decide)]
        have k70 : (I53 0 15).toInt = (I38 0 15).toInt := by rw [fI53 0 15 (by decide)]
        have k71 : (I53 0 40).toInt = (I38 0 40).toInt := by rw [fI53 0 40 (by decide)]
        have h72 := hp
        refine lv_goto (tgt := 127) hx hb dX12_chain_114 (by decide) ?_
        exact z_vret hx hb hr hK hS (Nat.le_of_ble_eq_true rfl) (Nat.le_of_ble_eq_true rfl) hlocks dX12_chain_127 (shM, ad, I53, J55, PM ad) hW ⟨I53, J55, rfl, ⟨(by show 0 ≤ (I53 0 31).toInt ∧ (I53 0 31).toInt ≤ 500; exact k56), (by show 0 ≤ (I53 0 33).toInt ∧ (I53 0 33).toInt ≤ 500; exact k57), (by show 0 ≤ (I53 0 34).toInt ∧ (I53 0 34).toInt ≤ 500; exact k58), (by show 0 ≤ (I53 0 35).toInt ∧ (I53 0 35).toInt ≤ 500; exact k59)⟩, ⟨(by show 0 ≤ (I53 0 36).toInt ∧ (I53 0 36).toInt ≤ 4; exact k60), (by show 0 ≤ (I53 0 42).toInt ∧ (I53 0 42).toInt ≤ 1; exact k61)⟩, ⟨(by show 0 ≤ (I53 0 47).toInt ∧ (I53 0 47).toInt ≤ 119; exact hI53md.1), (by show 0 ≤ (I53 0 39).toInt ∧ (I53 0 39).toInt ≤ 100; exact hI53md.2)⟩, (by show 0 ≤ (I53 0 40).toInt ∧ (I53 0 40).toInt ≤ 6199; exact k62), (by show 0 ≤ (I53 0 15).toInt ∧ (I53 0 15).toInt ≤ 6100; exact k63), (z_Nd_fr (z_Nd_fr a33 fI38 (by decide)) fI53 (by decide)), (by show 0 ≤ (I53 0 35).toInt ∧ (I53 0 35).toInt ≤ (I53 0 34).toInt ∧ (I53 0 34).toInt ≤ (I53 0 33).toInt ∧ (I53 0 33).toInt ≤ 500 ∧ ((I53 0 36).toInt = 0 ∨ (I53 0 35).toInt + 1 ≤ (I53 0 34).toInt); first | omega | decide), f54, ((Classical.em ((I53 0 42).toInt = 0)).elim (fun hw9 => Or.inr ⟨a1.toNatClampNeg + 2, by have w1 := z_fw_3np (a := va.toInt) (o := vo.toInt) (by omega) (by omega); have w2 := z_fo_3n (a := va.toInt); have w3 := z_fw_3np (a := va.toInt) (o := x27.toInt) (by omega) (by omega); have w4 := z_fo_3n (a := va.toInt); have w5 := z_fw_40 (a := 0) (o := -1) (by omega); have w6 := z_rk_3; have w7 := z_rk_4; exact z_PUSH (d := a1.toNatClampNeg) (w := 3) (a := va.toInt) (o := x27.toInt) (s := vs.toInt) (wi := 4) hPS (fun i hi => ⟨by rw [fI38 26 i (z_wr_c (by decide)), eI31, z_up_n (by decide), fI7 26 i (z_wr_c (by decide))], by rw [fI38 27 i (z_wr_c (by decide)), eI31, z_up_n (by decide), fI7 27 i (z_wr_c (by decide))], by rw [fI38 28 i (z_wr_c (by decide)), eI31, z_up_k (by omega), fI7 28 i (z_wr_c (by decide))], by rw [fI38 29 i (z_wr_c (by decide)), eI31, z_up_n (by decide), fI7 29 i (z_wr_c (by decide))]⟩) (by rw [show I38 26 a1.toNatClampNeg = vw from (by rw [fI38 26 a1.toNatClampNeg (z_wr_c (by decide)), eI31, z_up_n (by decide), fI7 26 a1.toNatClampNeg (z_wr_c (by decide))]; exact evw.symm)]; exact hvw) (by rw [show I38 27 a1.toNatClampNeg = va from (by rw [fI38 27 a1.toNatClampNeg (z_wr_c (by decide)), eI31, z_up_n (by decide), fI7 27 a1.toNatClampNeg (z_wr_c (by decide))]; exact eva.symm)]) (by rw [show I38 28 a1.toNatClampNeg = x27 from (by rw [fI38 28 a1.toNatClampNeg (z_wr_c (by decide)), eI31, z_up_s])]) (by rw [show I38 29 a1.toNatClampNeg = vs from (by rw [fI38 29 a1.toNatClampNeg (z_wr_c (by decide)), eI31, z_up_n (by decide), fI7 29 a1.toNatClampNeg (z_wr_c (by decide))]; exact evs.symm)]) (by unfold z_fv; omega) hwd (by omega) h72 z_l4 (by omega) (by omega) (by omega) (by omega) (by omega) (by omega) (by omega) (by omega)⟩) Or.inl)⟩
      · refine lv_if_eq (tgt := 117) hx hb dX12_chain_94 (by decide) (fun c73 => ?_) (fun c73 => absurd (by decide) c73)
        refine lv_aload_n hx hb dX12_chain_117 rfl (lv_at hl 0 rfl) ?_
        refine lv_aload_n hx hb dX12_chain_118 rfl (lv_at hl 0 rfl) ?_
        refine z_get (T := TX12) (N := 96) (ci := 12) (i := 0) (v := .ref (ad 28)) hx hb hts zj_X12_chain_X12 hown hK hW rfl rfl 45 (by decide) (hts (.fieldLink RX12 97 "PetrolBoardModel" "one" "[I") (me_s (me_l (me_l (List.mem_of_getElem? (i := 1) rfl))))) (fun _ h => h) rfl dX12_chain_119 ?_
        refine lv_iload_n hx hb dX12_chain_122 rfl (lv_at hl 1 rfl) ?_
        refine z_iald (i := 28) hx hb hK hW rfl (z_ix rfl (by omega) (by omega)) dX12_chain_123 ?_
        refine z_topi (v := x27) (by rw [eI31, z_up_s]) ?_
        refine z_cv hW hS hA (va_runV (As := [.int x27]) (rest := []) ⟨hx, hb, hml, hown, hts⟩ (sx_X12_ends l G ad I31 J9 ⟨(by show 0 ≤ (I31 0 47).toInt ∧ (I31 0 47).toInt ≤ 119; rw [eI31, z_up_n (by decide)]; exact k16), (by show 0 ≤ (I31 0 39).toInt ∧ (I31 0 39).toInt ≤ 100; rw [eI31, z_up_n (by decide)]; exact k17)⟩ (by show 0 ≤ (I31 0 40).toInt ∧ (I31 0 40).toInt ≤ 6199; rw [eI31, z_up_n (by decide)]; exact k18) x27 (by first | omega | decide) (by have q0 : (I31 0 47) = (I7 0 47) := (by rw [eI31, z_up_n (by decide)]); show 1 ≤ (I31 0 47).toInt; rw [q0]; omega) _) (cwV 1 hts gX12_chain_X12_ends rfl rfl rfl hy_X12_ends ⟨Nat.le_of_ble_eq_true rfl, Nat.le_of_ble_eq_true rfl⟩) (z_preV (i := 0) hK hW rfl rfl) rfl rfl hl.1 rfl (lv_room (Nat.le_of_ble_eq_true rfl)) dX12_chain_124 ⟨Nat.le_of_ble_eq_true rfl, Nat.le_of_ble_eq_true rfl⟩) (fun u1 H locs hp hW hS => ?_)
        obtain ⟨I74, J76, e9, hI74md, hI74mg, fI74, hp⟩ := hp
        rw [e9] at hW
        have f75 := z_fr_sub (L := L_X12_chain_1) f32 fI74 (by decide)
        have k77 : 0 ≤ (I74 0 31).toInt ∧ (I74 0 31).toInt ≤ 500 := by rw [fI74 0 31 (by decide)]; exact (by show 0 ≤ (I31 0 31).toInt ∧ (I31 0 31).toInt ≤ 500; rw [eI31, z_up_n (by decide)]; exact k10)
        have k78 : 0 ≤ (I74 0 33).toInt ∧ (I74 0 33).toInt ≤ 500 := by rw [fI74 0 33 (by decide)]; exact (by show 0 ≤ (I31 0 33).toInt ∧ (I31 0 33).toInt ≤ 500; rw [eI31, z_up_n (by decide)]; exact k11)
        have k79 : 0 ≤ (I74 0 34).toInt ∧ (I74 0 34).toInt ≤ 500 := by rw [fI74 0 34 (by decide)]; exact (by show 0 ≤ (I31 0 34).toInt ∧ (I31 0 34).toInt ≤ 500; rw [eI31, z_up_n (by decide)]; exact k12)
        have k80 : 0 ≤ (I74 0 35).toInt ∧ (I74 0 35).toInt ≤ 500 := by rw [fI74 0 35 (by decide)]; exact (by show 0 ≤ (I31 0 35).toInt ∧ (I31 0 35).toInt ≤ 500; rw [eI31, z_up_n (by decide)]; exact k13)
        have k81 : 0 ≤ (I74 0 36).toInt ∧ (I74 0 36).toInt ≤ 4 := by rw [fI74 0 36 (by decide)]; exact (by show 0 ≤ (I31 0 36).toInt ∧ (I31 0 36).toInt ≤ 4; rw [eI31, z_up_n (by decide)]; exact k14)
        have k82 : 0 ≤ (I74 0 42).toInt ∧ (I74 0 42).toInt ≤ 1 := by rw [fI74 0 42 (by decide)]; exact (by show 0 ≤ (I31 0 42).toInt ∧ (I31 0 42).toInt ≤ 1; rw [eI31, z_up_n (by decide)]; exact k15)
        have k83 : 0 ≤ (I74 0 15).toInt ∧ (I74 0 15).toInt ≤ 6100 := by rw [fI74 0 15 (by decide)]; exact (by show 0 ≤ (I31 0 15).toInt ∧ (I31 0 15).toInt ≤ 6100; rw [eI31, z_up_n (by decide)]; exact hI7mn)
        have k84 : 0 ≤ (I74 0 35).toInt ∧ (I74 0 35).toInt ≤ (I74 0 34).toInt ∧ (I74 0 34).toInt ≤ (I74 0 33).toInt ∧ (I74 0 33).toInt ≤ 500 ∧ ((I74 0 36).toInt = 0 ∨ (I74 0 35).toInt + 1 ≤ (I74 0 34).toInt) := (by have q0 : (I74 0 35) = (I7 0 35) := (by rw [fI74 0 35 (by decide), eI31, z_up_n (by decide)]); have q1 : (I74 0 34) = (I7 0 34) := (by rw [fI74 0 34 (by decide), eI31, z_up_n (by decide)]); have q2 : (I74 0 33) = (I7 0 33) := (by rw [fI74 0 33 (by decide), eI31, z_up_n (by decide)]); have q3 : (I74 0 36) = (I7 0 36) := (by rw [fI74 0 36 (by decide), eI31, z_up_n (by decide)]); show 0 ≤ (I74 0 35).toInt ∧ (I74 0 35).toInt ≤ (I74 0 34).toInt ∧ (I74 0 34).toInt ≤ (I74 0 33).toInt ∧ (I74 0 33).toInt ≤ 500 ∧ ((I74 0 36).toInt = 0 ∨ (I74 0 35).toInt + 1 ≤ (I74 0 34).toInt); rw [q0, q1, q2, q3]; first | omega | decide)
        have k85 : (I74 0 35).toInt = (I7 0 35).toInt := by rw [fI74 0 35 (by decide), eI31, z_up_n (by decide)]
        have k86 : (I74 0 34).toInt = (I7 0 34).toInt := by rw [fI74 0 34 (by decide), eI31, z_up_n (by decide)]
        have k87 : (I74 0 36).toInt = (I7 0 36).toInt := by rw [fI74 0 36 (by decide), eI31, z_up_n (by decide)]
        have k88 : (I74 0 42).toInt = (I7 0 42).toInt := by rw [fI74 0 42 (by decide), eI31, z_up_n (by decide)]
        have k89 : (I74 0 39).toInt = (I7 0 39).toInt := by rw [fI74 0 39 (by decide), eI31, z_up_n (by decide)]
        have k90 : (I74 0 15).toInt = (I7 0 15).toInt := by rw [fI74 0 15 (by decide), eI31, z_up_n (by decide)]
        have h91 := hp
        rw [show (I31 0 47) = (I7 0 47) from by rw [eI31, z_up_n (by decide)]] at h91
        exact z_vret hx hb hr hK hS (Nat.le_of_ble_eq_true rfl) (Nat.le_of_ble_eq_true rfl) hlocks dX12_chain_127 (shM, ad, I74, J76, PM ad) hW ⟨I74, J76, rfl, ⟨(by show 0 ≤ (I74 0 31).toInt ∧ (I74 0 31).toInt ≤ 500; exact k77), (by show 0 ≤ (I74 0 33).toInt ∧ (I74 0 33).toInt ≤ 500; exact k78), (by show 0 ≤ (I74 0 34).toInt ∧ (I74 0 34).toInt ≤ 500; exact k79), (by show 0 ≤ (I74 0 35).toInt ∧ (I74 0 35).toInt ≤ 500; exact k80)⟩, ⟨(by show 0 ≤ (I74 0 36).toInt ∧ (I74 0 36).toInt ≤ 4; exact k81), (by show 0 ≤ (I74 0 42).toInt ∧ (I74 0 42).toInt ≤ 1; exact k82)⟩, ⟨(by show 0 ≤ (I74 0 47).toInt ∧ (I74 0 47).toInt ≤ 119; exact hI74md.1), (by show 0 ≤ (I74 0 39).toInt ∧ (I74 0 39).toInt ≤ 100; exact hI74md.2)⟩, (by show 0 ≤ (I74 0 40).toInt ∧ (I74 0 40).toInt ≤ 6199; exact hI74mg), (by show 0 ≤ (I74 0 15).toInt ∧ (I74 0 15).toInt ≤ 6100; exact k83), (z_Nd_fr a33 fI74 (by decide)), (by show 0 ≤ (I74 0 35).toInt ∧ (I74 0 35).toInt ≤ (I74 0 34).toInt ∧ (I74 0 34).toInt ≤ (I74 0 33).toInt ∧ (I74 0 33).toInt ≤ 500 ∧ ((I74 0 36).toInt = 0 ∨ (I74 0 35).toInt + 1 ≤ (I74 0 34).toInt); first | omega | decide), f75, ((Classical.em ((I74 0 42).toInt = 0)).elim (fun hw9 => Or.inr ⟨a1.toNatClampNeg, by have w1 := z_fw_3np (a := va.toInt) (o := vo.toInt) (by omega) (by omega); have w2 := z_fo_3n (a := va.toInt); exact z_POP (d := a1.toNatClampNeg) hPS (fun i hi => ⟨by rw [fI74 26 i (z_wr_c (by decide)), eI31, z_up_n (by decide), fI7 26 i (z_wr_c (by decide))], by rw [fI74 27 i (z_wr_c (by decide)), eI31, z_up_n (by decide), fI7 27 i (z_wr_c (by decide))], by rw [fI74 28 i (z_wr_c (by decide)), eI31, z_up_k (by omega), fI7 28 i (z_wr_c (by decide))], by rw [fI74 29 i (z_wr_c (by decide)), eI31, z_up_n (by decide), fI7 29 i (z_wr_c (by decide))]⟩) (by omega) (by omega) (by omega) (by omega) (by omega) (by omega)⟩) Or.inl)⟩
    · have g92 := z_f_nge rfl z_l0 c3
      refine lv_aload_n hx hb dX12_chain_44 rfl (lv_at hl 0 rfl) ?_
      have r93 : 0 ≤ (I 0 40).toInt ∧ (I 0 40).toInt ≤ 6199 := hmg
      refine z_get (T := TX12) (N := 96) (ci := 12) (i := 0) (v := .int (I 0 40)) hx hb hts zj_X12_chain_X12 hown hK hW rfl rfl 40 (by decide) (hts (.fieldLink RX12 343 "PetrolBoardModel" "got" "I") (me_s (me_l (me_l (List.mem_of_getElem? (i := 2) rfl))))) (fun _ h => h) rfl dX12_chain_45 ?_
      refine lv_goto (tgt := 76) hx hb dX12_chain_48 (by decide) ?_
      refine z_iast (i := 28) hx hb hK hW hS rfl (z_ix rfl (by omega) (by omega)) dX12_chain_76 (fun H locs hz1 hW hS => ?_)
      obtain ⟨I94, eI94⟩ : ∃ K : z_I, K = z_up I 28 a1.toNatClampNeg (I 0 40) := ⟨_, rfl⟩
      rw [← eI94] at hW
      have f95 := z_fr_a z_fr_0 (show z_wa L_X12_chain_1 28 = true by decide) eI94
      have a96 := z_Nd_n hNd (by decide) eI94
      refine lv_aload_n hx hb dX12_chain_77 rfl (lv_at hl 0 rfl) ?_
      refine lv_iload_n hx hb dX12_chain_78 rfl (lv_at hl 2 rfl) ?_
      refine lv_if_eq (tgt := 88) hx hb dX12_chain_79 (by decide) (fun c97 => absurd c97 (by decide)) (fun c97 => ?_)
      refine lv_ldc2 (v := 423) hx hb hown (hts (.constantLong RX12 390 (423)) (me_s (me_l (me_l (List.mem_of_getElem? (i := 3) rfl))))) dX12_chain_82 ?_
      refine lv_goto (tgt := 91) hx hb dX12_chain_85 (by decide) ?_
      refine z_ci hW hS hA (va_runV (As := [.long 423]) (rest := []) ⟨hx, hb, hml, hown, hts⟩ (sx_X12_isWord l G ad I94 J ⟨(by show 0 ≤ (I94 0 36).toInt ∧ (I94 0 36).toInt ≤ 4; rw [eI94, z_up_n (by decide)]; exact hmt.1), (by show 0 ≤ (I94 0 42).toInt ∧ (I94 0 42).toInt ≤ 1; rw [eI94, z_up_n (by decide)]; exact hmt.2)⟩ 423 _) (cwV 1 hts gX12_chain_X12_isWord rfl rfl rfl hy_X12_isWord ⟨Nat.le_of_ble_eq_true rfl, Nat.le_of_ble_eq_true rfl⟩) (z_preV (i := 0) hK hW rfl rfl) rfl rfl hl.1 rfl (lv_room (Nat.le_of_ble_eq_true rfl)) dX12_chain_91 ⟨Nat.le_of_ble_eq_true rfl, Nat.le_of_ble_eq_true rfl⟩) (fun r u1 H locs hp hW hS => ?_)
      obtain ⟨e9, hp⟩ := hp
      rw [e9] at hW
      rcases hp with ⟨rfl, h98⟩ | rfl
      · rw [show (I94 0 36) = (I 0 36) from by rw [eI94, z_up_n (by decide)]] at h98
        have h99 : (I 0 35).toInt + 1 ≤ (I 0 34).toInt := by omega
        refine lv_if_eq (tgt := 117) hx hb dX12_chain_94 (by decide) (fun c100 => absurd c100 (by decide)) (fun c100 => ?_)
        refine lv_aload_n hx hb dX12_chain_97 rfl (lv_at hl 0 rfl) ?_
        refine z_cv hW hS hA (va_runV (As := []) (rest := []) ⟨hx, hb, hml, hown, hts⟩ (sx_X12_next l G ad I94 J ⟨(by show 0 ≤ (I94 0 31).toInt ∧ (I94 0 31).toInt ≤ 500; rw [eI94, z_up_n (by decide)]; exact hmp.1), (by show 0 ≤ (I94 0 33).toInt ∧ (I94 0 33).toInt ≤ 500; rw [eI94, z_up_n (by decide)]; exact hmp.2.1), (by show 0 ≤ (I94 0 34).toInt ∧ (I94 0 34).toInt ≤ 500; rw [eI94, z_up_n (by decide)]; exact hmp.2.2.1), (by show 0 ≤ (I94 0 35).toInt ∧ (I94 0 35).toInt ≤ 500; rw [eI94, z_up_n (by decide)]; exact hmp.2.2.2)⟩ ⟨(by show 0 ≤ (I94 0 36).toInt ∧ (I94 0 36).toInt ≤ 4; rw [eI94, z_up_n (by decide)]; exact hmt.1), (by show 0 ≤ (I94 0 42).toInt ∧ (I94 0 42).toInt ≤ 1; rw [eI94, z_up_n (by decide)]; exact hmt.2)⟩ (by have q0 : (I94 0 34) = (I 0 34) := (by rw [eI94, z_up_n (by decide)]); have q1 : (I94 0 33) = (I 0 33) := (by rw [eI94, z_up_n (by decide)]); show 0 ≤ (I94 0 34).toInt ∧ (I94 0 34).toInt ≤ (I94 0 33).toInt ∧ (I94 0 33).toInt ≤ 500; rw [q0, q1]; first | omega | decide)  _) (cwV 0 hts gX12_chain_X12_next rfl rfl rfl hy_X12_next ⟨Nat.le_of_ble_eq_true rfl, Nat.le_of_ble_eq_true rfl⟩) (z_preV (i := 0) hK hW rfl rfl) rfl rfl hl.1 rfl (lv_room (Nat.le_of_ble_eq_true rfl)) dX12_chain_98 ⟨Nat.le_of_ble_eq_true rfl, Nat.le_of_ble_eq_true rfl⟩) (fun u1 H locs hp hW hS => ?_)
        obtain ⟨I101, J103, e9, hI101mp, hI101mt, hI101rp, fI101, hp⟩ := hp
        rw [e9] at hW
        have f102 := z_fr_sub (L := L_X12_chain_1) f95 fI101 (by decide)
        have k104 : 0 ≤ (I101 0 47).toInt ∧ (I101 0 47).toInt ≤ 119 := by rw [fI101 0 47 (by decide)]; exact (by show 0 ≤ (I94 0 47).toInt ∧ (I94 0 47).toInt ≤ 119; rw [eI94, z_up_n (by decide)]; exact hmd.1)
        have k105 : 0 ≤ (I101 0 39).toInt ∧ (I101 0 39).toInt ≤ 100 := by rw [fI101 0 39 (by decide)]; exact (by show 0 ≤ (I94 0 39).toInt ∧ (I94 0 39).toInt ≤ 100; rw [eI94, z_up_n (by decide)]; exact hmd.2)
        have k106 : 0 ≤ (I101 0 40).toInt ∧ (I101 0 40).toInt ≤ 6199 := by rw [fI101 0 40 (by decide)]; exact (by show 0 ≤ (I94 0 40).toInt ∧ (I94 0 40).toInt ≤ 6199; rw [eI94, z_up_n (by decide)]; exact hmg)
        have k107 : 0 ≤ (I101 0 15).toInt ∧ (I101 0 15).toInt ≤ 6100 := by rw [fI101 0 15 (by decide)]; exact (by show 0 ≤ (I94 0 15).toInt ∧ (I94 0 15).toInt ≤ 6100; rw [eI94, z_up_n (by decide)]; exact hmn)
        have k108 : 0 ≤ (I101 0 35).toInt ∧ (I101 0 35).toInt ≤ (I101 0 34).toInt ∧ (I101 0 34).toInt ≤ (I101 0 33).toInt ∧ (I101 0 33).toInt ≤ 500 ∧ ((I101 0 36).toInt = 0 ∨ (I101 0 35).toInt + 1 ≤ (I101 0 34).toInt) := hI101rp
        have k109 : (I101 0 42).toInt = (I 0 42).toInt := by rw [fI101 0 42 (by decide), eI94, z_up_n (by decide)]
        have k110 : (I101 0 47).toInt = (I 0 47).toInt := by rw [fI101 0 47 (by decide), eI94, z_up_n (by decide)]
        have k111 : (I101 0 39).toInt = (I 0 39).toInt := by rw [fI101 0 39 (by decide), eI94, z_up_n (by decide)]
        have k112 : (I101 0 15).toInt = (I 0 15).toInt := by rw [fI101 0 15 (by decide), eI94, z_up_n (by decide)]
        have k113 : (I101 0 40).toInt = (I 0 40).toInt := by rw [fI101 0 40 (by decide), eI94, z_up_n (by decide)]
        have h114 := hp
        rw [show (I94 0 34) = (I 0 34) from by rw [eI94, z_up_n (by decide)]] at h114
        refine lv_aload_n hx hb dX12_chain_101 rfl (lv_at hl 0 rfl) ?_
        refine lv_iload_n hx hb dX12_chain_102 rfl (lv_at hl 2 rfl) ?_
        refine lv_if_eq (tgt := 110) hx hb dX12_chain_103 (by decide) (fun c115 => absurd c115 (by decide)) (fun c115 => ?_)
        refine lv_iconst (v := 4) hx hb dX12_chain_106 (by decide) ?_
        refine lv_goto (tgt := 111) hx hb dX12_chain_107 (by decide) ?_
        refine z_cv hW hS hA (va_runV (As := [.int 4]) (rest := []) ⟨hx, hb, hml, hown, hts⟩ (sx_X12_begin l G ad I101 J103 ⟨(by show 0 ≤ (I101 0 47).toInt ∧ (I101 0 47).toInt ≤ 119; exact k104), (by show 0 ≤ (I101 0 39).toInt ∧ (I101 0 39).toInt ≤ 100; exact k105)⟩ 4 (by show (I101 0 47).toInt ≤ 118; omega) _) (cwV 1 hts gX12_chain_X12_begin rfl rfl rfl hy_X12_begin ⟨Nat.le_of_ble_eq_true rfl, Nat.le_of_ble_eq_true rfl⟩) (z_preV (i := 0) hK hW rfl rfl) rfl rfl hl.1 rfl (lv_room (Nat.le_of_ble_eq_true rfl)) dX12_chain_111 ⟨Nat.le_of_ble_eq_true rfl, Nat.le_of_ble_eq_true rfl⟩) (fun u1 H locs hp hW hS => ?_)
        obtain ⟨I116, J118, e9, hI116md, fI116, hp⟩ := hp
        rw [e9] at hW
        have f117 := z_fr_sub (L := L_X12_chain_1) f102 fI116 (by decide)
        have k119 : 0 ≤ (I116 0 31).toInt ∧ (I116 0 31).toInt ≤ 500 := by rw [fI116 0 31 (by decide)]; exact (by show 0 ≤ (I101 0 31).toInt ∧ (I101 0 31).toInt ≤ 500; exact hI101mp.1)
        have k120 : 0 ≤ (I116 0 33).toInt ∧ (I116 0 33).toInt ≤ 500 := by rw [fI116 0 33 (by decide)]; exact (by show 0 ≤ (I101 0 33).toInt ∧ (I101 0 33).toInt ≤ 500; exact hI101mp.2.1)
        have k121 : 0 ≤ (I116 0 34).toInt ∧ (I116 0 34).toInt ≤ 500 := by rw [fI116 0 34 (by decide)]; exact (by show 0 ≤ (I101 0 34).toInt ∧ (I101 0 34).toInt ≤ 500; exact hI101mp.2.2.1)
        have k122 : 0 ≤ (I116 0 35).toInt ∧ (I116 0 35).toInt ≤ 500 := by rw [fI116 0 35 (by decide)]; exact (by show 0 ≤ (I101 0 35).toInt ∧ (I101 0 35).toInt ≤ 500; exact hI101mp.2.2.2)
        have k123 : 0 ≤ (I116 0 36).toInt ∧ (I116 0 36).toInt ≤ 4 := by rw [fI116 0 36 (by decide)]; exact (by show 0 ≤ (I101 0 36).toInt ∧ (I101 0 36).toInt ≤ 4; exact hI101mt.1)
        have k124 : 0 ≤ (I116 0 42).toInt ∧ (I116 0 42).toInt ≤ 1 := by rw [fI116 0 42 (by decide)]; exact (by show 0 ≤ (I101 0 42).toInt ∧ (I101 0 42).toInt ≤ 1; exact hI101mt.2)
        have k125 : 0 ≤ (I116 0 40).toInt ∧ (I116 0 40).toInt ≤ 6199 := by rw [fI116 0 40 (by decide)]; exact (by show 0 ≤ (I101 0 40).toInt ∧ (I101 0 40).toInt ≤ 6199; exact k106)
        have k126 : 0 ≤ (I116 0 15).toInt ∧ (I116 0 15).toInt ≤ 6100 := by rw [fI116 0 15 (by decide)]; exact (by show 0 ≤ (I101 0 15).toInt ∧ (I101 0 15).toInt ≤ 6100; exact k107)
        have k127 : 0 ≤ (I116 0 35).toInt ∧ (I116 0 35).toInt ≤ (I116 0 34).toInt ∧ (I116 0 34).toInt ≤ (I116 0 33).toInt ∧ (I116 0 33).toInt ≤ 500 ∧ ((I116 0 36).toInt = 0 ∨ (I116 0 35).toInt + 1 ≤ (I116 0 34).toInt) := (by have q0 : (I116 0 35) = (I101 0 35) := (by rw [fI116 0 35 (by decide)]); have q1 : (I116 0 34) = (I101 0 34) := (by rw [fI116 0 34 (by decide)]); have q2 : (I116 0 33) = (I101 0 33) := (by rw [fI116 0 33 (by decide)]); have q3 : (I116 0 36) = (I101 0 36) := (by rw [fI116 0 36 (by decide)]); show 0 ≤ (I116 0 35).toInt ∧ (I116 0 35).toInt ≤ (I116 0 34).toInt ∧ (I116 0 34).toInt ≤ (I116 0 33).toInt ∧ (I116 0 33).toInt ≤ 500 ∧ ((I116 0 36).toInt = 0 ∨ (I116 0 35).toInt + 1 ≤ (I116 0 34).toInt); rw [q0, q1, q2, q3]; first | omega | decide)
        have k128 : (I116 0 35).toInt = (I101 0 35).toInt := by rw [fI116 0 35 (by decide)]
        have k129 : (I116 0 34).toInt = (I101 0 34).toInt := by rw [fI116 0 34 (by decide)]
        have k130 : (I116 0 36).toInt = (I101 0 36).toInt := by rw [fI116 0 36 (by decide)]
        have k131 : (I116 0 42).toInt = (I101 0 42).toInt := by rw [fI116 0 42 (by decide)]
        have k132 : (I116 0 39).toInt = (I101 0 39).toInt := by rw [fI116 0 39 (by decide)]
        have k133 : (I116 0 15).toInt = (I101 0 15).toInt := by rw [fI116 0 15 (by decide)]
        have k134 : (I116 0 40).toInt = (I101 0 40).toInt := by rw [fI116 0 40 (by decide)]
        have h135 := hp
        refine lv_goto (tgt := 127) hx hb dX12_chain_114 (by decide) ?_
        exact z_vret hx hb hr hK hS (Nat.le_of_ble_eq_true rfl) (Nat.le_of_ble_eq_true rfl) hlocks dX12_chain_127 (shM, ad, I116, J118, PM ad) hW ⟨I116, J118, rfl, ⟨(by show 0 ≤ (I116 0 31).toInt ∧ (I116 0 31).toInt ≤ 500; exact k119), (by show 0 ≤ (I116 0 33).toInt ∧ (I116 0 33).toInt ≤ 500; exact k120), (by show 0 ≤ (I116 0 34).toInt ∧ (I116 0 34).toInt ≤ 500; exact k121), (by show 0 ≤ (I116 0 35).toInt ∧ (I116 0 35).toInt ≤ 500; exact k122)⟩, ⟨(by show 0 ≤ (I116 0 36).toInt ∧ (I116 0 36).toInt ≤ 4; exact k123), (by show 0 ≤ (I116 0 42).toInt ∧ (I116 0 42).toInt ≤ 1; exact k124)⟩, ⟨(by show 0 ≤ (I116 0 47).toInt ∧ (I116 0 47).toInt ≤ 119; exact hI116md.1), (by show 0 ≤ (I116 0 39).toInt ∧ (I116 0 39).toInt ≤ 100; exact hI116md.2)⟩, (by show 0 ≤ (I116 0 40).toInt ∧ (I116 0 40).toInt ≤ 6199; exact k125), (by show 0 ≤ (I116 0 15).toInt ∧ (I116 0 15).toInt ≤ 6100; exact k126), (z_Nd_fr (z_Nd_fr a96 fI101 (by decide)) fI116 (by decide)), (by show 0 ≤ (I116 0 35).toInt ∧ (I116 0 35).toInt ≤ (I116 0 34).toInt ∧ (I116 0 34).toInt ≤ (I116 0 33).toInt ∧ (I116 0 33).toInt ≤ 500 ∧ ((I116 0 36).toInt = 0 ∨ (I116 0 35).toInt + 1 ≤ (I116 0 34).toInt); first | omega | decide), f117, ((Classical.em ((I116 0 42).toInt = 0)).elim (fun hw9 => Or.inr ⟨a1.toNatClampNeg + 2, by have w1 := z_fw_3nm (a := va.toInt) (o := vo.toInt) (by omega) (by omega); have w2 := z_fo_3n (a := va.toInt); have w3 := z_fw_3np (a := va.toInt) (o := (I 0 40).toInt) (by omega) (by omega); have w4 := z_fo_3n (a := va.toInt); have w5 := z_fw_40 (a := 0) (o := -1) (by omega); have w6 := z_rk_3; have w7 := z_rk_4; exact z_PUSH (d := a1.toNatClampNeg) (w := 3) (a := va.toInt) (o := (I 0 40).toInt) (s := vs.toInt) (wi := 4) hPS (fun i hi => ⟨by rw [fI101 26 i (z_wr_c (by decide)), eI94, z_up_n (by decide)], by rw [fI101 27 i (z_wr_c (by decide)), eI94, z_up_n (by decide)], by rw [fI101 28 i (z_wr_c (by decide)), eI94, z_up_k (by omega)], by rw [fI101 29 i (z_wr_c (by decide)), eI94, z_up_n (by decide)]⟩) (by rw [show I101 26 a1.toNatClampNeg = vw from (by rw [fI101 26 a1.toNatClampNeg (z_wr_c (by decide)), eI94, z_up_n (by decide)]; exact evw.symm)]; exact hvw) (by rw [show I101 27 a1.toNatClampNeg = va from (by rw [fI101 27 a1.toNatClampNeg (z_wr_c (by decide)), eI94, z_up_n (by decide)]; exact eva.symm)]) (by rw [show I101 28 a1.toNatClampNeg = (I 0 40) from (by rw [fI101 28 a1.toNatClampNeg (z_wr_c (by decide)), eI94, z_up_s])]) (by rw [show I101 29 a1.toNatClampNeg = vs from (by rw [fI101 29 a1.toNatClampNeg (z_wr_c (by decide)), eI94, z_up_n (by decide)]; exact evs.symm)]) (by unfold z_fv; omega) hwd (by omega) h135 z_l4 (by omega) (by omega) (by omega) (by omega) (by omega) (by omega) (by omega) (by omega)⟩) Or.inl)⟩
      · refine lv_if_eq (tgt := 117) hx hb dX12_chain_94 (by decide) (fun c136 => ?_) (fun c136 => absurd (by decide) c136)
        refine lv_aload_n hx hb dX12_chain_117 rfl (lv_at hl 0 rfl) ?_
        refine lv_aload_n hx hb dX12_chain_118 rfl (lv_at hl 0 rfl) ?_
        refine z_get (T := TX12) (N := 96) (ci := 12) (i := 0) (v := .ref (ad 28)) hx hb hts zj_X12_chain_X12 hown hK hW rfl rfl 45 (by decide) (hts (.fieldLink RX12 97 "PetrolBoardModel" "one" "[I") (me_s (me_l (me_l (List.mem_of_getElem? (i := 1) rfl))))) (fun _ h => h) rfl dX12_chain_119 ?_
        refine lv_iload_n hx hb dX12_chain_122 rfl (lv_at hl 1 rfl) ?_
        refine z_iald (i := 28) hx hb hK hW rfl (z_ix rfl (by omega) (by omega)) dX12_chain_123 ?_
        refine z_topi (v := (I 0 40)) (by rw [eI94, z_up_s]) ?_
        refine z_cv hW hS hA (va_runV (As := [.int (I 0 40)]) (rest := []) ⟨hx, hb, hml, hown, hts⟩ (sx_X12_ends l G ad I94 J ⟨(by show 0 ≤ (I94 0 47).toInt ∧ (I94 0 47).toInt ≤ 119; rw [eI94, z_up_n (by decide)]; exact hmd.1), (by show 0 ≤ (I94 0 39).toInt ∧ (I94 0 39).toInt ≤ 100; rw [eI94, z_up_n (by decide)]; exact hmd.2)⟩ (by show 0 ≤ (I94 0 40).toInt ∧ (I94 0 40).toInt ≤ 6199; rw [eI94, z_up_n (by decide)]; exact hmg) (I 0 40) (by first | omega | decide) (by have q0 : (I94 0 47) = (I 0 47) := (by rw [eI94, z_up_n (by decide)]); show 1 ≤ (I94 0 47).toInt; rw [q0]; omega) _) (cwV 1 hts gX12_chain_X12_ends rfl rfl rfl hy_X12_ends ⟨Nat.le_of_ble_eq_true rfl, Nat.le_of_ble_eq_true rfl⟩) (z_preV (i := 0) hK hW rfl rfl) rfl rfl hl.1 rfl (lv_room (Nat.le_of_ble_eq_true rfl)) dX12_chain_124 ⟨Nat.le_of_ble_eq_true rfl, Nat.le_of_ble_eq_true rfl⟩) (fun u1 H locs hp hW hS => ?_)
        obtain ⟨I137, J139, e9, hI137md, hI137mg, fI137, hp⟩ := hp
        rw [e9] at hW
        have f138 := z_fr_sub (L := L_X12_chain_1) f95 fI137 (by decide)
        have k140 : 0 ≤ (I137 0 31).toInt ∧ (I137 0 31).toInt ≤ 500 := by rw [fI137 0 31 (by decide)]; exact (by show 0 ≤ (I94 0 31).toInt ∧ (I94 0 31).toInt ≤ 500; rw [eI94, z_up_n (by decide)]; exact hmp.1)
        have k141 : 0 ≤ (I137 0 33).toInt ∧ (I137 0 33).toInt ≤ 500 := by rw [fI137 0 33 (by decide)]; exact (by show 0 ≤ (I94 0 33).toInt ∧ (I94 0 33).toInt ≤ 500; rw [eI94, z_up_n (by decide)]; exact hmp.2.1)
        have k142 : 0 ≤ (I137 0 34).toInt ∧ (I137 0 34).toInt ≤ 500 := by rw [fI137 0 34 (by decide)]; exact (by show 0 ≤ (I94 0 34).toInt ∧ (I94 0 34).toInt ≤ 500; rw [eI94, z_up_n (by decide)]; exact hmp.2.2.1)
        have k143 : 0 ≤ (I137 0 35).toInt ∧ (I137 0 35).toInt ≤ 500 := by rw [fI137 0 35 (by decide)]; exact (by show 0 ≤ (I94 0 35).toInt ∧ (I94 0 35).toInt ≤ 500; rw [eI94, z_up_n (by decide)]; exact hmp.2.2.2)
        have k144 : 0 ≤ (I137 0 36).toInt ∧ (I137 0 36).toInt ≤ 4 := by rw [fI137 0 36 (by decide)]; exact (by show 0 ≤ (I94 0 36).toInt ∧ (I94 0 36).toInt ≤ 4; rw [eI94, z_up_n (by decide)]; exact hmt.1)
        have k145 : 0 ≤ (I137 0 42).toInt ∧ (I137 0 42).toInt ≤ 1 := by rw [fI137 0 42 (by decide)]; exact (by show 0 ≤ (I94 0 42).toInt ∧ (I94 0 42).toInt ≤ 1; rw [eI94, z_up_n (by decide)]; exact hmt.2)
        have k146 : 0 ≤ (I137 0 15).toInt ∧ (I137 0 15).toInt ≤ 6100 := by rw [fI137 0 15 (by decide)]; exact (by show 0 ≤ (I94 0 15).toInt ∧ (I94 0 15).toInt ≤ 6100; rw [eI94, z_up_n (by decide)]; exact hmn)
        have k147 : 0 ≤ (I137 0 35).toInt ∧ (I137 0 35).toInt ≤ (I137 0 34).toInt ∧ (I137 0 34).toInt ≤ (I137 0 33).toInt ∧ (I137 0 33).toInt ≤ 500 ∧ ((I137 0 36).toInt = 0 ∨ (I137 0 35).toInt + 1 ≤ (I137 0 34).toInt) := (by have q0 : (I137 0 35) = (I 0 35) := (by rw [fI137 0 35 (by decide), eI94, z_up_n (by decide)]); have q1 : (I137 0 34) = (I 0 34) := (by rw [fI137 0 34 (by decide), eI94, z_up_n (by decide)]); have q2 : (I137 0 33) = (I 0 33) := (by rw [fI137 0 33 (by decide), eI94, z_up_n (by decide)]); have q3 : (I137 0 36) = (I 0 36) := (by rw [fI137 0 36 (by decide), eI94, z_up_n (by decide)]); show 0 ≤ (I137 0 35).toInt ∧ (I137 0 35).toInt ≤ (I137 0 34).toInt ∧ (I137 0 34).toInt ≤ (I137 0 33).toInt ∧ (I137 0 33).toInt ≤ 500 ∧ ((I137 0 36).toInt = 0 ∨ (I137 0 35).toInt + 1 ≤ (I137 0 34).toInt); rw [q0, q1, q2, q3]; first | omega | decide)
        have k148 : (I137 0 35).toInt = (I 0 35).toInt := by rw [fI137 0 35 (by decide), eI94, z_up_n (by decide)]
        have k149 : (I137 0 34).toInt = (I 0 34).toInt := by rw [fI137 0 34 (by decide), eI94, z_up_n (by decide)]
        have k150 : (I137 0 36).toInt = (I 0 36).toInt := by rw [fI137 0 36 (by decide), eI94, z_up_n (by decide)]
        have k151 : (I137 0 42).toInt = (I 0 42).toInt := by rw [fI137 0 42 (by decide), eI94, z_up_n (by decide)]
        have k152 : (I137 0 39).toInt = (I 0 39).toInt := by rw [fI137 0 39 (by decide), eI94, z_up_n (by decide)]
        have k153 : (I137 0 15).toInt = (I 0 15).toInt := by rw [fI137 0 15 (by decide), eI94, z_up_n (by decide)]
        have h154 := hp
        rw [show (I94 0 47) = (I 0 47) from by rw [eI94, z_up_n (by decide)]] at h154
        exact z_vret hx hb hr hK hS (Nat.le_of_ble_eq_true rfl) (Nat.le_of_ble_eq_true rfl) hlocks dX12_chain_127 (shM, ad, I137, J139, PM ad) hW ⟨I137, J139, rfl, ⟨(by show 0 ≤ (I137 0 31).toInt ∧ (I137 0 31).toInt ≤ 500; exact k140), (by show 0 ≤ (I137 0 33).toInt ∧ (I137 0 33).toInt ≤ 500; exact k141), (by show 0 ≤ (I137 0 34).toInt ∧ (I137 0 34).toInt ≤ 500; exact k142), (by show 0 ≤ (I137 0 35).toInt ∧ (I137 0 35).toInt ≤ 500; exact k143)⟩, ⟨(by show 0 ≤ (I137 0 36).toInt ∧ (I137 0 36).toInt ≤ 4; exact k144), (by show 0 ≤ (I137 0 42).toInt ∧ (I137 0 42).toInt ≤ 1; exact k145)⟩, ⟨(by show 0 ≤ (I137 0 47).toInt ∧ (I137 0 47).toInt ≤ 119; exact hI137md.1), (by show 0 ≤ (I137 0 39).toInt ∧ (I137 0 39).toInt ≤ 100; exact hI137md.2)⟩, (by show 0 ≤ (I137 0 40).toInt ∧ (I137 0 40).toInt ≤ 6199; exact hI137mg), (by show 0 ≤ (I137 0 15).toInt ∧ (I137 0 15).toInt ≤ 6100; exact k146), (z_Nd_fr a96 fI137 (by decide)), (by show 0 ≤ (I137 0 35).toInt ∧ (I137 0 35).toInt ≤ (I137 0 34).toInt ∧ (I137 0 34).toInt ≤ (I137 0 33).toInt ∧ (I137 0 33).toInt ≤ 500 ∧ ((I137 0 36).toInt = 0 ∨ (I137 0 35).toInt + 1 ≤ (I137 0 34).toInt); first | omega | decide), f138, ((Classical.em ((I137 0 42).toInt = 0)).elim (fun hw9 => Or.inr ⟨a1.toNatClampNeg, by have w1 := z_fw_3nm (a := va.toInt) (o := vo.toInt) (by omega) (by omega); have w2 := z_fo_3n (a := va.toInt); exact z_POP (d := a1.toNatClampNeg) hPS (fun i hi => ⟨by rw [fI137 26 i (z_wr_c (by decide)), eI94, z_up_n (by decide)], by rw [fI137 27 i (z_wr_c (by decide)), eI94, z_up_n (by decide)], by rw [fI137 28 i (z_wr_c (by decide)), eI94, z_up_k (by omega)], by rw [fI137 29 i (z_wr_c (by decide)), eI94, z_up_n (by decide)]⟩) (by omega) (by omega) (by omega) (by omega) (by omega) (by omega)⟩) Or.inl)⟩
  · have g155 := z_f_eq rfl z_l0 c1
    refine lv_aload_n hx hb dX12_chain_9 rfl (lv_at hl 0 rfl) ?_
    refine z_get (T := TX12) (N := 96) (ci := 12) (i := 0) (v := .ref (ad 27)) hx hb hts zj_X12_chain_X12 hown hK hW rfl rfl 44 (by decide) (hts (.fieldLink RX12 94 "PetrolBoardModel" "at" "[I") (me_s (me_l (me_l (List.mem_of_getElem? (i := 0) rfl))))) (fun _ h => h) rfl dX12_chain_10 ?_
    refine lv_iload_n hx hb dX12_chain_13 rfl (lv_at hl 1 rfl) ?_
    refine lv_iconst (v := 1) hx hb dX12_chain_14 (by decide) ?_
    refine z_iast (i := 27) hx hb hK hW hS rfl (z_ix rfl (by omega) (by omega)) dX12_chain_15 (fun H locs hz1 hW hS => ?_)
    obtain ⟨I156, eI156⟩ : ∃ K : z_I, K = z_up I 27 a1.toNatClampNeg 1 := ⟨_, rfl⟩
    rw [← eI156] at hW
    have f157 := z_fr_a z_fr_0 (show z_wa L_X12_chain_1 27 = true by decide) eI156
    have a158 := z_Nd_n hNd (by decide) eI156
    refine lv_aload_n hx hb dX12_chain_16 rfl (lv_at hl 0 rfl) ?_
    refine lv_iload_n hx hb dX12_chain_17 rfl (lv_at hl 2 rfl) ?_
    refine lv_if_eq (tgt := 25) hx hb dX12_chain_18 (by decide) (fun c159 => absurd c159 (by decide)) (fun c159 => ?_)
    refine lv_iconst (v := 4) hx hb dX12_chain_21 (by decide) ?_
    refine lv_goto (tgt := 26) hx hb dX12_chain_22 (by decide) ?_
    refine z_cv hW hS hA (va_runV (As := [.int 4]) (rest := []) ⟨hx, hb, hml, hown, hts⟩ (sx_X12_begin l G ad I156 J ⟨(by show 0 ≤ (I156 0 47).toInt ∧ (I156 0 47).toInt ≤ 119; rw [eI156, z_up_n (by decide)]; exact hmd.1), (by show 0 ≤ (I156 0 39).toInt ∧ (I156 0 39).toInt ≤ 100; rw [eI156, z_up_n (by decide)]; exact hmd.2)⟩ 4 (by have q0 : (I156 0 47) = (I 0 47) := (by rw [eI156, z_up_n (by decide)]); show (I156 0 47).toInt ≤ 118; rw [q0]; omega) _) (cwV 1 hts gX12_chain_X12_begin rfl rfl rfl hy_X12_begin ⟨Nat.le_of_ble_eq_true rfl, Nat.le_of_ble_eq_true rfl⟩) (z_preV (i := 0) hK hW rfl rfl) rfl rfl hl.1 rfl (lv_room (Nat.le_of_ble_eq_true rfl)) dX12_chain_26 ⟨Nat.le_of_ble_eq_true rfl, Nat.le_of_ble_eq_true rfl⟩) (fun u1 H locs hp hW hS => ?_)
    obtain ⟨I160, J162, e9, hI160md, fI160, hp⟩ := hp
    rw [e9] at hW
    have f161 := z_fr_sub (L := L_X12_chain_1) f157 fI160 (by decide)
    have k163 : 0 ≤ (I160 0 31).toInt ∧ (I160 0 31).toInt ≤ 500 := by rw [fI160 0 31 (by decide)]; exact (by show 0 ≤ (I156 0 31).toInt ∧ (I156 0 31).toInt ≤ 500; rw [eI156, z_up_n (by decide)]; exact hmp.1)
    have k164 : 0 ≤ (I160 0 33).toInt ∧ (I160 0 33).toInt ≤ 500 := by rw [fI160 0 33 (by decide)]; exact (by show 0 ≤ (I156 0 33).toInt ∧ (I156 0 33).toInt ≤ 500; rw [eI156, z_up_n (by decide)]; exact hmp.2.1)
    have k165 : 0 ≤ (I160 0 34).toInt ∧ (I160 0 34).toInt ≤ 500 := by rw [fI160 0 34 (by decide)]; exact (by show 0 ≤ (I156 0 34).toInt ∧ (I156 0 34).toInt ≤ 500; rw [eI156, z_up_n (by decide)]; exact hmp.2.2.1)
    have k166 : 0 ≤ (I160 0 35).toInt ∧ (I160 0 35).toInt ≤ 500 := by rw [fI160 0 35 (by decide)]; exact (by show 0 ≤ (I156 0 35).toInt ∧ (I156 0 35).toInt ≤ 500; rw [eI156, z_up_n (by decide)]; exact hmp.2.2.2)
    have k167 : 0 ≤ (I160 0 36).toInt ∧ (I160 0 36).toInt ≤ 4 := by rw [fI160 0 36 (by decide)]; exact (by show 0 ≤ (I156 0 36).toInt ∧ (I156 0 36).toInt ≤ 4; rw [eI156, z_up_n (by decide)]; exact hmt.1)
    have k168 : 0 ≤ (I160 0 42).toInt ∧ (I160 0 42).toInt ≤ 1 := by rw [fI160 0 42 (by decide)]; exact (by show 0 ≤ (I156 0 42).toInt ∧ (I156 0 42).toInt ≤ 1; rw [eI156, z_up_n (by decide)]; exact hmt.2)
    have k169 : 0 ≤ (I160 0 40).toInt ∧ (I160 0 40).toInt ≤ 6199 := by rw [fI160 0 40 (by decide)]; exact (by show 0 ≤ (I156 0 40).toInt ∧ (I156 0 40).toInt ≤ 6199; rw [eI156, z_up_n (by decide)]; exact hmg)
    have k170 : 0 ≤ (I160 0 15).toInt ∧ (I160 0 15).toInt ≤ 6100 := by rw [fI160 0 15 (by decide)]; exact (by show 0 ≤ (I156 0 15).toInt ∧ (I156 0 15).toInt ≤ 6100; rw [eI156, z_up_n (by decide)]; exact hmn)
    have k171 : 0 ≤ (I160 0 35).toInt ∧ (I160 0 35).toInt ≤ (I160 0 34).toInt ∧ (I160 0 34).toInt ≤ (I160 0 33).toInt ∧ (I160 0 33).toInt ≤ 500 ∧ ((I160 0 36).toInt = 0 ∨ (I160 0 35).toInt + 1 ≤ (I160 0 34).toInt) := (by have q0 : (I160 0 35) = (I 0 35) := (by rw [fI160 0 35 (by decide), eI156, z_up_n (by decide)]); have q1 : (I160 0 34) = (I 0 34) := (by rw [fI160 0 34 (by decide), eI156, z_up_n (by decide)]); have q2 : (I160 0 33) = (I 0 33) := (by rw [fI160 0 33 (by decide), eI156, z_up_n (by decide)]); have q3 : (I160 0 36) = (I 0 36) := (by rw [fI160 0 36 (by decide), eI156, z_up_n (by decide)]); show 0 ≤ (I160 0 35).toInt ∧ (I160 0 35).toInt ≤ (I160 0 34).toInt ∧ (I160 0 34).toInt ≤ (I160 0 33).toInt ∧ (I160 0 33).toInt ≤ 500 ∧ ((I160 0 36).toInt = 0 ∨ (I160 0 35).toInt + 1 ≤ (I160 0 34).toInt); rw [q0, q1, q2, q3]; first | omega | decide)
    have k172 : (I160 0 35).toInt = (I 0 35).toInt := by rw [fI160 0 35 (by decide), eI156, z_up_n (by decide)]
    have k173 : (I160 0 34).toInt = (I 0 34).toInt := by rw [fI160 0 34 (by decide), eI156, z_up_n (by decide)]
    have k174 : (I160 0 36).toInt = (I 0 36).toInt := by rw [fI160 0 36 (by decide), eI156, z_up_n (by decide)]
    have k175 : (I160 0 42).toInt = (I 0 42).toInt := by rw [fI160 0 42 (by decide), eI156, z_up_n (by decide)]
    have k176 : (I160 0 39).toInt = (I 0 39).toInt := by rw [fI160 0 39 (by decide), eI156, z_up_n (by decide)]
    have k177 : (I160 0 15).toInt = (I 0 15).toInt := by rw [fI160 0 15 (by decide), eI156, z_up_n (by decide)]
    have k178 : (I160 0 40).toInt = (I 0 40).toInt := by rw [fI160 0 40 (by decide), eI156, z_up_n (by decide)]
    have h179 := hp
    exact z_vret hx hb hr hK hS (Nat.le_of_ble_eq_true rfl) (Nat.le_of_ble_eq_true rfl) hlocks dX12_chain_29 (shM, ad, I160, J162, PM ad) hW ⟨I160, J162, rfl, ⟨(by show 0 ≤ (I160 0 31).toInt ∧ (I160 0 31).toInt ≤ 500; exact k163), (by show 0 ≤ (I160 0 33).toInt ∧ (I160 0 33).toInt ≤ 500; exact k164), (by show 0 ≤ (I160 0 34).toInt ∧ (I160 0 34).toInt ≤ 500; exact k165), (by show 0 ≤ (I160 0 35).toInt ∧ (I160 0 35).toInt ≤ 500; exact k166)⟩, ⟨(by show 0 ≤ (I160 0 36).toInt ∧ (I160 0 36).toInt ≤ 4; exact k167), (by show 0 ≤ (I160 0 42).toInt ∧ (I160 0 42).toInt ≤ 1; exact k168)⟩, ⟨(by show 0 ≤ (I160 0 47).toInt ∧ (I160 0 47).toInt ≤ 119; exact hI160md.1), (by show 0 ≤ (I160 0 39).toInt ∧ (I160 0 39).toInt ≤ 100; exact hI160md.2)⟩, (by show 0 ≤ (I160 0 40).toInt ∧ (I160 0 40).toInt ≤ 6199; exact k169), (by show 0 ≤ (I160 0 15).toInt ∧ (I160 0 15).toInt ≤ 6100; exact k170), (z_Nd_fr a158 fI160 (by decide)), (by show 0 ≤ (I160 0 35).toInt ∧ (I160 0 35).toInt ≤ (I160 0 34).toInt ∧ (I160 0 34).toInt ≤ (I160 0 33).toInt ∧ (I160 0 33).toInt ≤ 500 ∧ ((I160 0 36).toInt = 0 ∨ (I160 0 35).toInt + 1 ≤ (I160 0 34).toInt); first | omega | decide), f161, ((Classical.em ((I160 0 42).toInt = 0)).elim (fun hw9 => Or.inr ⟨a1.toNatClampNeg + 2, by have w1 := z_fw_30 (a := va.toInt) (o := vo.toInt) (by omega); have w2 := z_fo_3n (a := va.toInt); have w3 := z_fw_3nm (a := 1) (o := vo.toInt) (by omega) (by omega); have w4 := z_fo_3n (a := 1); have w5 := z_fw_40 (a := 0) (o := -1) (by omega); have w6 := z_rk_3; have w7 := z_rk_4; exact z_PUSH (d := a1.toNatClampNeg) (w := 3) (a := 1) (o := vo.toInt) (s := vs.toInt) (wi := 4) hPS (fun i hi => ⟨by rw [eI156, z_up_n (by decide)], by rw [eI156, z_up_k (by omega)], by rw [eI156, z_up_n (by decide)], by rw [eI156, z_up_n (by decide)]⟩) (by rw [show I156 26 a1.toNatClampNeg = vw from (by rw [eI156, z_up_n (by decide)]; exact evw.symm)]; exact hvw) (by rw [show I156 27 a1.toNatClampNeg = 1 from (by rw [eI156, z_up_s])]; exact z_l1) (by rw [show I156 28 a1.toNatClampNeg = vo from (by rw [eI156, z_up_n (by decide)]; exact evo.symm)]) (by rw [show I156 29 a1.toNatClampNeg = vs from (by rw [eI156, z_up_n (by decide)]; exact evs.symm)]) (by unfold z_fv; omega) hwd (by rw [eI156, z_up_n (by decide)]; omega) h179 z_l4 (by omega) (by omega) (by omega) (by omega) (by omega) (by omega) (by omega) (by omega)⟩) Or.inl)⟩
noncomputable def L_X12_chain_0 : z_L := [(0, 35), (0, 36), (0, 37), (0, 38), (0, 34), (0, 42), (0, 32), (0, 39), (21, 999), (22, 999), (23, 999), (0, 15), (26, 999), (27, 999), (28, 999), (29, 999), (0, 47), (0, 40)]
set_option maxHeartbeats 8000000 in
set_option maxRecDepth 100000 in
theorem sx_X12_chain_0 (l : Launch) (G : z_G) (ad : Nat → Nat) (I : z_I) (J : z_J) (hmp : z_imp I) (hmt : z_imt I) (hmd : z_imd I) (hmg : z_img I) (hmn : z_imn I) (hNd : z_Nd I) (hrp : z_irp I) (B : Int) (a1 : Int32) (q1 : 0 ≤ a1.toInt ∧ a1.toInt ≤ 33) (hwd : (I 26 a1.toNatClampNeg).toInt = 4) (hPS : z_PS I (a1.toNatClampNeg + 1) B) : z_Mv l yX12_chain wsX12_chain { frames := 3, cells := 0, slots := 0, locals := 55 } [.ref (ad 0), .int a1, .int 0] G (shM, ad, I, J, PM ad) (fun u1 => ∃ (I1 : z_I) (J1 : z_J), u1 = (shM, ad, I1, J1, PM ad) ∧ z_imp I1 ∧ z_imt I1 ∧ z_imd I1 ∧ z_img I1 ∧ z_imn I1 ∧ z_Nd I1 ∧ z_irp I1 ∧ z_fr L_X12_chain_0 I1 I ∧ (¬ (I1 0 42).toInt = 0 ∨ ∃ n, z_PS I1 n (B - 1))) 0 0 := by
  intro sz
  refine z_headQ (cc := cX12_chain) (maxL := 3) (ret := none) (by decide) rfl (Nat.le_of_ble_eq_true rfl) ?_
  intro p e s m below meth c0 ls hIn hK hsz hW hl
  obtain ⟨hx, hb, hr, hml, hown, hts, hlocks, hname⟩ := hIn
  subst hsz
  have hown : s.vm.findClass RX12 = some m.cls := hown
  have hA : ∀ q : Nat, s.heap.size ≤ q → z_A (shM, ad, I, J, PM ad) s.heap.size q := fun q h => Or.inr h
  generalize hAe : z_A (shM, ad, I, J, PM ad) s.heap.size = A at *
  have hS : va_S A s.heap s.heap [] := va_S.rf
  have hl : lv_has ls 3 [(0, .ref (ad 0)), (1, .int a1), (2, .int 0)] := hl
  obtain ⟨va, eva⟩ : ∃ y, y = I 27 a1.toNatClampNeg := ⟨_, rfl⟩
  obtain ⟨vo, evo⟩ : ∃ y, y = I 28 a1.toNatClampNeg := ⟨_, rfl⟩
  obtain ⟨vs, evs⟩ : ∃ y, y = I 29 a1.toNatClampNeg := ⟨_, rfl⟩
  have hT := z_top hPS
  unfold z_fv at hT
  rw [hwd, ← eva, ← evo, ← evs] at hT
  obtain ⟨t1, t2, t3, t4, t5, t6, t7, t8, t9, t10, t11, t12, t13, t14, t15, t16, t17, t18, t19, t20, t21⟩ := hT
  have hk9 := z_clt (x := a1) rfl q1.1
  have hcw := z_fwc_4 va.toInt vo.toInt
  have hcf := z_foc_4 va.toInt
  obtain ⟨vw, evw⟩ : ∃ y, y = I 26 a1.toNatClampNeg := ⟨_, rfl⟩
  have hvw : vw.toInt = 4 := by rw [evw]; exact hwd
  have krp : 0 ≤ (I 0 35).toInt ∧ (I 0 35).toInt ≤ (I 0 34).toInt ∧ (I 0 34).toInt ≤ (I 0 33).toInt ∧ (I 0 33).toInt ≤ 500 ∧ ((I 0 36).toInt = 0 ∨ (I 0 35).toInt + 1 ≤ (I 0 34).toInt) := hrp
  refine lv_aload_n hx hb dX12_chain_0 rfl (lv_at hl 0 rfl) ?_
  refine z_get (T := TX12) (N := 96) (ci := 12) (i := 0) (v := .ref (ad 27)) hx hb hts zj_X12_chain_X12 hown hK hW rfl rfl 44 (by decide) (hts (.fieldLink RX12 94 "PetrolBoardModel" "at" "[I") (me_s (me_l (me_l (List.mem_of_getElem? (i := 0) rfl))))) (fun _ h => h) rfl dX12_chain_1 ?_
  refine lv_iload_n hx hb dX12_chain_4 rfl (lv_at hl 1 rfl) ?_
  refine z_iald (i := 27) hx hb hK hW rfl (z_ix rfl (by omega) (by omega)) dX12_chain_5 ?_
  refine z_topi (v := va) eva.symm ?_
  refine lv_if_ne (tgt := 30) hx hb dX12_chain_6 (by decide) (fun c1 => ?_) (fun c1 => ?_)
  · have g2 := z_f_ne rfl z_l0 c1
    refine lv_aload_n hx hb dX12_chain_30 rfl (lv_at hl 0 rfl) ?_
    refine z_get (T := TX12) (N := 96) (ci := 12) (i := 0) (v := .ref (ad 28)) hx hb hts zj_X12_chain_X12 hown hK hW rfl rfl 45 (by decide) (hts (.fieldLink RX12 97 "PetrolBoardModel" "one" "[I") (me_s (me_l (me_l (List.mem_of_getElem? (i := 1) rfl))))) (fun _ h => h) rfl dX12_chain_31 ?_
    refine lv_iload_n hx hb dX12_chain_34 rfl (lv_at hl 1 rfl) ?_
    refine lv_aload_n hx hb dX12_chain_35 rfl (lv_at hl 0 rfl) ?_
    refine z_get (T := TX12) (N := 96) (ci := 12) (i := 0) (v := .ref (ad 28)) hx hb hts zj_X12_chain_X12 hown hK hW rfl rfl 45 (by decide) (hts (.fieldLink RX12 97 "PetrolBoardModel" "one" "[I") (me_s (me_l (me_l (List.mem_of_getElem? (i := 1) rfl))))) (fun _ h => h) rfl dX12_chain_36 ?_
    refine lv_iload_n hx hb dX12_chain_39 rfl (lv_at hl 1 rfl) ?_
    refine z_iald (i := 28) hx hb hK hW rfl (z_ix rfl (by omega) (by omega)) dX12_chain_40 ?_
    refine z_topi (v := vo) evo.symm ?_
    refine lv_if_ge (tgt := 51) hx hb dX12_chain_41 (by decide) (fun c3 => ?_) (fun c3 => ?_)
    · have g4 := z_f_ge rfl z_l0 c3
      refine lv_aload_n hx hb dX12_chain_51 rfl (lv_at hl 0 rfl) ?_
      refine lv_iload_n hx hb dX12_chain_52 rfl (lv_at hl 2 rfl) ?_
      refine lv_if_eq (tgt := 61) hx hb dX12_chain_53 (by decide) (fun c5 => ?_) (fun c5 => absurd (by decide) c5)
      refine lv_bipush (v := 12) hx hb dX12_chain_61 (by decide) ?_
      refine lv_aload_n hx hb dX12_chain_63 rfl (lv_at hl 0 rfl) ?_
      refine z_get (T := TX12) (N := 96) (ci := 12) (i := 0) (v := .ref (ad 28)) hx hb hts zj_X12_chain_X12 hown hK hW rfl rfl 45 (by decide) (hts (.fieldLink RX12 97 "PetrolBoardModel" "one" "[I") (me_s (me_l (me_l (List.mem_of_getElem? (i := 1) rfl))))) (fun _ h => h) rfl dX12_chain_64 ?_
      refine lv_iload_n hx hb dX12_chain_67 rfl (lv_at hl 1 rfl) ?_
      refine z_iald (i := 28) hx hb hK hW rfl (z_ix rfl (by omega) (by omega)) dX12_chain_68 ?_
      refine z_topi (v := vo) evo.symm ?_
      refine lv_aload_n hx hb dX12_chain_69 rfl (lv_at hl 0 rfl) ?_
      have r6 : 0 ≤ (I 0 40).toInt ∧ (I 0 40).toInt ≤ 6199 := hmg
      refine z_get (T := TX12) (N := 96) (ci := 12) (i := 0) (v := .int (I 0 40)) hx hb hts zj_X12_chain_X12 hown hK hW rfl rfl 40 (by decide) (hts (.fieldLink RX12 343 "PetrolBoardModel" "got" "I") (me_s (me_l (me_l (List.mem_of_getElem? (i := 2) rfl))))) (fun _ h => h) rfl dX12_chain_70 ?_
      refine z_ci hW hS hA (va_runV (As := [.int 12, .int vo, .int (I 0 40)]) (rest := [.int a1, .ref (ad 28)]) ⟨hx, hb, hml, hown, hts⟩ (sx_X12_node l G ad I J (by show 0 ≤ (I 0 15).toInt ∧ (I 0 15).toInt ≤ 6100; exact hmn) hNd 12 vo (I 0 40) (by show (I 0 15).toInt ≤ 6099; omega) (by have := z_l12; first | omega | decide) (by have := z_l12; first | omega | decide) (by have := z_l12; first | omega | decide) _) (cwV 3 hts gX12_chain_X12_node rfl rfl rfl hy_X12_node ⟨Nat.le_of_ble_eq_true rfl, Nat.le_of_ble_eq_true rfl⟩) (z_preV (i := 0) hK hW rfl rfl) rfl rfl hl.1 rfl (lv_room (Nat.le_of_ble_eq_true rfl)) dX12_chain_73 ⟨Nat.le_of_ble_eq_true rfl, Nat.le_of_ble_eq_true rfl⟩) (fun r u1 H locs hp hW hS => ?_)
      obtain ⟨I7, J9, e9, hI7mn, hI7Nd, fI7, hp⟩ := hp
      rw [e9] at hW
      have f8 := z_fr_sub (L := L_X12_chain_0) z_fr_0 fI7 (by decide)
      have k10 : 0 ≤ (I7 0 31).toInt ∧ (I7 0 31).toInt ≤ 500 := by rw [fI7 0 31 (by decide)]; exact (by show 0 ≤ (I 0 31).toInt ∧ (I 0 31).toInt ≤ 500; exact hmp.1)
      have k11 : 0 ≤ (I7 0 33).toInt ∧ (I7 0 33).toInt ≤ 500 := by rw [fI7 0 33 (by decide)]; exact (by show 0 ≤ (I 0 33).toInt ∧ (I 0 33).toInt ≤ 500; exact hmp.2.1)
      have k12 : 0 ≤ (I7 0 34).toInt ∧ (I7 0 34).toInt ≤ 500 := by rw [fI7 0 34 (by decide)]; exact (by show 0 ≤ (I 0 34).toInt ∧ (I 0 34).toInt ≤ 500; exact hmp.2.2.1)
      have k13 : 0 ≤ (I7 0 35).toInt ∧ (I7 0 35).toInt ≤ 500 := by rw [fI7 0 35 (by decide)]; exact (by show 0 ≤ (I 0 35).toInt ∧ (I 0 35).toInt ≤ 500; exact hmp.2.2.2)
      have k14 : 0 ≤ (I7 0 36).toInt ∧ (I7 0 36).toInt ≤ 4 := by rw [fI7 0 36 (by decide)]; exact (by show 0 ≤ (I 0 36).toInt ∧ (I 0 36).toInt ≤ 4; exact hmt.1)
      have k15 : 0 ≤ (I7 0 42).toInt ∧ (I7 0 42).toInt ≤ 1 := by rw [fI7 0 42 (by decide)]; exact (by show 0 ≤ (I 0 42).toInt ∧ (I 0 42).toInt ≤ 1; exact hmt.2)
      have k16 : 0 ≤ (I7 0 47).toInt ∧ (I7 0 47).toInt ≤ 119 := by rw [fI7 0 47 (by decide)]; exact (by show 0 ≤ (I 0 47).toInt ∧ (I 0 47).toInt ≤ 119; exact hmd.1)
      have k17 : 0 ≤ (I7 0 39).toInt ∧ (I7 0 39).toInt ≤ 100 := by rw [fI7 0 39 (by decide)]; exact (by show 0 ≤ (I 0 39).toInt ∧ (I 0 39).toInt ≤ 100; exact hmd.2)
      have k18 : 0 ≤ (I7 0 40).toInt ∧ (I7 0 40).toInt ≤ 6199 := by rw [fI7 0 40 (by decide)]; exact (by show 0 ≤ (I 0 40).toInt ∧ (I 0 40).toInt ≤ 6199; exact hmg)
      have k19 : 0 ≤ (I7 0 35).toInt ∧ (I7 0 35).toInt ≤ (I7 0 34).toInt ∧ (I7 0 34).toInt ≤ (I7 0 33).toInt ∧ (I7 0 33).toInt ≤ 500 ∧ ((I7 0 36).toInt = 0 ∨ (I7 0 35).toInt + 1 ≤ (I7 0 34).toInt) := (by have q0 : (I7 0 35) = (I 0 35) := (by rw [fI7 0 35 (by decide)]); have q1 : (I7 0 34) = (I 0 34) := (by rw [fI7 0 34 (by decide)]); have q2 : (I7 0 33) = (I 0 33) := (by rw [fI7 0 33 (by decide)]); have q3 : (I7 0 36) = (I 0 36) := (by rw [fI7 0 36 (by decide)]); show 0 ≤ (I7 0 35).toInt ∧ (I7 0 35).toInt ≤ (I7 0 34).toInt ∧ (I7 0 34).toInt ≤ (I7 0 33).toInt ∧ (I7 0 33).toInt ≤ 500 ∧ ((I7 0 36).toInt = 0 ∨ (I7 0 35).toInt + 1 ≤ (I7 0 34).toInt); rw [q0, q1, q2, q3]; first | omega | decide)
      have k20 : (I7 0 35).toInt = (I 0 35).toInt := by rw [fI7 0 35 (by decide)]
      have k21 : (I7 0 34).toInt = (I 0 34).toInt := by rw [fI7 0 34 (by decide)]
      have k22 : (I7 0 36).toInt = (I 0 36).toInt := by rw [fI7 0 36 (by decide)]
      have k23 : (I7 0 42).toInt = (I 0 42).toInt := by rw [fI7 0 42 (by decide)]
      have k24 : (I7 0 47).toInt = (I 0 47).toInt := by rw [fI7 0 47 (by decide)]
      have k25 : (I7 0 39).toInt = (I 0 39).toInt := by rw [fI7 0 39 (by decide)]
      have k26 : (I7 0 40).toInt = (I 0 40).toInt := by rw [fI7 0 40 (by decide)]
      refine lv_topi (fun x27 ex27 => ?_)
      rw [← ex27] at hp
      obtain ⟨h28, h29⟩ := hp
      have h30 : 0 ≤ x27.toInt ∧ x27.toInt ≤ 6100 := (by have q9 : 0 ≤ (I 0 15).toInt ∧ (I 0 15).toInt ≤ 6100 := (by show 0 ≤ (I 0 15).toInt ∧ (I 0 15).toInt ≤ 6100; exact hmn); omega)
      refine z_iast (i := 28) hx hb hK hW hS rfl (z_ix rfl (by omega) (by omega)) dX12_chain_76 (fun H locs hz1 hW hS => ?_)
      obtain ⟨I31, eI31⟩ : ∃ K : z_I, K = z_up I7 28 a1.toNatClampNeg x27 := ⟨_, rfl⟩
      rw [← eI31] at hW
      have f32 := z_fr_a f8 (show z_wa L_X12_chain_0 28 = true by decide) eI31
      have a33 := z_Nd_n hI7Nd (by decide) eI31
      refine lv_aload_n hx hb dX12_chain_77 rfl (lv_at hl 0 rfl) ?_
      refine lv_iload_n hx hb dX12_chain_78 rfl (lv_at hl 2 rfl) ?_
      refine lv_if_eq (tgt := 88) hx hb dX12_chain_79 (by decide) (fun c34 => ?_) (fun c34 => absurd (by decide) c34)
      refine lv_ldc2 (v := 1111) hx hb hown (hts (.constantLong RX12 392 (1111)) (me_s (me_l (me_l (List.mem_of_getElem? (i := 4) rfl))))) dX12_chain_88 ?_
      refine z_ci hW hS hA (va_runV (As := [.long 1111]) (rest := []) ⟨hx, hb, hml, hown, hts⟩ (sx_X12_isWord l G ad I31 J9 ⟨(by show 0 ≤ (I31 0 36).toInt ∧ (I31 0 36).toInt ≤ 4; rw [eI31, z_up_n (by decide)]; exact k14), (by show 0 ≤ (I31 0 42).toInt ∧ (I31 0 42).toInt ≤ 1; rw [eI31, z_up_n (by decide)]; exact k15)⟩ 1111 _) (cwV 1 hts gX12_chain_X12_isWord rfl rfl rfl hy_X12_isWord ⟨Nat.le_of_ble_eq_true rfl, Nat.le_of_ble_eq_true rfl⟩) (z_preV (i := 0) hK hW rfl rfl) rfl rfl hl.1 rfl (lv_room (Nat.le_of_ble_eq_true rfl)) dX12_chain_91 ⟨Nat.le_of_ble_eq_true rfl, Nat.le_of_ble_eq_true rfl⟩) (fun r u1 H locs hp hW hS => ?_)
      obtain ⟨e9, hp⟩ := hp
      rw [e9] at hW
      rcases hp with ⟨rfl, h35⟩ | rfl
      · rw [show (I31 0 36) = (I7 0 36) from by rw [eI31, z_up_n (by decide)]] at h35
        have h36 : (I7 0 35).toInt + 1 ≤ (I7 0 34).toInt := by omega
        refine lv_if_eq (tgt := 117) hx hb dX12_chain_94 (by decide) (fun c37 => absurd c37 (by decide)) (fun c37 => ?_)
        refine lv_aload_n hx hb dX12_chain_97 rfl (lv_at hl 0 rfl) ?_
        refine z_cv hW hS hA (va_runV (As := []) (rest := []) ⟨hx, hb, hml, hown, hts⟩ (sx_X12_next l G ad I31 J9 ⟨(by show 0 ≤ (I31 0 31).toInt ∧ (I31 0 31).toInt ≤ 500; rw [eI31, z_up_n (by decide)]; exact k10), (by show 0 ≤ (I31 0 33).toInt ∧ (I31 0 33).toInt ≤ 500; rw [eI31, z_up_n (by decide)]; exact k11), (by show 0 ≤ (I31 0 34).toInt ∧ (I31 0 34).toInt ≤ 500; rw [eI31, z_up_n (by decide)]; exact k12), (by show 0 ≤ (I31 0 35).toInt ∧ (I31 0 35).toInt ≤ 500; rw [eI31, z_up_n (by decide)]; exact k13)⟩ ⟨(by show 0 ≤ (I31 0 36).toInt ∧ (I31 0 36).toInt ≤ 4; rw [eI31, z_up_n (by decide)]; exact k14), (by show 0 ≤ (I31 0 42).toInt ∧ (I31 0 42).toInt ≤ 1; rw [eI31, z_up_n (by decide)]; exact k15)⟩ (by have q0 : (I31 0 34) = (I7 0 34) := (by rw [eI31, z_up_n (by decide)]); have q1 : (I31 0 33) = (I7 0 33) := (by rw [eI31, z_up_n (by decide)]); show 0 ≤ (I31 0 34).toInt ∧ (I31 0 34).toInt ≤ (I31 0 33).toInt ∧ (I31 0 33).toInt ≤ 500; rw [q0, q1]; first | omega | decide)  _) (cwV 0 hts gX12_chain_X12_next rfl rfl rfl hy_X12_next ⟨Nat.le_of_ble_eq_true rfl, Nat.le_of_ble_eq_true rfl⟩) (z_preV (i := 0) hK hW rfl rfl) rfl rfl hl.1 rfl (lv_room (Nat.le_of_ble_eq_true rfl)) dX12_chain_98 ⟨Nat.le_of_ble_eq_true rfl, Nat.le_of_ble_eq_true rfl⟩) (fun u1 H locs hp hW hS => ?_)
        obtain ⟨I38, J40, e9, hI38mp, hI38mt, hI38rp, fI38, hp⟩ := hp
        rw [e9] at hW
        have f39 := z_fr_sub (L := L_X12_chain_0) f32 fI38 (by decide)
        have k41 : 0 ≤ (I38 0 47).toInt ∧ (I38 0 47).toInt ≤ 119 := by rw [fI38 0 47 (by decide)]; exact (by show 0 ≤ (I31 0 47).toInt ∧ (I31 0 47).toInt ≤ 119; rw [eI31, z_up_n (by decide)]; exact k16)
        have k42 : 0 ≤ (I38 0 39).toInt ∧ (I38 0 39).toInt ≤ 100 := by rw [fI38 0 39 (by decide)]; exact (by show 0 ≤ (I31 0 39).toInt ∧ (I31 0 39).toInt ≤ 100; rw [eI31, z_up_n (by decide)]; exact k17)
        have k43 : 0 ≤ (I38 0 40).toInt ∧ (I38 0 40).toInt ≤ 6199 := by rw [fI38 0 40 (by decide)]; exact (by show 0 ≤ (I31 0 40).toInt ∧ (I31 0 40).toInt ≤ 6199; rw [eI31, z_up_n (by decide)]; exact k18)
        have k44 : 0 ≤ (I38 0 15).toInt ∧ (I38 0 15).toInt ≤ 6100 := by rw [fI38 0 15 (by decide)]; exact (by show 0 ≤ (I31 0 15).toInt ∧ (I31 0 15).toInt ≤ 6100; rw [eI31, z_up_n (by decide)]; exact hI7mn)
        have k45 : 0 ≤ (I38 0 35).toInt ∧ (I38 0 35).toInt ≤ (I38 0 34).toInt ∧ (I38 0 34).toInt ≤ (I38 0 33).toInt ∧ (I38 0 33).toInt ≤ 500 ∧ ((I38 0 36).toInt = 0 ∨ (I38 0 35).toInt + 1 ≤ (I38 0 34).toInt) := hI38rp
        have k46 : (I38 0 42).toInt = (I7 0 42).toInt := by rw [fI38 0 42 (by decide), eI31, z_up_n (by decide)]
        have k47 : (I38 0 47).toInt = (I7 0 47).toInt := by rw [fI38 0 47 (by decide), eI31, z_up_n (by decide)]
        have k48 : (I38 0 39).toInt = (I7 0 39).toInt := by rw [fI38 0 39 (by decide), eI31, z_up_n (by decide)]
        have k49 : (I38 0 15).toInt = (I7 0 15).toInt := by rw [fI38 0 15 (by decide), eI31, z_up_n (by decide)]
        have k50 : (I38 0 40).toInt = (I7 0 40).toInt := by rw [fI38 0 40 (by decide), eI31, z_up_n (by decide)]
        have h51 := hp
        rw [show (I31 0 34) = (I7 0 34) from by rw [eI31, z_up_n (by decide)]] at h51
        refine lv_aload_n hx hb dX12_chain_101 rfl (lv_at hl 0 rfl) ?_
        refine lv_iload_n hx hb dX12_chain_102 rfl (lv_at hl 2 rfl) ?_
        refine lv_if_eq (tgt := 110) hx hb dX12_chain_103 (by decide) (fun c52 => ?_) (fun c52 => absurd (by decide) c52)
        refine lv_iconst (v := 5) hx hb dX12_chain_110 (by decide) ?_
        refine z_cv hW hS hA (va_runV (As := [.int 5]) (rest := []) ⟨hx, hb, hml, hown, hts⟩ (sx_X12_begin l G ad I38 J40 ⟨(by show 0 ≤ (I38 0 47).toInt ∧ (I38 0 47).toInt ≤ 119; exact k41), (by show 0 ≤ (I38 0 39).toInt ∧ (I38 0 39).toInt ≤ 100; exact k42)⟩ 5 (by show (I38 0 47).toInt ≤ 118; omega) _) (cwV 1 hts gX12_chain_X12_begin rfl rfl rfl hy_X12_begin ⟨Nat.le_of_ble_eq_true rfl, Nat.le_of_ble_eq_true rfl⟩) (z_preV (i := 0) hK hW rfl rfl) rfl rfl hl.1 rfl (lv_room (Nat.le_of_ble_eq_true rfl)) dX12_chain_111 ⟨Nat.le_of_ble_eq_true rfl, Nat.le_of_ble_eq_true rfl⟩) (fun u1 H locs hp hW hS => ?_)
        obtain ⟨I53, J55, e9, hI53md, fI53, hp⟩ := hp
        rw [e9] at hW
        have f54 := z_fr_sub (L := L_X12_chain_0) f39 fI53 (by decide)
        have k56 : 0 ≤ (I53 0 31).toInt ∧ (I53 0 31).toInt ≤ 500 := by rw [fI53 0 31 (by decide)]; exact (by show 0 ≤ (I38 0 31).toInt ∧ (I38 0 31).toInt ≤ 500; exact hI38mp.1)
        have k57 : 0 ≤ (I53 0 33).toInt ∧ (I53 0 33).toInt ≤ 500 := by rw [fI53 0 33 (by decide)]; exact (by show 0 ≤ (I38 0 33).toInt ∧ (I38 0 33).toInt ≤ 500; exact hI38mp.2.1)
        have k58 : 0 ≤ (I53 0 34).toInt ∧ (I53 0 34).toInt ≤ 500 := by rw [fI53 0 34 (by decide)]; exact (by show 0 ≤ (I38 0 34).toInt ∧ (I38 0 34).toInt ≤ 500; exact hI38mp.2.2.1)
        have k59 : 0 ≤ (I53 0 35).toInt ∧ (I53 0 35).toInt ≤ 500 := by rw [fI53 0 35 (by decide)]; exact (by show 0 ≤ (I38 0 35).toInt ∧ (I38 0 35).toInt ≤ 500; exact hI38mp.2.2.2)
        have k60 : 0 ≤ (I53 0 36).toInt ∧ (I53 0 36).toInt ≤ 4 := by rw [fI53 0 36 (by decide)]; exact (by show 0 ≤ (I38 0 36).toInt ∧ (I38 0 36).toInt ≤ 4; exact hI38mt.1)
        have k61 : 0 ≤ (I53 0 42).toInt ∧ (I53 0 42).toInt ≤ 1 := by rw [fI53 0 42 (by decide)]; exact (by show 0 ≤ (I38 0 42).toInt ∧ (I38 0 42).toInt ≤ 1; exact hI38mt.2)
        have k62 : 0 ≤ (I53 0 40).toInt ∧ (I53 0 40).toInt ≤ 6199 := by rw [fI53 0 40 (by decide)]; exact (by show 0 ≤ (I38 0 40).toInt ∧ (I38 0 40).toInt ≤ 6199; exact k43)
        have k63 : 0 ≤ (I53 0 15).toInt ∧ (I53 0 15).toInt ≤ 6100 := by rw [fI53 0 15 (by decide)]; exact (by show 0 ≤ (I38 0 15).toInt ∧ (I38 0 15).toInt ≤ 6100; exact k44)
        have k64 : 0 ≤ (I53 0 35).toInt ∧ (I53 0 35).toInt ≤ (I53 0 34).toInt ∧ (I53 0 34).toInt ≤ (I53 0 33).toInt ∧ (I53 0 33).toInt ≤ 500 ∧ ((I53 0 36).toInt = 0 ∨ (I53 0 35).toInt + 1 ≤ (I53 0 34).toInt) := (by have q0 : (I53 0 35) = (I38 0 35) := (by rw [fI53 0 35 (by decide)]); have q1 : (I53 0 34) = (I38 0 34) := (by rw [fI53 0 34 (by decide)]); have q2 : (I53 0 33) = (I38 0 33) := (by rw [fI53 0 33 (by decide)]); have q3 : (I53 0 36) = (I38 0 36) := (by rw [fI53 0 36 (by decide)]); show 0 ≤ (I53 0 35).toInt ∧ (I53 0 35).toInt ≤ (I53 0 34).toInt ∧ (I53 0 34).toInt ≤ (I53 0 33).toInt ∧ (I53 0 33).toInt ≤ 500 ∧ ((I53 0 36).toInt = 0 ∨ (I53 0 35).toInt + 1 ≤ (I53 0 34).toInt); rw [q0, q1, q2, q3]; first | omega | decide)
        have k65 : (I53 0 35).toInt = (I38 0 35).toInt := by rw [fI53 0 35 (by decide)]
        have k66 : (I53 0 34).toInt = (I38 0 34).toInt := by rw [fI53 0 34 (by decide)]
        have k67 : (I53 0 36).toInt = (I38 0 36).toInt := by rw [fI53 0 36 (by decide)]
        have k68 : (I53 0 42).toInt = (I38 0 42).toInt := by rw [fI53 0 42 (by decide)]
        have k69 : (I53 0 39).toInt = (I38 0 39).toInt := by rw [fI53 0 39 (by decide)]
        have k70 : (I53 0 15).toInt = (I38 0 15).toInt := by rw [fI53 0 15 (by decide)]
        have k71 : (I53 0 40).toInt = (I38 0 40).toInt := by rw [fI53 0 40 (by decide)]
        have h72 := hp
        refine lv_goto (tgt := 127) hx hb dX12_chain_114 (by decide) ?_
        exact z_vret hx hb hr hK hS (Nat.le_of_ble_eq_true rfl) (Nat.le_of_ble_eq_true rfl) hlocks dX12_chain_127 (shM, ad, I53, J55, PM ad) hW ⟨I53, J55, rfl, ⟨(by show 0 ≤ (I53 0 31).toInt ∧ (I53 0 31).toInt ≤ 500; exact k56), (by show 0 ≤ (I53 0 33).toInt ∧ (I53 0 33).toInt ≤ 500; exact k57), (by show 0 ≤ (I53 0 34).toInt ∧ (I53 0 34).toInt ≤ 500; exact k58), (by show 0 ≤ (I53 0 35).toInt ∧ (I53 0 35).toInt ≤ 500; exact k59)⟩, ⟨(by show 0 ≤ (I53 0 36).toInt ∧ (I53 0 36).toInt ≤ 4; exact k60), (by show 0 ≤ (I53 0 42).toInt ∧ (I53 0 42).toInt ≤ 1; exact k61)⟩, ⟨(by show 0 ≤ (I53 0 47).toInt ∧ (I53 0 47).toInt ≤ 119; exact hI53md.1), (by show 0 ≤ (I53 0 39).toInt ∧ (I53 0 39).toInt ≤ 100; exact hI53md.2)⟩, (by show 0 ≤ (I53 0 40).toInt ∧ (I53 0 40).toInt ≤ 6199; exact k62), (by show 0 ≤ (I53 0 15).toInt ∧ (I53 0 15).toInt ≤ 6100; exact k63), (z_Nd_fr (z_Nd_fr a33 fI38 (by decide)) fI53 (by decide)), (by show 0 ≤ (I53 0 35).toInt ∧ (I53 0 35).toInt ≤ (I53 0 34).toInt ∧ (I53 0 34).toInt ≤ (I53 0 33).toInt ∧ (I53 0 33).toInt ≤ 500 ∧ ((I53 0 36).toInt = 0 ∨ (I53 0 35).toInt + 1 ≤ (I53 0 34).toInt); first | omega | decide), f54, ((Classical.em ((I53 0 42).toInt = 0)).elim (fun hw9 => Or.inr ⟨a1.toNatClampNeg + 2, by have w1 := z_fw_4np (a := va.toInt) (o := vo.toInt) (by omega) (by omega); have w2 := z_fo_4n (a := va.toInt); have w3 := z_fw_4np (a := va.toInt) (o := x27.toInt) (by omega) (by omega); have w4 := z_fo_4n (a := va.toInt); have w5 := z_fw_50 (a := 0) (o := -1) (by omega); have w6 := z_rk_4; have w7 := z_rk_5; exact z_PUSH (d := a1.toNatClampNeg) (w := 4) (a := va.toInt) (o := x27.toInt) (s := vs.toInt) (wi := 5) hPS (fun i hi => ⟨by rw [fI38 26 i (z_wr_c (by decide)), eI31, z_up_n (by decide), fI7 26 i (z_wr_c (by decide))], by rw [fI38 27 i (z_wr_c (by decide)), eI31, z_up_n (by decide), fI7 27 i (z_wr_c (by decide))], by rw [fI38 28 i (z_wr_c (by decide)), eI31, z_up_k (by omega), fI7 28 i (z_wr_c (by decide))], by rw [fI38 29 i (z_wr_c (by decide)), eI31, z_up_n (by decide), fI7 29 i (z_wr_c (by decide))]⟩) (by rw [show I38 26 a1.toNatClampNeg = vw from (by rw [fI38 26 a1.toNatClampNeg (z_wr_c (by decide)), eI31, z_up_n (by decide), fI7 26 a1.toNatClampNeg (z_wr_c (by decide))]; exact evw.symm)]; exact hvw) (by rw [show I38 27 a1.toNatClampNeg = va from (by rw [fI38 27 a1.toNatClampNeg (z_wr_c (by decide)), eI31, z_up_n (by decide), fI7 27 a1.toNatClampNeg (z_wr_c (by decide))]; exact eva.symm)]) (by rw [show I38 28 a1.toNatClampNeg = x27 from (by rw [fI38 28 a1.toNatClampNeg (z_wr_c (by decide)), eI31, z_up_s])]) (by rw [show I38 29 a1.toNatClampNeg = vs from (by rw [fI38 29 a1.toNatClampNeg (z_wr_c (by decide)), eI31, z_up_n (by decide), fI7 29 a1.toNatClampNeg (z_wr_c (by decide))]; exact evs.symm)]) (by unfold z_fv; omega) hwd (by omega) h72 z_l5 (by omega) (by omega) (by omega) (by omega) (by omega) (by omega) (by omega) (by omega)⟩) Or.inl)⟩
      · refine lv_if_eq (tgt := 117) hx hb dX12_chain_94 (by decide) (fun c73 => ?_) (fun c73 => absurd (by decide) c73)
        refine lv_aload_n hx hb dX12_chain_117 rfl (lv_at hl 0 rfl) ?_
        refine lv_aload_n hx hb dX12_chain_118 rfl (lv_at hl 0 rfl) ?_
        refine z_get (T := TX12) (N := 96) (ci := 12) (i := 0) (v := .ref (ad 28)) hx hb hts zj_X12_chain_X12 hown hK hW rfl rfl 45 (by decide) (hts (.fieldLink RX12 97 "PetrolBoardModel" "one" "[I") (me_s (me_l (me_l (List.mem_of_getElem? (i := 1) rfl))))) (fun _ h => h) rfl dX12_chain_119 ?_
        refine lv_iload_n hx hb dX12_chain_122 rfl (lv_at hl 1 rfl) ?_
        refine z_iald (i := 28) hx hb hK hW rfl (z_ix rfl (by omega) (by omega)) dX12_chain_123 ?_
        refine z_topi (v := x27) (by rw [eI31, z_up_s]) ?_
        refine z_cv hW hS hA (va_runV (As := [.int x27]) (rest := []) ⟨hx, hb, hml, hown, hts⟩ (sx_X12_ends l G ad I31 J9 ⟨(by show 0 ≤ (I31 0 47).toInt ∧ (I31 0 47).toInt ≤ 119; rw [eI31, z_up_n (by decide)]; exact k16), (by show 0 ≤ (I31 0 39).toInt ∧ (I31 0 39).toInt ≤ 100; rw [eI31, z_up_n (by decide)]; exact k17)⟩ (by show 0 ≤ (I31 0 40).toInt ∧ (I31 0 40).toInt ≤ 6199; rw [eI31, z_up_n (by decide)]; exact k18) x27 (by first | omega | decide) (by have q0 : (I31 0 47) = (I7 0 47) := (by rw [eI31, z_up_n (by decide)]); show 1 ≤ (I31 0 47).toInt; rw [q0]; omega) _) (cwV 1 hts gX12_chain_X12_ends rfl rfl rfl hy_X12_ends ⟨Nat.le_of_ble_eq_true rfl, Nat.le_of_ble_eq_true rfl⟩) (z_preV (i := 0) hK hW rfl rfl) rfl rfl hl.1 rfl (lv_room (Nat.le_of_ble_eq_true rfl)) dX12_chain_124 ⟨Nat.le_of_ble_eq_true rfl, Nat.le_of_ble_eq_true rfl⟩) (fun u1 H locs hp hW hS => ?_)
        obtain ⟨I74, J76, e9, hI74md, hI74mg, fI74, hp⟩ := hp
        rw [e9] at hW
        have f75 := z_fr_sub (L := L_X12_chain_0) f32 fI74 (by decide)
        have k77 : 0 ≤ (I74 0 31).toInt ∧ (I74 0 31).toInt ≤ 500 := by rw [fI74 0 31 (by decide)]; exact (by show 0 ≤ (I31 0 31).toInt ∧ (I31 0 31).toInt ≤ 500; rw [eI31, z_up_n (by decide)]; exact k10)
        have k78 : 0 ≤ (I74 0 33).toInt ∧ (I74 0 33).toInt ≤ 500 := by rw [fI74 0 33 (by decide)]; exact (by show 0 ≤ (I31 0 33).toInt ∧ (I31 0 33).toInt ≤ 500; rw [eI31, z_up_n (by decide)]; exact k11)
        have k79 : 0 ≤ (I74 0 34).toInt ∧ (I74 0 34).toInt ≤ 500 := by rw [fI74 0 34 (by decide)]; exact (by show 0 ≤ (I31 0 34).toInt ∧ (I31 0 34).toInt ≤ 500; rw [eI31, z_up_n (by decide)]; exact k12)
        have k80 : 0 ≤ (I74 0 35).toInt ∧ (I74 0 35).toInt ≤ 500 := by rw [fI74 0 35 (by decide)]; exact (by show 0 ≤ (I31 0 35).toInt ∧ (I31 0 35).toInt ≤ 500; rw [eI31, z_up_n (by decide)]; exact k13)
        have k81 : 0 ≤ (I74 0 36).toInt ∧ (I74 0 36).toInt ≤ 4 := by rw [fI74 0 36 (by decide)]; exact (by show 0 ≤ (I31 0 36).toInt ∧ (I31 0 36).toInt ≤ 4; rw [eI31, z_up_n (by decide)]; exact k14)
        have k82 : 0 ≤ (I74 0 42).toInt ∧ (I74 0 42).toInt ≤ 1 := by rw [fI74 0 42 (by decide)]; exact (by show 0 ≤ (I31 0 42).toInt ∧ (I31 0 42).toInt ≤ 1; rw [eI31, z_up_n (by decide)]; exact k15)
        have k83 : 0 ≤ (I74 0 15).toInt ∧ (I74 0 15).toInt ≤ 6100 := by rw [fI74 0 15 (by decide)]; exact (by show 0 ≤ (I31 0 15).toInt ∧ (I31 0 15).toInt ≤ 6100; rw [eI31, z_up_n (by decide)]; exact hI7mn)
        have k84 : 0 ≤ (I74 0 35).toInt ∧ (I74 0 35).toInt ≤ (I74 0 34).toInt ∧ (I74 0 34).toInt ≤ (I74 0 33).toInt ∧ (I74 0 33).toInt ≤ 500 ∧ ((I74 0 36).toInt = 0 ∨ (I74 0 35).toInt + 1 ≤ (I74 0 34).toInt) := (by have q0 : (I74 0 35) = (I7 0 35) := (by rw [fI74 0 35 (by decide), eI31, z_up_n (by decide)]); have q1 : (I74 0 34) = (I7 0 34) := (by rw [fI74 0 34 (by decide), eI31, z_up_n (by decide)]); have q2 : (I74 0 33) = (I7 0 33) := (by rw [fI74 0 33 (by decide), eI31, z_up_n (by decide)]); have q3 : (I74 0 36) = (I7 0 36) := (by rw [fI74 0 36 (by decide), eI31, z_up_n (by decide)]); show 0 ≤ (I74 0 35).toInt ∧ (I74 0 35).toInt ≤ (I74 0 34).toInt ∧ (I74 0 34).toInt ≤ (I74 0 33).toInt ∧ (I74 0 33).toInt ≤ 500 ∧ ((I74 0 36).toInt = 0 ∨ (I74 0 35).toInt + 1 ≤ (I74 0 34).toInt); rw [q0, q1, q2, q3]; first | omega | decide)
        have k85 : (I74 0 35).toInt = (I7 0 35).toInt := by rw [fI74 0 35 (by decide), eI31, z_up_n (by decide)]
        have k86 : (I74 0 34).toInt = (I7 0 34).toInt := by rw [fI74 0 34 (by decide), eI31, z_up_n (by decide)]
        have k87 : (I74 0 36).toInt = (I7 0 36).toInt := by rw [fI74 0 36 (by decide), eI31, z_up_n (by decide)]
        have k88 : (I74 0 42).toInt = (I7 0 42).toInt := by rw [fI74 0 42 (by decide), eI31, z_up_n (by decide)]
        have k89 : (I74 0 39).toInt = (I7 0 39).toInt := by rw [fI74 0 39 (by decide), eI31, z_up_n (by decide)]
        have k90 : (I74 0 15).toInt = (I7 0 15).toInt := by rw [fI74 0 15 (by decide), eI31, z_up_n (by decide)]
        have h91 := hp
        rw [show (I31 0 47) = (I7 0 47) from by rw [eI31, z_up_n (by decide)]] at h91
        exact z_vret hx hb hr hK hS (Nat.le_of_ble_eq_true rfl) (Nat.le_of_ble_eq_true rfl) hlocks dX12_chain_127 (shM, ad, I74, J76, PM ad) hW ⟨I74, J76, rfl, ⟨(by show 0 ≤ (I74 0 31).toInt ∧ (I74 0 31).toInt ≤ 500; exact k77), (by show 0 ≤ (I74 0 33).toInt ∧ (I74 0 33).toInt ≤ 500; exact k78), (by show 0 ≤ (I74 0 34).toInt ∧ (I74 0 34).toInt ≤ 500; exact k79), (by show 0 ≤ (I74 0 35).toInt ∧ (I74 0 35).toInt ≤ 500; exact k80)⟩, ⟨(by show 0 ≤ (I74 0 36).toInt ∧ (I74 0 36).toInt ≤ 4; exact k81), (by show 0 ≤ (I74 0 42).toInt ∧ (I74 0 42).toInt ≤ 1; exact k82)⟩, ⟨(by show 0 ≤ (I74 0 47).toInt ∧ (I74 0 47).toInt ≤ 119; exact hI74md.1), (by show 0 ≤ (I74 0 39).toInt ∧ (I74 0 39).toInt ≤ 100; exact hI74md.2)⟩, (by show 0 ≤ (I74 0 40).toInt ∧ (I74 0 40).toInt ≤ 6199; exact hI74mg), (by show 0 ≤ (I74 0 15).toInt ∧ (I74 0 15).toInt ≤ 6100; exact k83), (z_Nd_fr a33 fI74 (by decide)), (by show 0 ≤ (I74 0 35).toInt ∧ (I74 0 35).toInt ≤ (I74 0 34).toInt ∧ (I74 0 34).toInt ≤ (I74 0 33).toInt ∧ (I74 0 33).toInt ≤ 500 ∧ ((I74 0 36).toInt = 0 ∨ (I74 0 35).toInt + 1 ≤ (I74 0 34).toInt); first | omega | decide), f75, ((Classical.em ((I74 0 42).toInt = 0)).elim (fun hw9 => Or.inr ⟨a1.toNatClampNeg, by have w1 := z_fw_4np (a := va.toInt) (o := vo.toInt) (by omega) (by omega); have w2 := z_fo_4n (a := va.toInt); exact z_POP (d := a1.toNatClampNeg) hPS (fun i hi => ⟨by rw [fI74 26 i (z_wr_c (by decide)), eI31, z_up_n (by decide), fI7 26 i (z_wr_c (by decide))], by rw [fI74 27 i (z_wr_c (by decide)), eI31, z_up_n (by decide), fI7 27 i (z_wr_c (by decide))], by rw [fI74 28 i (z_wr_c (by decide)), eI31, z_up_k (by omega), fI7 28 i (z_wr_c (by decide))], by rw [fI74 29 i (z_wr_c (by decide)), eI31, z_up_n (by decide), fI7 29 i (z_wr_c (by decide))]⟩) (by omega) (by omega) (by omega) (by omega) (by omega) (by omega)⟩) Or.inl)⟩
    · have g92 := z_f_nge rfl z_l0 c3
      refine lv_aload_n hx hb dX12_chain_44 rfl (lv_at hl 0 rfl) ?_
      have r93 : 0 ≤ (I 0 40).toInt ∧ (I 0 40).toInt ≤ 6199 := hmg
      refine z_get (T := TX12) (N := 96) (ci := 12) (i := 0) (v := .int (I 0 40)) hx hb hts zj_X12_chain_X12 hown hK hW rfl rfl 40 (by decide) (hts (.fieldLink RX12 343 "PetrolBoardModel" "got" "I") (me_s (me_l (me_l (List.mem_of_getElem? (i := 2) rfl))))) (fun _ h => h) rfl dX12_chain_45 ?_
      refine lv_goto (tgt := 76) hx hb dX12_chain_48 (by decide) ?_
      refine z_iast (i := 28) hx hb hK hW hS rfl (z_ix rfl (by omega) (by omega)) dX12_chain_76 (fun H locs hz1 hW hS => ?_)
      obtain ⟨I94, eI94⟩ : ∃ K : z_I, K = z_up I 28 a1.toNatClampNeg (I 0 40) := ⟨_, rfl⟩
      rw [← eI94] at hW
      have f95 := z_fr_a z_fr_0 (show z_wa L_X12_chain_0 28 = true by decide) eI94
      have a96 := z_Nd_n hNd (by decide) eI94
      refine lv_aload_n hx hb dX12_chain_77 rfl (lv_at hl 0 rfl) ?_
      refine lv_iload_n hx hb dX12_chain_78 rfl (lv_at hl 2 rfl) ?_
      refine lv_if_eq (tgt := 88) hx hb dX12_chain_79 (by decide) (fun c97 => ?_) (fun c97 => absurd (by decide) c97)
      refine lv_ldc2 (v := 1111) hx hb hown (hts (.constantLong RX12 392 (1111)) (me_s (me_l (me_l (List.mem_of_getElem? (i := 4) rfl))))) dX12_chain_88 ?_
      refine z_ci hW hS hA (va_runV (As := [.long 1111]) (rest := []) ⟨hx, hb, hml, hown, hts⟩ (sx_X12_isWord l G ad I94 J ⟨(by show 0 ≤ (I94 0 36).toInt ∧ (I94 0 36).toInt ≤ 4; rw [eI94, z_up_n (by decide)]; exact hmt.1), (by show 0 ≤ (I94 0 42).toInt ∧ (I94 0 42).toInt ≤ 1; rw [eI94, z_up_n (by decide)]; exact hmt.2)⟩ 1111 _) (cwV 1 hts gX12_chain_X12_isWord rfl rfl rfl hy_X12_isWord ⟨Nat.le_of_ble_eq_true rfl, Nat.le_of_ble_eq_true rfl⟩) (z_preV (i := 0) hK hW rfl rfl) rfl rfl hl.1 rfl (lv_room (Nat.le_of_ble_eq_true rfl)) dX12_chain_91 ⟨Nat.le_of_ble_eq_true rfl, Nat.le_of_ble_eq_true rfl⟩) (fun r u1 H locs hp hW hS => ?_)
      obtain ⟨e9, hp⟩ := hp
      rw [e9] at hW
      rcases hp with ⟨rfl, h98⟩ | rfl
      · rw [show (I94 0 36) = (I 0 36) from by rw [eI94, z_up_n (by decide)]] at h98
        have h99 : (I 0 35).toInt + 1 ≤ (I 0 34).toInt := by omega
        refine lv_if_eq (tgt := 117) hx hb dX12_chain_94 (by decide) (fun c100 => absurd c100 (by decide)) (fun c100 => ?_)
        refine lv_aload_n hx hb dX12_chain_97 rfl (lv_at hl 0 rfl) ?_
        refine z_cv hW hS hA (va_runV (As := []) (rest := []) ⟨hx, hb, hml, hown, hts⟩ (sx_X12_next l G ad I94 J ⟨(by show 0 ≤ (I94 0 31).toInt ∧ (I94 0 31).toInt ≤ 500; rw [eI94, z_up_n (by decide)]; exact hmp.1), (by show 0 ≤ (I94 0 33).toInt ∧ (I94 0 33).toInt ≤ 500; rw [eI94, z_up_n (by decide)]; exact hmp.2.1), (by show 0 ≤ (I94 0 34).toInt ∧ (I94 0 34).toInt ≤ 500; rw [eI94, z_up_n (by decide)]; exact hmp.2.2.1), (by show 0 ≤ (I94 0 35).toInt ∧ (I94 0 35).toInt ≤ 500; rw [eI94, z_up_n (by decide)]; exact hmp.2.2.2)⟩ ⟨(by show 0 ≤ (I94 0 36).toInt ∧ (I94 0 36).toInt ≤ 4; rw [eI94, z_up_n (by decide)]; exact hmt.1), (by show 0 ≤ (I94 0 42).toInt ∧ (I94 0 42).toInt ≤ 1; rw [eI94, z_up_n (by decide)]; exact hmt.2)⟩ (by have q0 : (I94 0 34) = (I 0 34) := (by rw [eI94, z_up_n (by decide)]); have q1 : (I94 0 33) = (I 0 33) := (by rw [eI94, z_up_n (by decide)]); show 0 ≤ (I94 0 34).toInt ∧ (I94 0 34).toInt ≤ (I94 0 33).toInt ∧ (I94 0 33).toInt ≤ 500; rw [q0, q1]; first | omega | decide)  _) (cwV 0 hts gX12_chain_X12_next rfl rfl rfl hy_X12_next ⟨Nat.le_of_ble_eq_true rfl, Nat.le_of_ble_eq_true rfl⟩) (z_preV (i := 0) hK hW rfl rfl) rfl rfl hl.1 rfl (lv_room (Nat.le_of_ble_eq_true rfl)) dX12_chain_98 ⟨Nat.le_of_ble_eq_true rfl, Nat.le_of_ble_eq_true rfl⟩) (fun u1 H locs hp hW hS => ?_)
        obtain ⟨I101, J103, e9, hI101mp, hI101mt, hI101rp, fI101, hp⟩ := hp
        rw [e9] at hW
        have f102 := z_fr_sub (L := L_X12_chain_0) f95 fI101 (by decide)
        have k104 : 0 ≤ (I101 0 47).toInt ∧ (I101 0 47).toInt ≤ 119 := by rw [fI101 0 47 (by decide)]; exact (by show 0 ≤ (I94 0 47).toInt ∧ (I94 0 47).toInt ≤ 119; rw [eI94, z_up_n (by decide)]; exact hmd.1)
        have k105 : 0 ≤ (I101 0 39).toInt ∧ (I101 0 39).toInt ≤ 100 := by rw [fI101 0 39 (by decide)]; exact (by show 0 ≤ (I94 0 39).toInt ∧ (I94 0 39).toInt ≤ 100; rw [eI94, z_up_n (by decide)]; exact hmd.2)
        have k106 : 0 ≤ (I101 0 40).toInt ∧ (I101 0 40).toInt ≤ 6199 := by rw [fI101 0 40 (by decide)]; exact (by show 0 ≤ (I94 0 40).toInt ∧ (I94 0 40).toInt ≤ 6199; rw [eI94, z_up_n (by decide)]; exact hmg)
        have k107 : 0 ≤ (I101 0 15).toInt ∧ (I101 0 15).toInt ≤ 6100 := by rw [fI101 0 15 (by decide)]; exact (by show 0 ≤ (I94 0 15).toInt ∧ (I94 0 15).toInt ≤ 6100; rw [eI94, z_up_n (by decide)]; exact hmn)
        have k108 : 0 ≤ (I101 0 35).toInt ∧ (I101 0 35).toInt ≤ (I101 0 34).toInt ∧ (I101 0 34).toInt ≤ (I101 0 33).toInt ∧ (I101 0 33).toInt ≤ 500 ∧ ((I101 0 36).toInt = 0 ∨ (I101 0 35).toInt + 1 ≤ (I101 0 34).toInt) := hI101rp
        have k109 : (I101 0 42).toInt = (I 0 42).toInt := by rw [fI101 0 42 (by decide), eI94, z_up_n (by decide)]
        have k110 : (I101 0 47).toInt = (I 0 47).toInt := by rw [fI101 0 47 (by decide), eI94, z_up_n (by decide)]
        have k111 : (I101 0 39).toInt = (I 0 39).toInt := by rw [fI101 0 39 (by decide), eI94, z_up_n (by decide)]
        have k112 : (I101 0 15).toInt = (I 0 15).toInt := by rw [fI101 0 15 (by decide), eI94, z_up_n (by decide)]
        have k113 : (I101 0 40).toInt = (I 0 40).toInt := by rw [fI101 0 40 (by decide), eI94, z_up_n (by decide)]
        have h114 := hp
        rw [show (I94 0 34) = (I 0 34) from by rw [eI94, z_up_n (by decide)]] at h114
        refine lv_aload_n hx hb dX12_chain_101 rfl (lv_at hl 0 rfl) ?_
        refine lv_iload_n hx hb dX12_chain_102 rfl (lv_at hl 2 rfl) ?_
        refine lv_if_eq (tgt := 110) hx hb dX12_chain_103 (by decide) (fun c115 => ?_) (fun c115 => absurd (by decide) c115)
        refine lv_iconst (v := 5) hx hb dX12_chain_110 (by decide) ?_
        refine z_cv hW hS hA (va_runV (As := [.int 5]) (rest := []) ⟨hx, hb, hml, hown, hts⟩ (sx_X12_begin l G ad I101 J103 ⟨(by show 0 ≤ (I101 0 47).toInt ∧ (I101 0 47).toInt ≤ 119; exact k104), (by show 0 ≤ (I101 0 39).toInt ∧ (I101 0 39).toInt ≤ 100; exact k105)⟩ 5 (by show (I101 0 47).toInt ≤ 118; omega) _) (cwV 1 hts gX12_chain_X12_begin rfl rfl rfl hy_X12_begin ⟨Nat.le_of_ble_eq_true rfl, Nat.le_of_ble_eq_true rfl⟩) (z_preV (i := 0) hK hW rfl rfl) rfl rfl hl.1 rfl (lv_room (Nat.le_of_ble_eq_true rfl)) dX12_chain_111 ⟨Nat.le_of_ble_eq_true rfl, Nat.le_of_ble_eq_true rfl⟩) (fun u1 H locs hp hW hS => ?_)
        obtain ⟨I116, J118, e9, hI116md, fI116, hp⟩ := hp
        rw [e9] at hW
        have f117 := z_fr_sub (L := L_X12_chain_0) f102 fI116 (by decide)
        have k119 : 0 ≤ (I116 0 31).toInt ∧ (I116 0 31).toInt ≤ 500 := by rw [fI116 0 31 (by decide)]; exact (by show 0 ≤ (I101 0 31).toInt ∧ (I101 0 31).toInt ≤ 500; exact hI101mp.1)
        have k120 : 0 ≤ (I116 0 33).toInt ∧ (I116 0 33).toInt ≤ 500 := by rw [fI116 0 33 (by decide)]; exact (by show 0 ≤ (I101 0 33).toInt ∧ (I101 0 33).toInt ≤ 500; exact hI101mp.2.1)
        have k121 : 0 ≤ (I116 0 34).toInt ∧ (I116 0 34).toInt ≤ 500 := by rw [fI116 0 34 (by decide)]; exact (by show 0 ≤ (I101 0 34).toInt ∧ (I101 0 34).toInt ≤ 500; exact hI101mp.2.2.1)
        have k122 : 0 ≤ (I116 0 35).toInt ∧ (I116 0 35).toInt ≤ 500 := by rw [fI116 0 35 (by decide)]; exact (by show 0 ≤ (I101 0 35).toInt ∧ (I101 0 35).toInt ≤ 500; exact hI101mp.2.2.2)
        have k123 : 0 ≤ (I116 0 36).toInt ∧ (I116 0 36).toInt ≤ 4 := by rw [fI116 0 36 (by decide)]; exact (by show 0 ≤ (I101 0 36).toInt ∧ (I101 0 36).toInt ≤ 4; exact hI101mt.1)
        have k124 : 0 ≤ (I116 0 42).toInt ∧ (I116 0 42).toInt ≤ 1 := by rw [fI116 0 42 (by decide)]; exact (by show 0 ≤ (I101 0 42).toInt ∧ (I101 0 42).toInt ≤ 1; exact hI101mt.2)
        have k125 : 0 ≤ (I116 0 40).toInt ∧ (I116 0 40).toInt ≤ 6199 := by rw [fI116 0 40 (by decide)]; exact (by show 0 ≤ (I101 0 40).toInt ∧ (I101 0 40).toInt ≤ 6199; exact k106)
        have k126 : 0 ≤ (I116 0 15).toInt ∧ (I116 0 15).toInt ≤ 6100 := by rw [fI116 0 15 (by decide)]; exact (by show 0 ≤ (I101 0 15).toInt ∧ (I101 0 15).toInt ≤ 6100; exact k107)
        have k127 : 0 ≤ (I116 0 35).toInt ∧ (I116 0 35).toInt ≤ (I116 0 34).toInt ∧ (I116 0 34).toInt ≤ (I116 0 33).toInt ∧ (I116 0 33).toInt ≤ 500 ∧ ((I116 0 36).toInt = 0 ∨ (I116 0 35).toInt + 1 ≤ (I116 0 34).toInt) := (by have q0 : (I116 0 35) = (I101 0 35) := (by rw [fI116 0 35 (by decide)]); have q1 : (I116 0 34) = (I101 0 34) := (by rw [fI116 0 34 (by decide)]); have q2 : (I116 0 33) = (I101 0 33) := (by rw [fI116 0 33 (by decide)]); have q3 : (I116 0 36) = (I101 0 36) := (by rw [fI116 0 36 (by decide)]); show 0 ≤ (I116 0 35).toInt ∧ (I116 0 35).toInt ≤ (I116 0 34).toInt ∧ (I116 0 34).toInt ≤ (I116 0 33).toInt ∧ (I116 0 33).toInt ≤ 500 ∧ ((I116 0 36).toInt = 0 ∨ (I116 0 35).toInt + 1 ≤ (I116 0 34).toInt); rw [q0, q1, q2, q3]; first | omega | decide)
        have k128 : (I116 0 35).toInt = (I101 0 35).toInt := by rw [fI116 0 35 (by decide)]
        have k129 : (I116 0 34).toInt = (I101 0 34).toInt := by rw [fI116 0 34 (by decide)]
        have k130 : (I116 0 36).toInt = (I101 0 36).toInt := by rw [fI116 0 36 (by decide)]
        have k131 : (I116 0 42).toInt = (I101 0 42).toInt := by rw [fI116 0 42 (by decide)]
        have k132 : (I116 0 39).toInt = (I101 0 39).toInt := by rw [fI116 0 39 (by decide)]
        have k133 : (I116 0 15).toInt = (I101 0 15).toInt := by rw [fI116 0 15 (by decide)]
        have k134 : (I116 0 40).toInt = (I101 0 40).toInt := by rw [fI116 0 40 (by decide)]
        have h135 := hp
        refine lv_goto (tgt := 127) hx hb dX12_chain_114 (by decide) ?_
        exact z_vret hx hb hr hK hS (Nat.le_of_ble_eq_true rfl) (Nat.le_of_ble_eq_true rfl) hlocks dX12_chain_127 (shM, ad, I116, J118, PM ad) hW ⟨I116, J118, rfl, ⟨(by show 0 ≤ (I116 0 31).toInt ∧ (I116 0 31).toInt ≤ 500; exact k119), (by show 0 ≤ (I116 0 33).toInt ∧ (I116 0 33).toInt ≤ 500; exact k120), (by show 0 ≤ (I116 0 34).toInt ∧ (I116 0 34).toInt ≤ 500; exact k121), (by show 0 ≤ (I116 0 35).toInt ∧ (I116 0 35).toInt ≤ 500; exact k122)⟩, ⟨(by show 0 ≤ (I116 0 36).toInt ∧ (I116 0 36).toInt ≤ 4; exact k123), (by show 0 ≤ (I116 0 42).toInt ∧ (I116 0 42).toInt ≤ 1; exact k124)⟩, ⟨(by show 0 ≤ (I116 0 47).toInt ∧ (I116 0 47).toInt ≤ 119; exact hI116md.1), (by show 0 ≤ (I116 0 39).toInt ∧ (I116 0 39).toInt ≤ 100; exact hI116md.2)⟩, (by show 0 ≤ (I116 0 40).toInt ∧ (I116 0 40).toInt ≤ 6199; exact k125), (by show 0 ≤ (I116 0 15).toInt ∧ (I116 0 15).toInt ≤ 6100; exact k126), (z_Nd_fr (z_Nd_fr a96 fI101 (by decide)) fI116 (by decide)), (by show 0 ≤ (I116 0 35).toInt ∧ (I116 0 35).toInt ≤ (I116 0 34).toInt ∧ (I116 0 34).toInt ≤ (I116 0 33).toInt ∧ (I116 0 33).toInt ≤ 500 ∧ ((I116 0 36).toInt = 0 ∨ (I116 0 35).toInt + 1 ≤ (I116 0 34).toInt); first | omega | decide), f117, ((Classical.em ((I116 0 42).toInt = 0)).elim (fun hw9 => Or.inr ⟨a1.toNatClampNeg + 2, by have w1 := z_fw_4nm (a := va.toInt) (o := vo.toInt) (by omega) (by omega); have w2 := z_fo_4n (a := va.toInt); have w3 := z_fw_4np (a := va.toInt) (o := (I 0 40).toInt) (by omega) (by omega); have w4 := z_fo_4n (a := va.toInt); have w5 := z_fw_50 (a := 0) (o := -1) (by omega); have w6 := z_rk_4; have w7 := z_rk_5; exact z_PUSH (d := a1.toNatClampNeg) (w := 4) (a := va.toInt) (o := (I 0 40).toInt) (s := vs.toInt) (wi := 5) hPS (fun i hi => ⟨by rw [fI101 26 i (z_wr_c (by decide)), eI94, z_up_n (by decide)], by rw [fI101 27 i (z_wr_c (by decide)), eI94, z_up_n (by decide)], by rw [fI101 28 i (z_wr_c (by decide)), eI94, z_up_k (by omega)], by rw [fI101 29 i (z_wr_c (by decide)), eI94, z_up_n (by decide)]⟩) (by rw [show I101 26 a1.toNatClampNeg = vw from (by rw [fI101 26 a1.toNatClampNeg (z_wr_c (by decide)), eI94, z_up_n (by decide)]; exact evw.symm)]; exact hvw) (by rw [show I101 27 a1.toNatClampNeg = va from (by rw [fI101 27 a1.toNatClampNeg (z_wr_c (by decide)), eI94, z_up_n (by decide)]; exact eva.symm)]) (by rw [show I101 28 a1.toNatClampNeg = (I 0 40) from (by rw [fI101 28 a1.toNatClampNeg (z_wr_c (by decide)), eI94, z_up_s])]) (by rw [show I101 29 a1.toNatClampNeg = vs from (by rw [fI101 29 a1.toNatClampNeg (z_wr_c (by decide)), eI94, z_up_n (by decide)]; exact evs.symm)]) (by unfold z_fv; omega) hwd (by omega) h135 z_l5 (by omega) (by omega) (by omega) (by omega) (by omega) (by omega) (by omega) (by omega)⟩) Or.inl)⟩
      · refine lv_if_eq (tgt := 117) hx hb dX12_chain_94 (by decide) (fun c136 => ?_) (fun c136 => absurd (by decide) c136)
        refine lv_aload_n hx hb dX12_chain_117 rfl (lv_at hl 0 rfl) ?_
        refine lv_aload_n hx hb dX12_chain_118 rfl (lv_at hl 0 rfl) ?_
        refine z_get (T := TX12) (N := 96) (ci := 12) (i := 0) (v := .ref (ad 28)) hx hb hts zj_X12_chain_X12 hown hK hW rfl rfl 45 (by decide) (hts (.fieldLink RX12 97 "PetrolBoardModel" "one" "[I") (me_s (me_l (me_l (List.mem_of_getElem? (i := 1) rfl))))) (fun _ h => h) rfl dX12_chain_119 ?_
        refine lv_iload_n hx hb dX12_chain_122 rfl (lv_at hl 1 rfl) ?_
        refine z_iald (i := 28) hx hb hK hW rfl (z_ix rfl (by omega) (by omega)) dX12_chain_123 ?_
        refine z_topi (v := (I 0 40)) (by rw [eI94, z_up_s]) ?_
        refine z_cv hW hS hA (va_runV (As := [.int (I 0 40)]) (rest := []) ⟨hx, hb, hml, hown, hts⟩ (sx_X12_ends l G ad I94 J ⟨(by show 0 ≤ (I94 0 47).toInt ∧ (I94 0 47).toInt ≤ 119; rw [eI94, z_up_n (by decide)]; exact hmd.1), (by show 0 ≤ (I94 0 39).toInt ∧ (I94 0 39).toInt ≤ 100; rw [eI94, z_up_n (by decide)]; exact hmd.2)⟩ (by show 0 ≤ (I94 0 40).toInt ∧ (I94 0 40).toInt ≤ 6199; rw [eI94, z_up_n (by decide)]; exact hmg) (I 0 40) (by first | omega | decide) (by have q0 : (I94 0 47) = (I 0 47) := (by rw [eI94, z_up_n (by decide)]); show 1 ≤ (I94 0 47).toInt; rw [q0]; omega) _) (cwV 1 hts gX12_chain_X12_ends rfl rfl rfl hy_X12_ends ⟨Nat.le_of_ble_eq_true rfl, Nat.le_of_ble_eq_true rfl⟩) (z_preV (i := 0) hK hW rfl rfl) rfl rfl hl.1 rfl (lv_room (Nat.le_of_ble_eq_true rfl)) dX12_chain_124 ⟨Nat.le_of_ble_eq_true rfl, Nat.le_of_ble_eq_true rfl⟩) (fun u1 H locs hp hW hS => ?_)
        obtain ⟨I137, J139, e9, hI137md, hI137mg, fI137, hp⟩ := hp
        rw [e9] at hW
        have f138 := z_fr_sub (L := L_X12_chain_0) f95 fI137 (by decide)
        have k140 : 0 ≤ (I137 0 31).toInt ∧ (I137 0 31).toInt ≤ 500 := by rw [fI137 0 31 (by decide)]; exact (by show 0 ≤ (I94 0 31).toInt ∧ (I94 0 31).toInt ≤ 500; rw [eI94, z_up_n (by decide)]; exact hmp.1)
        have k141 : 0 ≤ (I137 0 33).toInt ∧ (I137 0 33).toInt ≤ 500 := by rw [fI137 0 33 (by decide)]; exact (by show 0 ≤ (I94 0 33).toInt ∧ (I94 0 33).toInt ≤ 500; rw [eI94, z_up_n (by decide)]; exact hmp.2.1)
        have k142 : 0 ≤ (I137 0 34).toInt ∧ (I137 0 34).toInt ≤ 500 := by rw [fI137 0 34 (by decide)]; exact (by show 0 ≤ (I94 0 34).toInt ∧ (I94 0 34).toInt ≤ 500; rw [eI94, z_up_n (by decide)]; exact hmp.2.2.1)
        have k143 : 0 ≤ (I137 0 35).toInt ∧ (I137 0 35).toInt ≤ 500 := by rw [fI137 0 35 (by decide)]; exact (by show 0 ≤ (I94 0 35).toInt ∧ (I94 0 35).toInt ≤ 500; rw [eI94, z_up_n (by decide)]; exact hmp.2.2.2)
        have k144 : 0 ≤ (I137 0 36).toInt ∧ (I137 0 36).toInt ≤ 4 := by rw [fI137 0 36 (by decide)]; exact (by show 0 ≤ (I94 0 36).toInt ∧ (I94 0 36).toInt ≤ 4; rw [eI94, z_up_n (by decide)]; exact hmt.1)
        have k145 : 0 ≤ (I137 0 42).toInt ∧ (I137 0 42).toInt ≤ 1 := by rw [fI137 0 42 (by decide)]; exact (by show 0 ≤ (I94 0 42).toInt ∧ (I94 0 42).toInt ≤ 1; rw [eI94, z_up_n (by decide)]; exact hmt.2)
        have k146 : 0 ≤ (I137 0 15).toInt ∧ (I137 0 15).toInt ≤ 6100 := by rw [fI137 0 15 (by decide)]; exact (by show 0 ≤ (I94 0 15).toInt ∧ (I94 0 15).toInt ≤ 6100; rw [eI94, z_up_n (by decide)]; exact hmn)
        have k147 : 0 ≤ (I137 0 35).toInt ∧ (I137 0 35).toInt ≤ (I137 0 34).toInt ∧ (I137 0 34).toInt ≤ (I137 0 33).toInt ∧ (I137 0 33).toInt ≤ 500 ∧ ((I137 0 36).toInt = 0 ∨ (I137 0 35).toInt + 1 ≤ (I137 0 34).toInt) := (by have q0 : (I137 0 35) = (I 0 35) := (by rw [fI137 0 35 (by decide), eI94, z_up_n (by decide)]); have q1 : (I137 0 34) = (I 0 34) := (by rw [fI137 0 34 (by decide), eI94, z_up_n (by decide)]); have q2 : (I137 0 33) = (I 0 33) := (by rw [fI137 0 33 (by decide), eI94, z_up_n (by decide)]); have q3 : (I137 0 36) = (I 0 36) := (by rw [fI137 0 36 (by decide), eI94, z_up_n (by decide)]); show 0 ≤ (I137 0 35).toInt ∧ (I137 0 35).toInt ≤ (I137 0 34).toInt ∧ (I137 0 34).toInt ≤ (I137 0 33).toInt ∧ (I137 0 33).toInt ≤ 500 ∧ ((I137 0 36).toInt = 0 ∨ (I137 0 35).toInt + 1 ≤ (I137 0 34).toInt); rw [q0, q1, q2, q3]; first | omega | decide)
        have k148 : (I137 0 35).toInt = (I 0 35).toInt := by rw [fI137 0 35 (by decide), eI94, z_up_n (by decide)]
        have k149 : (I137 0 34).toInt = (I 0 34).toInt := by rw [fI137 0 34 (by decide), eI94, z_up_n (by decide)]
        have k150 : (I137 0 36).toInt = (I 0 36).toInt := by rw [fI137 0 36 (by decide), eI94, z_up_n (by decide)]
        have k151 : (I137 0 42).toInt = (I 0 42).toInt := by rw [fI137 0 42 (by decide), eI94, z_up_n (by decide)]
        have k152 : (I137 0 39).toInt = (I 0 39).toInt := by rw [fI137 0 39 (by decide), eI94, z_up_n (by decide)]
        have k153 : (I137 0 15).toInt = (I 0 15).toInt := by rw [fI137 0 15 (by decide), eI94, z_up_n (by decide)]
        have h154 := hp
        rw [show (I94 0 47) = (I 0 47) from by rw [eI94, z_up_n (by decide)]] at h154
        exact z_vret hx hb hr hK hS (Nat.le_of_ble_eq_true rfl) (Nat.le_of_ble_eq_true rfl) hlocks dX12_chain_127 (shM, ad, I137, J139, PM ad) hW ⟨I137, J139, rfl, ⟨(by show 0 ≤ (I137 0 31).toInt ∧ (I137 0 31).toInt ≤ 500; exact k140), (by show 0 ≤ (I137 0 33).toInt ∧ (I137 0 33).toInt ≤ 500; exact k141), (by show 0 ≤ (I137 0 34).toInt ∧ (I137 0 34).toInt ≤ 500; exact k142), (by show 0 ≤ (I137 0 35).toInt ∧ (I137 0 35).toInt ≤ 500; exact k143)⟩, ⟨(by show 0 ≤ (I137 0 36).toInt ∧ (I137 0 36).toInt ≤ 4; exact k144), (by show 0 ≤ (I137 0 42).toInt ∧ (I137 0 42).toInt ≤ 1; exact k145)⟩, ⟨(by show 0 ≤ (I137 0 47).toInt ∧ (I137 0 47).toInt ≤ 119; exact hI137md.1), (by show 0 ≤ (I137 0 39).toInt ∧ (I137 0 39).toInt ≤ 100; exact hI137md.2)⟩, (by show 0 ≤ (I137 0 40).toInt ∧ (I137 0 40).toInt ≤ 6199; exact hI137mg), (by show 0 ≤ (I137 0 15).toInt ∧ (I137 0 15).toInt ≤ 6100; exact k146), (z_Nd_fr a96 fI137 (by decide)), (by show 0 ≤ (I137 0 35).toInt ∧ (I137 0 35).toInt ≤ (I137 0 34).toInt ∧ (I137 0 34).toInt ≤ (I137 0 33).toInt ∧ (I137 0 33).toInt ≤ 500 ∧ ((I137 0 36).toInt = 0 ∨ (I137 0 35).toInt + 1 ≤ (I137 0 34).toInt); first | omega | decide), f138, ((Classical.em ((I137 0 42).toInt = 0)).elim (fun hw9 => Or.inr ⟨a1.toNatClampNeg, by have w1 := z_fw_4nm (a := va.toInt) (o := vo.toInt) (by omega) (by omega); have w2 := z_fo_4n (a := va.toInt); exact z_POP (d := a1.toNatClampNeg) hPS (fun i hi => ⟨by rw [fI137 26 i (z_wr_c (by decide)), eI94, z_up_n (by decide)], by rw [fI137 27 i (z_wr_c (by decide)), eI94, z_up_n (by decide)], by rw [fI137 28 i (z_wr_c (by decide)), eI94, z_up_k (by omega)], by rw [fI137 29 i (z_wr_c (by decide)), eI94, z_up_n (by decide)]⟩) (by omega) (by omega) (by omega) (by omega) (by omega) (by omega)⟩) Or.inl)⟩
  · have g155 := z_f_eq rfl z_l0 c1
    refine lv_aload_n hx hb dX12_chain_9 rfl (lv_at hl 0 rfl) ?_
    refine z_get (T := TX12) (N := 96) (ci := 12) (i := 0) (v := .ref (ad 27)) hx hb hts zj_X12_chain_X12 hown hK hW rfl rfl 44 (by decide) (hts (.fieldLink RX12 94 "PetrolBoardModel" "at" "[I") (me_s (me_l (me_l (List.mem_of_getElem? (i := 0) rfl))))) (fun _ h => h) rfl dX12_chain_10 ?_
    refine lv_iload_n hx hb dX12_chain_13 rfl (lv_at hl 1 rfl) ?_
    refine lv_iconst (v := 1) hx hb dX12_chain_14 (by decide) ?_
    refine z_iast (i := 27) hx hb hK hW hS rfl (z_ix rfl (by omega) (by omega)) dX12_chain_15 (fun H locs hz1 hW hS => ?_)
    obtain ⟨I156, eI156⟩ : ∃ K : z_I, K = z_up I 27 a1.toNatClampNeg 1 := ⟨_, rfl⟩
    rw [← eI156] at hW
    have f157 := z_fr_a z_fr_0 (show z_wa L_X12_chain_0 27 = true by decide) eI156
    have a158 := z_Nd_n hNd (by decide) eI156
    refine lv_aload_n hx hb dX12_chain_16 rfl (lv_at hl 0 rfl) ?_
    refine lv_iload_n hx hb dX12_chain_17 rfl (lv_at hl 2 rfl) ?_
    refine lv_if_eq (tgt := 25) hx hb dX12_chain_18 (by decide) (fun c159 => ?_) (fun c159 => absurd (by decide) c159)
    refine lv_iconst (v := 5) hx hb dX12_chain_25 (by decide) ?_
    refine z_cv hW hS hA (va_runV (As := [.int 5]) (rest := []) ⟨hx, hb, hml, hown, hts⟩ (sx_X12_begin l G ad I156 J ⟨(by show 0 ≤ (I156 0 47).toInt ∧ (I156 0 47).toInt ≤ 119; rw [eI156, z_up_n (by decide)]; exact hmd.1), (by show 0 ≤ (I156 0 39).toInt ∧ (I156 0 39).toInt ≤ 100; rw [eI156, z_up_n (by decide)]; exact hmd.2)⟩ 5 (by have q0 : (I156 0 47) = (I 0 47) := (by rw [eI156, z_up_n (by decide)]); show (I156 0 47).toInt ≤ 118; rw [q0]; omega) _) (cwV 1 hts gX12_chain_X12_begin rfl rfl rfl hy_X12_begin ⟨Nat.le_of_ble_eq_true rfl, Nat.le_of_ble_eq_true rfl⟩) (z_preV (i := 0) hK hW rfl rfl) rfl rfl hl.1 rfl (lv_room (Nat.le_of_ble_eq_true rfl)) dX12_chain_26 ⟨Nat.le_of_ble_eq_true rfl, Nat.le_of_ble_eq_true rfl⟩) (fun u1 H locs hp hW hS => ?_)
    obtain ⟨I160, J162, e9, hI160md, fI160, hp⟩ := hp
    rw [e9] at hW
    have f161 := z_fr_sub (L := L_X12_chain_0) f157 fI160 (by decide)
    have k163 : 0 ≤ (I160 0 31).toInt ∧ (I160 0 31).toInt ≤ 500 := by rw [fI160 0 31 (by decide)]; exact (by show 0 ≤ (I156 0 31).toInt ∧ (I156 0 31).toInt ≤ 500; rw [eI156, z_up_n (by decide)]; exact hmp.1)
    have k164 : 0 ≤ (I160 0 33).toInt ∧ (I160 0 33).toInt ≤ 500 := by rw [fI160 0 33 (by decide)]; exact (by show 0 ≤ (I156 0 33).toInt ∧ (I156 0 33).toInt ≤ 500; rw [eI156, z_up_n (by decide)]; exact hmp.2.1)
    have k165 : 0 ≤ (I160 0 34).toInt ∧ (I160 0 34).toInt ≤ 500 := by rw [fI160 0 34 (by decide)]; exact (by show 0 ≤ (I156 0 34).toInt ∧ (I156 0 34).toInt ≤ 500; rw [eI156, z_up_n (by decide)]; exact hmp.2.2.1)
    have k166 : 0 ≤ (I160 0 35).toInt ∧ (I160 0 35).toInt ≤ 500 := by rw [fI160 0 35 (by decide)]; exact (by show 0 ≤ (I156 0 35).toInt ∧ (I156 0 35).toInt ≤ 500; rw [eI156, z_up_n (by decide)]; exact hmp.2.2.2)
    have k167 : 0 ≤ (I160 0 36).toInt ∧ (I160 0 36).toInt ≤ 4 := by rw [fI160 0 36 (by decide)]; exact (by show 0 ≤ (I156 0 36).toInt ∧ (I156 0 36).toInt ≤ 4; rw [eI156, z_up_n (by decide)]; exact hmt.1)
    have k168 : 0 ≤ (I160 0 42).toInt ∧ (I160 0 42).toInt ≤ 1 := by rw [fI160 0 42 (by decide)]; exact (by show 0 ≤ (I156 0 42).toInt ∧ (I156 0 42).toInt ≤ 1; rw [eI156, z_up_n (by decide)]; exact hmt.2)
    have k169 : 0 ≤ (I160 0 40).toInt ∧ (I160 0 40).toInt ≤ 6199 := by rw [fI160 0 40 (by decide)]; exact (by show 0 ≤ (I156 0 40).toInt ∧ (I156 0 40).toInt ≤ 6199; rw [eI156, z_up_n (by decide)]; exact hmg)
    have k170 : 0 ≤ (I160 0 15).toInt ∧ (I160 0 15).toInt ≤ 6100 := by rw [fI160 0 15 (by decide)]; exact (by show 0 ≤ (I156 0 15).toInt ∧ (I156 0 15).toInt ≤ 6100; rw [eI156, z_up_n (by decide)]; exact hmn)
    have k171 : 0 ≤ (I160 0 35).toInt ∧ (I160 0 35).toInt ≤ (I160 0 34).toInt ∧ (I160 0 34).toInt ≤ (I160 0 33).toInt ∧ (I160 0 33).toInt ≤ 500 ∧ ((I160 0 36).toInt = 0 ∨ (I160 0 35).toInt + 1 ≤ (I160 0 34).toInt) := (by have q0 : (I160 0 35) = (I 0 35) := (by rw [fI160 0 35 (by decide), eI156, z_up_n (by decide)]); have q1 : (I160 0 34) = (I 0 34) := (by rw [fI160 0 34 (by decide), eI156, z_up_n (by decide)]); have q2 : (I160 0 33) = (I 0 33) := (by rw [fI160 0 33 (by decide), eI156, z_up_n (by decide)]); have q3 : (I160 0 36) = (I 0 36) := (by rw [fI160 0 36 (by decide), eI156, z_up_n (by decide)]); show 0 ≤ (I160 0 35).toInt ∧ (I160 0 35).toInt ≤ (I160 0 34).toInt ∧ (I160 0 34).toInt ≤ (I160 0 33).toInt ∧ (I160 0 33).toInt ≤ 500 ∧ ((I160 0 36).toInt = 0 ∨ (I160 0 35).toInt + 1 ≤ (I160 0 34).toInt); rw [q0, q1, q2, q3]; first | omega | decide)
    have k172 : (I160 0 35).toInt = (I 0 35).toInt := by rw [fI160 0 35 (by decide), eI156, z_up_n (by decide)]
    have k173 : (I160 0 34).toInt = (I 0 34).toInt := by rw [fI160 0 34 (by decide), eI156, z_up_n (by decide)]
    have k174 : (I160 0 36).toInt = (I 0 36).toInt := by rw [fI160 0 36 (by decide), eI156, z_up_n (by decide)]
    have k175 : (I160 0 42).toInt = (I 0 42).toInt := by rw [fI160 0 42 (by decide), eI156, z_up_n (by decide)]
    have k176 : (I160 0 39).toInt = (I 0 39).toInt := by rw [fI160 0 39 (by decide), eI156, z_up_n (by decide)]
    have k177 : (I160 0 15).toInt = (I 0 15).toInt := by rw [fI160 0 15 (by decide), eI156, z_up_n (by decide)]
    have k178 : (I160 0 40).toInt = (I 0 40).toInt := by rw [fI160 0 40 (by decide), eI156, z_up_n (by decide)]
    have h179 := hp
    exact z_vret hx hb hr hK hS (Nat.le_of_ble_eq_true rfl) (Nat.le_of_ble_eq_true rfl) hlocks dX12_chain_29 (shM, ad, I160, J162, PM ad) hW ⟨I160, J162, rfl, ⟨(by show 0 ≤ (I160 0 31).toInt ∧ (I160 0 31).toInt ≤ 500; exact k163), (by show 0 ≤ (I160 0 33).toInt ∧ (I160 0 33).toInt ≤ 500; exact k164), (by show 0 ≤ (I160 0 34).toInt ∧ (I160 0 34).toInt ≤ 500; exact k165), (by show 0 ≤ (I160 0 35).toInt ∧ (I160 0 35).toInt ≤ 500; exact k166)⟩, ⟨(by show 0 ≤ (I160 0 36).toInt ∧ (I160 0 36).toInt ≤ 4; exact k167), (by show 0 ≤ (I160 0 42).toInt ∧ (I160 0 42).toInt ≤ 1; exact k168)⟩, ⟨(by show 0 ≤ (I160 0 47).toInt ∧ (I160 0 47).toInt ≤ 119; exact hI160md.1), (by show 0 ≤ (I160 0 39).toInt ∧ (I160 0 39).toInt ≤ 100; exact hI160md.2)⟩, (by show 0 ≤ (I160 0 40).toInt ∧ (I160 0 40).toInt ≤ 6199; exact k169), (by show 0 ≤ (I160 0 15).toInt ∧ (I160 0 15).toInt ≤ 6100; exact k170), (z_Nd_fr a158 fI160 (by decide)), (by show 0 ≤ (I160 0 35).toInt ∧ (I160 0 35).toInt ≤ (I160 0 34).toInt ∧ (I160 0 34).toInt ≤ (I160 0 33).toInt ∧ (I160 0 33).toInt ≤ 500 ∧ ((I160 0 36).toInt = 0 ∨ (I160 0 35).toInt + 1 ≤ (I160 0 34).toInt); first | omega | decide), f161, ((Classical.em ((I160 0 42).toInt = 0)).elim (fun hw9 => Or.inr ⟨a1.toNatClampNeg + 2, by have w1 := z_fw_40 (a := va.toInt) (o := vo.toInt) (by omega); have w2 := z_fo_4n (a := va.toInt); have w3 := z_fw_4nm (a := 1) (o := vo.toInt) (by omega) (by omega); have w4 := z_fo_4n (a := 1); have w5 := z_fw_50 (a := 0) (o := -1) (by omega); have w6 := z_rk_4; have w7 := z_rk_5; exact z_PUSH (d := a1.toNatClampNeg) (w := 4) (a := 1) (o := vo.toInt) (s := vs.toInt) (wi := 5) hPS (fun i hi => ⟨by rw [eI156, z_up_n (by decide)], by rw [eI156, z_up_k (by omega)], by rw [eI156, z_up_n (by decide)], by rw [eI156, z_up_n (by decide)]⟩) (by rw [show I156 26 a1.toNatClampNeg = vw from (by rw [eI156, z_up_n (by decide)]; exact evw.symm)]; exact hvw) (by rw [show I156 27 a1.toNatClampNeg = 1 from (by rw [eI156, z_up_s])]; exact z_l1) (by rw [show I156 28 a1.toNatClampNeg = vo from (by rw [eI156, z_up_n (by decide)]; exact evo.symm)]) (by rw [show I156 29 a1.toNatClampNeg = vs from (by rw [eI156, z_up_n (by decide)]; exact evs.symm)]) (by unfold z_fv; omega) hwd (by rw [eI156, z_up_n (by decide)]; omega) h179 z_l5 (by omega) (by omega) (by omega) (by omega) (by omega) (by omega) (by omega) (by omega)⟩) Or.inl)⟩
noncomputable def L_X12_test : z_L := [(0, 35), (0, 36), (0, 37), (0, 38), (0, 34), (0, 42), (0, 32), (0, 39), (21, 999), (22, 999), (23, 999), (0, 15), (26, 999), (27, 999), (28, 999), (29, 999), (0, 47), (0, 40)]
theorem zj_X12_test_X12 : ∀ w ∈ wsX120, w ∈ wsX12_test := fun w h => (List.mem_cons_of_mem _ (List.mem_append_right _ h))
set_option maxHeartbeats 8000000 in
set_option maxRecDepth 100000 in
theorem sx_X12_test (l : Launch) (G : z_G) (ad : Nat → Nat) (I : z_I) (J : z_J) (hmp : z_imp I) (hmt : z_imt I) (hmd : z_imd I) (hmg : z_img I) (hmn : z_imn I) (hNd : z_Nd I) (hrp : z_irp I) (B : Int) (a1 : Int32) (q1 : 0 ≤ a1.toInt ∧ a1.toInt ≤ 33) (hwd : (I 26 a1.toNatClampNeg).toInt = 5) (hPS : z_PS I (a1.toNatClampNeg + 1) B) : z_Mv l yX12_test wsX12_test { frames := 4, cells := 0, slots := 0, locals := 76 } [.ref (ad 0), .int a1] G (shM, ad, I, J, PM ad) (fun u1 => ∃ (I1 : z_I) (J1 : z_J), u1 = (shM, ad, I1, J1, PM ad) ∧ z_imp I1 ∧ z_imt I1 ∧ z_imd I1 ∧ z_img I1 ∧ z_imn I1 ∧ z_Nd I1 ∧ z_irp I1 ∧ z_fr L_X12_test I1 I ∧ (¬ (I1 0 42).toInt = 0 ∨ ∃ n, z_PS I1 n (B - 1))) 0 0 := by
  intro sz
  refine z_headQ (cc := cX12_test) (maxL := 2) (ret := none) (by decide) rfl (Nat.le_of_ble_eq_true rfl) ?_
  intro p e s m below meth c0 ls hIn hK hsz hW hl
  obtain ⟨hx, hb, hr, hml, hown, hts, hlocks, hname⟩ := hIn
  subst hsz
  have hown : s.vm.findClass RX12 = some m.cls := hown
  have hA : ∀ q : Nat, s.heap.size ≤ q → z_A (shM, ad, I, J, PM ad) s.heap.size q := fun q h => Or.inr h
  generalize hAe : z_A (shM, ad, I, J, PM ad) s.heap.size = A at *
  have hS : va_S A s.heap s.heap [] := va_S.rf
  have hl : lv_has ls 2 [(0, .ref (ad 0)), (1, .int a1)] := hl
  obtain ⟨va, eva⟩ : ∃ y, y = I 27 a1.toNatClampNeg := ⟨_, rfl⟩
  obtain ⟨vo, evo⟩ : ∃ y, y = I 28 a1.toNatClampNeg := ⟨_, rfl⟩
  obtain ⟨vs, evs⟩ : ∃ y, y = I 29 a1.toNatClampNeg := ⟨_, rfl⟩
  have hT := z_top hPS
  unfold z_fv at hT
  rw [hwd, ← eva, ← evo, ← evs] at hT
  obtain ⟨t1, t2, t3, t4, t5, t6, t7, t8, t9, t10, t11, t12, t13, t14, t15, t16, t17, t18, t19, t20, t21⟩ := hT
  have hk9 := z_clt (x := a1) rfl q1.1
  have hcw := z_fwc_5 va.toInt vo.toInt
  have hcf := z_foc_5 va.toInt
  obtain ⟨vw, evw⟩ : ∃ y, y = I 26 a1.toNatClampNeg := ⟨_, rfl⟩
  have hvw : vw.toInt = 5 := by rw [evw]; exact hwd
  have krp : 0 ≤ (I 0 35).toInt ∧ (I 0 35).toInt ≤ (I 0 34).toInt ∧ (I 0 34).toInt ≤ (I 0 33).toInt ∧ (I 0 33).toInt ≤ 500 ∧ ((I 0 36).toInt = 0 ∨ (I 0 35).toInt + 1 ≤ (I 0 34).toInt) := hrp
  refine lv_aload_n hx hb dX12_test_0 rfl (lv_at hl 0 rfl) ?_
  refine z_get (T := TX12) (N := 96) (ci := 12) (i := 0) (v := .ref (ad 27)) hx hb hts zj_X12_test_X12 hown hK hW rfl rfl 44 (by decide) (hts (.fieldLink RX12 94 "PetrolBoardModel" "at" "[I") (me_s (me_l (me_l (List.mem_of_getElem? (i := 0) rfl))))) (fun _ h => h) rfl dX12_test_1 ?_
  refine lv_iload_n hx hb dX12_test_4 rfl (lv_at hl 1 rfl) ?_
  refine z_iald (i := 27) hx hb hK hW rfl (z_ix rfl (by omega) (by omega)) dX12_test_5 ?_
  refine z_topi (v := va) eva.symm ?_
  refine lv_if_ne (tgt := 81) hx hb dX12_test_6 (by decide) (fun c1 => ?_) (fun c1 => ?_)
  · have g2 := z_f_ne rfl z_l0 c1
    refine lv_aload_n hx hb dX12_test_81 rfl (lv_at hl 0 rfl) ?_
    refine z_get (T := TX12) (N := 96) (ci := 12) (i := 0) (v := .ref (ad 27)) hx hb hts zj_X12_test_X12 hown hK hW rfl rfl 44 (by decide) (hts (.fieldLink RX12 94 "PetrolBoardModel" "at" "[I") (me_s (me_l (me_l (List.mem_of_getElem? (i := 0) rfl))))) (fun _ h => h) rfl dX12_test_82 ?_
    refine lv_iload_n hx hb dX12_test_85 rfl (lv_at hl 1 rfl) ?_
    refine z_iald (i := 27) hx hb hK hW rfl (z_ix rfl (by omega) (by omega)) dX12_test_86 ?_
    refine z_topi (v := va) eva.symm ?_
    refine lv_iconst (v := 1) hx hb dX12_test_87 (by decide) ?_
    refine lv_icmp_ne (tgt := 119) hx hb dX12_test_88 (by decide) (fun c3 => ?_) (fun c3 => ?_)
    · have g4 := z_f_ne rfl z_l1 c3
      refine lv_aload_n hx hb dX12_test_119 rfl (lv_at hl 0 rfl) ?_
      refine z_get (T := TX12) (N := 96) (ci := 12) (i := 0) (v := .ref (ad 27)) hx hb hts zj_X12_test_X12 hown hK hW rfl rfl 44 (by decide) (hts (.fieldLink RX12 94 "PetrolBoardModel" "at" "[I") (me_s (me_l (me_l (List.mem_of_getElem? (i := 0) rfl))))) (fun _ h => h) rfl dX12_test_120 ?_
      refine lv_iload_n hx hb dX12_test_123 rfl (lv_at hl 1 rfl) ?_
      refine z_iald (i := 27) hx hb hK hW rfl (z_ix rfl (by omega) (by omega)) dX12_test_124 ?_
      refine z_topi (v := va) eva.symm ?_
      refine lv_iconst (v := 2) hx hb dX12_test_125 (by decide) ?_
      refine lv_icmp_ne (tgt := 163) hx hb dX12_test_126 (by decide) (fun c5 => ?_) (fun c5 => ?_)
      · have g6 := z_f_ne rfl z_l2 c5
        refine lv_aload_n hx hb dX12_test_163 rfl (lv_at hl 0 rfl) ?_
        refine z_get (T := TX12) (N := 96) (ci := 12) (i := 0) (v := .ref (ad 27)) hx hb hts zj_X12_test_X12 hown hK hW rfl rfl 44 (by decide) (hts (.fieldLink RX12 94 "PetrolBoardModel" "at" "[I") (me_s (me_l (me_l (List.mem_of_getElem? (i := 0) rfl))))) (fun _ h => h) rfl dX12_test_164 ?_
        refine lv_iload_n hx hb dX12_test_167 rfl (lv_at hl 1 rfl) ?_
        refine z_iald (i := 27) hx hb hK hW rfl (z_ix rfl (by omega) (by omega)) dX12_test_168 ?_
        refine z_topi (v := va) eva.symm ?_
        refine lv_iconst (v := 3) hx hb dX12_test_169 (by decide) ?_
        refine lv_icmp_ne (tgt := 265) hx hb dX12_test_170 (by decide) (fun c7 => ?_) (fun c7 => ?_)
        · have g8 := z_f_ne rfl z_l3 c7
          refine lv_aload_n hx hb dX12_test_265 rfl (lv_at hl 0 rfl) ?_
          refine lv_aload_n hx hb dX12_test_266 rfl (lv_at hl 0 rfl) ?_
          refine lv_aload_n hx hb dX12_test_267 rfl (lv_at hl 0 rfl) ?_
          refine z_get (T := TX12) (N := 96) (ci := 12) (i := 0) (v := .ref (ad 29)) hx hb hts zj_X12_test_X12 hown hK hW rfl rfl 46 (by decide) (hts (.fieldLink RX12 100 "PetrolBoardModel" "sort" "[I") (me_s (me_l (me_l (List.mem_of_getElem? (i := 6) rfl))))) (fun _ h => h) rfl dX12_test_268 ?_
          refine lv_iload_n hx hb dX12_test_271 rfl (lv_at hl 1 rfl) ?_
          refine z_iald (i := 29) hx hb hK hW rfl (z_ix rfl (by omega) (by omega)) dX12_test_272 ?_
          refine z_topi (v := vs) evs.symm ?_
          refine lv_aload_n hx hb dX12_test_273 rfl (lv_at hl 0 rfl) ?_
          refine z_get (T := TX12) (N := 96) (ci := 12) (i := 0) (v := .ref (ad 28)) hx hb hts zj_X12_test_X12 hown hK hW rfl rfl 45 (by decide) (hts (.fieldLink RX12 97 "PetrolBoardModel" "one" "[I") (me_s (me_l (me_l (List.mem_of_getElem? (i := 5) rfl))))) (fun _ h => h) rfl dX12_test_274 ?_
          refine lv_iload_n hx hb dX12_test_277 rfl (lv_at hl 1 rfl) ?_
          refine z_iald (i := 28) hx hb hK hW rfl (z_ix rfl (by omega) (by omega)) dX12_test_278 ?_
          refine z_topi (v := vo) evo.symm ?_
          refine lv_aload_n hx hb dX12_test_279 rfl (lv_at hl 0 rfl) ?_
          have r9 : 0 ≤ (I 0 40).toInt ∧ (I 0 40).toInt ≤ 6199 := hmg
          refine z_get (T := TX12) (N := 96) (ci := 12) (i := 0) (v := .int (I 0 40)) hx hb hts zj_X12_test_X12 hown hK hW rfl rfl 40 (by decide) (hts (.fieldLink RX12 343 "PetrolBoardModel" "got" "I") (me_s (me_l (me_l (List.mem_of_getElem? (i := 3) rfl))))) (fun _ h => h) rfl dX12_test_280 ?_
          refine z_ci hW hS hA (va_runV (As := [.int vs, .int vo, .int (I 0 40)]) (rest := [.ref (ad 0)]) ⟨hx, hb, hml, hown, hts⟩ (sx_X12_node l G ad I J (by show 0 ≤ (I 0 15).toInt ∧ (I 0 15).toInt ≤ 6100; exact hmn) hNd vs vo (I 0 40) (by show (I 0 15).toInt ≤ 6099; omega) (by first | omega | decide) (by first | omega | decide) (by first | omega | decide) _) (cwV 3 hts gX12_test_X12_node rfl rfl rfl hy_X12_node ⟨Nat.le_of_ble_eq_true rfl, Nat.le_of_ble_eq_true rfl⟩) (z_preV (i := 0) hK hW rfl rfl) rfl rfl hl.1 rfl (lv_room (Nat.le_of_ble_eq_true rfl)) dX12_test_283 ⟨Nat.le_of_ble_eq_true rfl, Nat.le_of_ble_eq_true rfl⟩) (fun r u1 H locs hp hW hS => ?_)
          obtain ⟨I10, J12, e9, hI10mn, hI10Nd, fI10, hp⟩ := hp
          rw [e9] at hW
          have f11 := z_fr_sub (L := L_X12_test) z_fr_0 fI10 (by decide)
          have k13 : 0 ≤ (I10 0 31).toInt ∧ (I10 0 31).toInt ≤ 500 := by rw [fI10 0 31 (by decide)]; exact (by show 0 ≤ (I 0 31).toInt ∧ (I 0 31).toInt ≤ 500; exact hmp.1)
          have k14 : 0 ≤ (I10 0 33).toInt ∧ (I10 0 33).toInt ≤ 500 := by rw [fI10 0 33 (by decide)]; exact (by show 0 ≤ (I 0 33).toInt ∧ (I 0 33).toInt ≤ 500; exact hmp.2.1)
          have k15 : 0 ≤ (I10 0 34).toInt ∧ (I10 0 34).toInt ≤ 500 := by rw [fI10 0 34 (by decide)]; exact (by show 0 ≤ (I 0 34).toInt ∧ (I 0 34).toInt ≤ 500; exact hmp.2.2.1)
          have k16 : 0 ≤ (I10 0 35).toInt ∧ (I10 0 35).toInt ≤ 500 := by rw [fI10 0 35 (by decide)]; exact (by show 0 ≤ (I 0 35).toInt ∧ (I 0 35).toInt ≤ 500; exact hmp.2.2.2)
          have k17 : 0 ≤ (I10 0 36).toInt ∧ (I10 0 36).toInt ≤ 4 := by rw [fI10 0 36 (by decide)]; exact (by show 0 ≤ (I 0 36).toInt ∧ (I 0 36).toInt ≤ 4; exact hmt.1)
          have k18 : 0 ≤ (I10 0 42).toInt ∧ (I10 0 42).toInt ≤ 1 := by rw [fI10 0 42 (by decide)]; exact (by show 0 ≤ (I 0 42).toInt ∧ (I 0 42).toInt ≤ 1; exact hmt.2)
          have k19 : 0 ≤ (I10 0 47).toInt ∧ (I10 0 47).toInt ≤ 119 := by rw [fI10 0 47 (by decide)]; exact (by show 0 ≤ (I 0 47).toInt ∧ (I 0 47).toInt ≤ 119; exact hmd.1)
          have k20 : 0 ≤ (I10 0 39).toInt ∧ (I10 0 39).toInt ≤ 100 := by rw [fI10 0 39 (by decide)]; exact (by show 0 ≤ (I 0 39).toInt ∧ (I 0 39).toInt ≤ 100; exact hmd.2)
          have k21 : 0 ≤ (I10 0 40).toInt ∧ (I10 0 40).toInt ≤ 6199 := by rw [fI10 0 40 (by decide)]; exact (by show 0 ≤ (I 0 40).toInt ∧ (I 0 40).toInt ≤ 6199; exact hmg)
          have k22 : 0 ≤ (I10 0 35).toInt ∧ (I10 0 35).toInt ≤ (I10 0 34).toInt ∧ (I10 0 34).toInt ≤ (I10 0 33).toInt ∧ (I10 0 33).toInt ≤ 500 ∧ ((I10 0 36).toInt = 0 ∨ (I10 0 35).toInt + 1 ≤ (I10 0 34).toInt) := (by have q0 : (I10 0 35) = (I 0 35) := (by rw [fI10 0 35 (by decide)]); have q1 : (I10 0 34) = (I 0 34) := (by rw [fI10 0 34 (by decide)]); have q2 : (I10 0 33) = (I 0 33) := (by rw [fI10 0 33 (by decide)]); have q3 : (I10 0 36) = (I 0 36) := (by rw [fI10 0 36 (by decide)]); show 0 ≤ (I10 0 35).toInt ∧ (I10 0 35).toInt ≤ (I10 0 34).toInt ∧ (I10 0 34).toInt ≤ (I10 0 33).toInt ∧ (I10 0 33).toInt ≤ 500 ∧ ((I10 0 36).toInt = 0 ∨ (I10 0 35).toInt + 1 ≤ (I10 0 34).toInt); rw [q0, q1, q2, q3]; first | omega | decide)
          have k23 : (I10 0 35).toInt = (I 0 35).toInt := by rw [fI10 0 35 (by decide)]
          have k24 : (I10 0 34).toInt = (I 0 34).toInt := by rw [fI10 0 34 (by decide)]
          have k25 : (I10 0 36).toInt = (I 0 36).toInt := by rw [fI10 0 36 (by decide)]
          have k26 : (I10 0 42).toInt = (I 0 42).toInt := by rw [fI10 0 42 (by decide)]
          have k27 : (I10 0 47).toInt = (I 0 47).toInt := by rw [fI10 0 47 (by decide)]
          have k28 : (I10 0 39).toInt = (I 0 39).toInt := by rw [fI10 0 39 (by decide)]
          have k29 : (I10 0 40).toInt = (I 0 40).toInt := by rw [fI10 0 40 (by decide)]
          refine lv_topi (fun x30 ex30 => ?_)
          rw [← ex30] at hp
          obtain ⟨h31, h32⟩ := hp
          have h33 : 0 ≤ x30.toInt ∧ x30.toInt ≤ 6100 := (by have q9 : 0 ≤ (I 0 15).toInt ∧ (I 0 15).toInt ≤ 6100 := (by show 0 ≤ (I 0 15).toInt ∧ (I 0 15).toInt ≤ 6100; exact hmn); omega)
          refine z_cv hW hS hA (va_runV (As := [.int x30]) (rest := []) ⟨hx, hb, hml, hown, hts⟩ (sx_X12_ends l G ad I10 J12 ⟨(by show 0 ≤ (I10 0 47).toInt ∧ (I10 0 47).toInt ≤ 119; exact k19), (by show 0 ≤ (I10 0 39).toInt ∧ (I10 0 39).toInt ≤ 100; exact k20)⟩ (by show 0 ≤ (I10 0 40).toInt ∧ (I10 0 40).toInt ≤ 6199; exact k21) x30 (by first | omega | decide) (by show 1 ≤ (I10 0 47).toInt; omega) _) (cwV 1 hts gX12_test_X12_ends rfl rfl rfl hy_X12_ends ⟨Nat.le_of_ble_eq_true rfl, Nat.le_of_ble_eq_true rfl⟩) (z_preV (i := 0) hK hW rfl rfl) rfl rfl hl.1 rfl (lv_room (Nat.le_of_ble_eq_true rfl)) dX12_test_286 ⟨Nat.le_of_ble_eq_true rfl, Nat.le_of_ble_eq_true rfl⟩) (fun u1 H locs hp hW hS => ?_)
          obtain ⟨I34, J36, e9, hI34md, hI34mg, fI34, hp⟩ := hp
          rw [e9] at hW
          have f35 := z_fr_sub (L := L_X12_test) f11 fI34 (by decide)
          have k37 : 0 ≤ (I34 0 31).toInt ∧ (I34 0 31).toInt ≤ 500 := by rw [fI34 0 31 (by decide)]; exact (by show 0 ≤ (I10 0 31).toInt ∧ (I10 0 31).toInt ≤ 500; exact k13)
          have k38 : 0 ≤ (I34 0 33).toInt ∧ (I34 0 33).toInt ≤ 500 := by rw [fI34 0 33 (by decide)]; exact (by show 0 ≤ (I10 0 33).toInt ∧ (I10 0 33).toInt ≤ 500; exact k14)
          have k39 : 0 ≤ (I34 0 34).toInt ∧ (I34 0 34).toInt ≤ 500 := by rw [fI34 0 34 (by decide)]; exact (by show 0 ≤ (I10 0 34).toInt ∧ (I10 0 34).toInt ≤ 500; exact k15)
          have k40 : 0 ≤ (I34 0 35).toInt ∧ (I34 0 35).toInt ≤ 500 := by rw [fI34 0 35 (by decide)]; exact (by show 0 ≤ (I10 0 35).toInt ∧ (I10 0 35).toInt ≤ 500; exact k16)
          have k41 : 0 ≤ (I34 0 36).toInt ∧ (I34 0 36).toInt ≤ 4 := by rw [fI34 0 36 (by decide)]; exact (by show 0 ≤ (I10 0 36).toInt ∧ (I10 0 36).toInt ≤ 4; exact k17)
          have k42 : 0 ≤ (I34 0 42).toInt ∧ (I34 0 42).toInt ≤ 1 := by rw [fI34 0 42 (by decide)]; exact (by show 0 ≤ (I10 0 42).toInt ∧ (I10 0 42).toInt ≤ 1; exact k18)
          have k43 : 0 ≤ (I34 0 15).toInt ∧ (I34 0 15).toInt ≤ 6100 := by rw [fI34 0 15 (by decide)]; exact (by show 0 ≤ (I10 0 15).toInt ∧ (I10 0 15).toInt ≤ 6100; exact hI10mn)
          have k44 : 0 ≤ (I34 0 35).toInt ∧ (I34 0 35).toInt ≤ (I34 0 34).toInt ∧ (I34 0 34).toInt ≤ (I34 0 33).toInt ∧ (I34 0 33).toInt ≤ 500 ∧ ((I34 0 36).toInt = 0 ∨ (I34 0 35).toInt + 1 ≤ (I34 0 34).toInt) := (by have q0 : (I34 0 35) = (I10 0 35) := (by rw [fI34 0 35 (by decide)]); have q1 : (I34 0 34) = (I10 0 34) := (by rw [fI34 0 34 (by decide)]); have q2 : (I34 0 33) = (I10 0 33) := (by rw [fI34 0 33 (by decide)]); have q3 : (I34 0 36) = (I10 0 36) := (by rw [fI34 0 36 (by decide)]); show 0 ≤ (I34 0 35).toInt ∧ (I34 0 35).toInt ≤ (I34 0 34).toInt ∧ (I34 0 34).toInt ≤ (I34 0 33).toInt ∧ (I34 0 33).toInt ≤ 500 ∧ ((I34 0 36).toInt = 0 ∨ (I34 0 35).toInt + 1 ≤ (I34 0 34).toInt); rw [q0, q1, q2, q3]; first | omega | decide)
          have k45 : (I34 0 35).toInt = (I10 0 35).toInt := by rw [fI34 0 35 (by decide)]
          have k46 : (I34 0 34).toInt = (I10 0 34).toInt := by rw [fI34 0 34 (by decide)]
          have k47 : (I34 0 36).toInt = (I10 0 36).toInt := by rw [fI34 0 36 (by decide)]
          have k48 : (I34 0 42).toInt = (I10 0 42).toInt := by rw [fI34 0 42 (by decide)]
          have k49 : (I34 0 39).toInt = (I10 0 39).toInt := by rw [fI34 0 39 (by decide)]
          have k50 : (I34 0 15).toInt = (I10 0 15).toInt := by rw [fI34 0 15 (by decide)]
          have h51 := hp
          exact z_vret hx hb hr hK hS (Nat.le_of_ble_eq_true rfl) (Nat.le_of_ble_eq_true rfl) hlocks dX12_test_289 (shM, ad, I34, J36, PM ad) hW ⟨I34, J36, rfl, ⟨(by show 0 ≤ (I34 0 31).toInt ∧ (I34 0 31).toInt ≤ 500; exact k37), (by show 0 ≤ (I34 0 33).toInt ∧ (I34 0 33).toInt ≤ 500; exact k38), (by show 0 ≤ (I34 0 34).toInt ∧ (I34 0 34).toInt ≤ 500; exact k39), (by show 0 ≤ (I34 0 35).toInt ∧ (I34 0 35).toInt ≤ 500; exact k40)⟩, ⟨(by show 0 ≤ (I34 0 36).toInt ∧ (I34 0 36).toInt ≤ 4; exact k41), (by show 0 ≤ (I34 0 42).toInt ∧ (I34 0 42).toInt ≤ 1; exact k42)⟩, ⟨(by show 0 ≤ (I34 0 47).toInt ∧ (I34 0 47).toInt ≤ 119; exact hI34md.1), (by show 0 ≤ (I34 0 39).toInt ∧ (I34 0 39).toInt ≤ 100; exact hI34md.2)⟩, (by show 0 ≤ (I34 0 40).toInt ∧ (I34 0 40).toInt ≤ 6199; exact hI34mg), (by show 0 ≤ (I34 0 15).toInt ∧ (I34 0 15).toInt ≤ 6100; exact k43), (z_Nd_fr hI10Nd fI34 (by decide)), (by show 0 ≤ (I34 0 35).toInt ∧ (I34 0 35).toInt ≤ (I34 0 34).toInt ∧ (I34 0 34).toInt ≤ (I34 0 33).toInt ∧ (I34 0 33).toInt ≤ 500 ∧ ((I34 0 36).toInt = 0 ∨ (I34 0 35).toInt + 1 ≤ (I34 0 34).toInt); first | omega | decide), f35, ((Classical.em ((I34 0 42).toInt = 0)).elim (fun hw9 => Or.inr ⟨a1.toNatClampNeg, by have w1 := z_fw_514 (a := va.toInt) (o := vo.toInt) (by omega); have w2 := z_fo_5n (a := va.toInt) (by omega); exact z_POP (d := a1.toNatClampNeg) hPS (fun i hi => ⟨by rw [fI34 26 i (z_wr_c (by decide)), fI10 26 i (z_wr_c (by decide))], by rw [fI34 27 i (z_wr_c (by decide)), fI10 27 i (z_wr_c (by decide))], by rw [fI34 28 i (z_wr_c (by decide)), fI10 28 i (z_wr_c (by decide))], by rw [fI34 29 i (z_wr_c (by decide)), fI10 29 i (z_wr_c (by decide))]⟩) (by omega) (by omega) (by omega) (by omega) (by omega) (by omega)⟩) Or.inl)⟩
        · have g52 := z_f_eq rfl z_l3 c7
          refine lv_aload_n hx hb dX12_test_173 rfl (lv_at hl 0 rfl) ?_
          refine z_get (T := TX12) (N := 96) (ci := 12) (i := 0) (v := .ref (ad 28)) hx hb hts zj_X12_test_X12 hown hK hW rfl rfl 45 (by decide) (hts (.fieldLink RX12 97 "PetrolBoardModel" "one" "[I") (me_s (me_l (me_l (List.mem_of_getElem? (i := 5) rfl))))) (fun _ h => h) rfl dX12_test_174 ?_
          refine lv_iload_n hx hb dX12_test_177 rfl (lv_at hl 1 rfl) ?_
          refine lv_aload_n hx hb dX12_test_178 rfl (lv_at hl 0 rfl) ?_
          have r53 : 0 ≤ (I 0 40).toInt ∧ (I 0 40).toInt ≤ 6199 := hmg
          refine z_get (T := TX12) (N := 96) (ci := 12) (i := 0) (v := .int (I 0 40)) hx hb hts zj_X12_test_X12 hown hK hW rfl rfl 40 (by decide) (hts (.fieldLink RX12 343 "PetrolBoardModel" "got" "I") (me_s (me_l (me_l (List.mem_of_getElem? (i := 3) rfl))))) (fun _ h => h) rfl dX12_test_179 ?_
          refine z_iast (i := 28) hx hb hK hW hS rfl (z_ix rfl (by omega) (by omega)) dX12_test_182 (fun H locs hz1 hW hS => ?_)
          obtain ⟨I54, eI54⟩ : ∃ K : z_I, K = z_up I 28 a1.toNatClampNeg (I 0 40) := ⟨_, rfl⟩
          rw [← eI54] at hW
          have f55 := z_fr_a z_fr_0 (show z_wa L_X12_test 28 = true by decide) eI54
          have a56 := z_Nd_n hNd (by decide) eI54
          refine lv_aload_n hx hb dX12_test_183 rfl (lv_at hl 0 rfl) ?_
          refine z_get (T := TX12) (N := 96) (ci := 12) (i := 0) (v := .ref (ad 29)) hx hb hts zj_X12_test_X12 hown hK hW rfl rfl 46 (by decide) (hts (.fieldLink RX12 100 "PetrolBoardModel" "sort" "[I") (me_s (me_l (me_l (List.mem_of_getElem? (i := 6) rfl))))) (fun _ h => h) rfl dX12_test_184 ?_
          refine lv_iload_n hx hb dX12_test_187 rfl (lv_at hl 1 rfl) ?_
          refine lv_aload_n hx hb dX12_test_188 rfl (lv_at hl 0 rfl) ?_
          refine lv_bipush (v := 60) hx hb dX12_test_189 (by decide) ?_
          refine z_ci hW hS hA (va_runV (As := [.int 60]) (rest := [.int a1, .ref (ad 29)]) ⟨hx, hb, hml, hown, hts⟩ (sx_X12_isSign l G ad I54 J ⟨(by show 0 ≤ (I54 0 36).toInt ∧ (I54 0 36).toInt ≤ 4; rw [eI54, z_up_n (by decide)]; exact hmt.1), (by show 0 ≤ (I54 0 42).toInt ∧ (I54 0 42).toInt ≤ 1; rw [eI54, z_up_n (by decide)]; exact hmt.2)⟩ 60 _) (cwV 1 hts gX12_test_X12_isSign rfl rfl rfl hy_X12_isSign ⟨Nat.le_of_ble_eq_true rfl, Nat.le_of_ble_eq_true rfl⟩) (z_preV (i := 0) hK hW rfl rfl) rfl rfl hl.1 rfl (lv_room (Nat.le_of_ble_eq_true rfl)) dX12_test_191 ⟨Nat.le_of_ble_eq_true rfl, Nat.le_of_ble_eq_true rfl⟩) (fun r u1 H locs hp hW hS => ?_)
          obtain ⟨e9, hp⟩ := hp
          rw [e9] at hW
          rcases hp with ⟨rfl, h57⟩ | rfl
          · rw [show (I54 0 36) = (I 0 36) from by rw [eI54, z_up_n (by decide)]] at h57
            have h58 : (I 0 35).toInt + 1 ≤ (I 0 34).toInt := by omega
            refine lv_if_eq (tgt := 202) hx hb dX12_test_194 (by decide) (fun c59 => absurd c59 (by decide)) (fun c59 => ?_)
            refine lv_bipush (v := 8) hx hb dX12_test_197 (by decide) ?_
            refine lv_goto (tgt := 231) hx hb dX12_test_199 (by decide) ?_
            refine z_iast (i := 29) hx hb hK hW hS rfl (z_ix rfl (by omega) (by omega)) dX12_test_231 (fun H locs hz1 hW hS => ?_)
            obtain ⟨I60, eI60⟩ : ∃ K : z_I, K = z_up I54 29 a1.toNatClampNeg 8 := ⟨_, rfl⟩
            rw [← eI60] at hW
            have f61 := z_fr_a f55 (show z_wa L_X12_test 29 = true by decide) eI60
            have a62 := z_Nd_n a56 (by decide) eI60
            refine lv_aload_n hx hb dX12_test_232 rfl (lv_at hl 0 rfl) ?_
            refine z_get (T := TX12) (N := 96) (ci := 12) (i := 0) (v := .ref (ad 29)) hx hb hts zj_X12_test_X12 hown hK hW rfl rfl 46 (by decide) (hts (.fieldLink RX12 100 "PetrolBoardModel" "sort" "[I") (me_s (me_l (me_l (List.mem_of_getElem? (i := 6) rfl))))) (fun _ h => h) rfl dX12_test_233 ?_
            refine lv_iload_n hx hb dX12_test_236 rfl (lv_at hl 1 rfl) ?_
            refine z_iald (i := 29) hx hb hK hW rfl (z_ix rfl (by omega) (by omega)) dX12_test_237 ?_
            refine z_topi (v := 8) (by rw [eI60, z_up_s]) ?_
            refine lv_if_ne (tgt := 246) hx hb dX12_test_238 (by decide) (fun c63 => ?_) (fun c63 => absurd c63 (by decide))
            refine lv_aload_n hx hb dX12_test_246 rfl (lv_at hl 0 rfl) ?_
            refine z_cv hW hS hA (va_runV (As := []) (rest := []) ⟨hx, hb, hml, hown, hts⟩ (sx_X12_next l G ad I60 J ⟨(by show 0 ≤ (I60 0 31).toInt ∧ (I60 0 31).toInt ≤ 500; rw [eI60, z_up_n (by decide), eI54, z_up_n (by decide)]; exact hmp.1), (by show 0 ≤ (I60 0 33).toInt ∧ (I60 0 33).toInt ≤ 500; rw [eI60, z_up_n (by decide), eI54, z_up_n (by decide)]; exact hmp.2.1), (by show 0 ≤ (I60 0 34).toInt ∧ (I60 0 34).toInt ≤ 500; rw [eI60, z_up_n (by decide), eI54, z_up_n (by decide)]; exact hmp.2.2.1), (by show 0 ≤ (I60 0 35).toInt ∧ (I60 0 35).toInt ≤ 500; rw [eI60, z_up_n (by decide), eI54, z_up_n (by decide)]; exact hmp.2.2.2)⟩ ⟨(by show 0 ≤ (I60 0 36).toInt ∧ (I60 0 36).toInt ≤ 4; rw [eI60, z_up_n (by decide), eI54, z_up_n (by decide)]; exact hmt.1), (by show 0 ≤ (I60 0 42).toInt ∧ (I60 0 42).toInt ≤ 1; rw [eI60, z_up_n (by decide), eI54, z_up_n (by decide)]; exact hmt.2)⟩ (by have q0 : (I60 0 34) = (I 0 34) := (by rw [eI60, z_up_n (by decide), eI54, z_up_n (by decide)]); have q1 : (I60 0 33) = (I 0 33) := (by rw [eI60, z_up_n (by decide), eI54, z_up_n (by decide)]); show 0 ≤ (I60 0 34).toInt ∧ (I60 0 34).toInt ≤ (I60 0 33).toInt ∧ (I60 0 33).toInt ≤ 500; rw [q0, q1]; first | omega | decide)  _) (cwV 0 hts gX12_test_X12_next rfl rfl rfl hy_X12_next ⟨Nat.le_of_ble_eq_true rfl, Nat.le_of_ble_eq_true rfl⟩) (z_preV (i := 0) hK hW rfl rfl) rfl rfl hl.1 rfl (lv_room (Nat.le_of_ble_eq_true rfl)) dX12_test_247 ⟨Nat.le_of_ble_eq_true rfl, Nat.le_of_ble_eq_true rfl⟩) (fun u1 H locs hp hW hS => ?_)
            obtain ⟨I64, J66, e9, hI64mp, hI64mt, hI64rp, fI64, hp⟩ := hp
            rw [e9] at hW
            have f65 := z_fr_sub (L := L_X12_test) f61 fI64 (by decide)
            have k67 : 0 ≤ (I64 0 47).toInt ∧ (I64 0 47).toInt ≤ 119 := by rw [fI64 0 47 (by decide)]; exact (by show 0 ≤ (I60 0 47).toInt ∧ (I60 0 47).toInt ≤ 119; rw [eI60, z_up_n (by decide), eI54, z_up_n (by decide)]; exact hmd.1)
            have k68 : 0 ≤ (I64 0 39).toInt ∧ (I64 0 39).toInt ≤ 100 := by rw [fI64 0 39 (by decide)]; exact (by show 0 ≤ (I60 0 39).toInt ∧ (I60 0 39).toInt ≤ 100; rw [eI60, z_up_n (by decide), eI54, z_up_n (by decide)]; exact hmd.2)
            have k69 : 0 ≤ (I64 0 40).toInt ∧ (I64 0 40).toInt ≤ 6199 := by rw [fI64 0 40 (by decide)]; exact (by show 0 ≤ (I60 0 40).toInt ∧ (I60 0 40).toInt ≤ 6199; rw [eI60, z_up_n (by decide), eI54, z_up_n (by decide)]; exact hmg)
            have k70 : 0 ≤ (I64 0 15).toInt ∧ (I64 0 15).toInt ≤ 6100 := by rw [fI64 0 15 (by decide)]; exact (by show 0 ≤ (I60 0 15).toInt ∧ (I60 0 15).toInt ≤ 6100; rw [eI60, z_up_n (by decide), eI54, z_up_n (by decide)]; exact hmn)
            have k71 : 0 ≤ (I64 0 35).toInt ∧ (I64 0 35).toInt ≤ (I64 0 34).toInt ∧ (I64 0 34).toInt ≤ (I64 0 33).toInt ∧ (I64 0 33).toInt ≤ 500 ∧ ((I64 0 36).toInt = 0 ∨ (I64 0 35).toInt + 1 ≤ (I64 0 34).toInt) := hI64rp
            have k72 : (I64 0 42).toInt = (I 0 42).toInt := by rw [fI64 0 42 (by decide), eI60, z_up_n (by decide), eI54, z_up_n (by decide)]
            have k73 : (I64 0 47).toInt = (I 0 47).toInt := by rw [fI64 0 47 (by decide), eI60, z_up_n (by decide), eI54, z_up_n (by decide)]
            have k74 : (I64 0 39).toInt = (I 0 39).toInt := by rw [fI64 0 39 (by decide), eI60, z_up_n (by decide), eI54, z_up_n (by decide)]
            have k75 : (I64 0 15).toInt = (I 0 15).toInt := by rw [fI64 0 15 (by decide), eI60, z_up_n (by decide), eI54, z_up_n (by decide)]
            have k76 : (I64 0 40).toInt = (I 0 40).toInt := by rw [fI64 0 40 (by decide), eI60, z_up_n (by decide), eI54, z_up_n (by decide)]
            have h77 := hp
            rw [show (I60 0 34) = (I 0 34) from by rw [eI60, z_up_n (by decide), eI54, z_up_n (by decide)]] at h77
            refine lv_aload_n hx hb dX12_test_250 rfl (lv_at hl 0 rfl) ?_
            refine z_get (T := TX12) (N := 96) (ci := 12) (i := 0) (v := .ref (ad 27)) hx hb hts zj_X12_test_X12 hown hK hW rfl rfl 44 (by decide) (hts (.fieldLink RX12 94 "PetrolBoardModel" "at" "[I") (me_s (me_l (me_l (List.mem_of_getElem? (i := 0) rfl))))) (fun _ h => h) rfl dX12_test_251 ?_
            refine lv_iload_n hx hb dX12_test_254 rfl (lv_at hl 1 rfl) ?_
            refine lv_iconst (v := 4) hx hb dX12_test_255 (by decide) ?_
            refine z_iast (i := 27) hx hb hK hW hS rfl (z_ix rfl (by omega) (by omega)) dX12_test_256 (fun H locs hz1 hW hS => ?_)
            obtain ⟨I78, eI78⟩ : ∃ K : z_I, K = z_up I64 27 a1.toNatClampNeg 4 := ⟨_, rfl⟩
            rw [← eI78] at hW
            have f79 := z_fr_a f65 (show z_wa L_X12_test 27 = true by decide) eI78
            have a80 := z_Nd_n (z_Nd_fr a62 fI64 (by decide)) (by decide) eI78
            refine lv_aload_n hx hb dX12_test_257 rfl (lv_at hl 0 rfl) ?_
            refine lv_iconst (v := 0) hx hb dX12_test_258 (by decide) ?_
            refine z_cv hW hS hA (va_runV (As := [.int 0]) (rest := []) ⟨hx, hb, hml, hown, hts⟩ (sx_X12_begin l G ad I78 J66 ⟨(by show 0 ≤ (I78 0 47).toInt ∧ (I78 0 47).toInt ≤ 119; rw [eI78, z_up_n (by decide)]; exact k67), (by show 0 ≤ (I78 0 39).toInt ∧ (I78 0 39).toInt ≤ 100; rw [eI78, z_up_n (by decide)]; exact k68)⟩ 0 (by have q0 : (I78 0 47) = (I64 0 47) := (by rw [eI78, z_up_n (by decide)]); show (I78 0 47).toInt ≤ 118; rw [q0]; omega) _) (cwV 1 hts gX12_test_X12_begin rfl rfl rfl hy_X12_begin ⟨Nat.le_of_ble_eq_true rfl, Nat.le_of_ble_eq_true rfl⟩) (z_preV (i := 0) hK hW rfl rfl) rfl rfl hl.1 rfl (lv_room (Nat.le_of_ble_eq_true rfl)) dX12_test_259 ⟨Nat.le_of_ble_eq_true rfl, Nat.le_of_ble_eq_true rfl⟩) (fun u1 H locs hp hW hS => ?_)
            obtain ⟨I81, J83, e9, hI81md, fI81, hp⟩ := hp
            rw [e9] at hW
            have f82 := z_fr_sub (L := L_X12_test) f79 fI81 (by decide)
            have k84 : 0 ≤ (I81 0 31).toInt ∧ (I81 0 31).toInt ≤ 500 := by rw [fI81 0 31 (by decide)]; exact (by show 0 ≤ (I78 0 31).toInt ∧ (I78 0 31).toInt ≤ 500; rw [eI78, z_up_n (by decide)]; exact hI64mp.1)
            have k85 : 0 ≤ (I81 0 33).toInt ∧ (I81 0 33).toInt ≤ 500 := by rw [fI81 0 33 (by decide)]; exact (by show 0 ≤ (I78 0 33).toInt ∧ (I78 0 33).toInt ≤ 500; rw [eI78, z_up_n (by decide)]; exact hI64mp.2.1)
            have k86 : 0 ≤ (I81 0 34).toInt ∧ (I81 0 34).toInt ≤ 500 := by rw [fI81 0 34 (by decide)]; exact (by show 0 ≤ (I78 0 34).toInt ∧ (I78 0 34).toInt ≤ 500; rw [eI78, z_up_n (by decide)]; exact hI64mp.2.2.1)
            have k87 : 0 ≤ (I81 0 35).toInt ∧ (I81 0 35).toInt ≤ 500 := by rw [fI81 0 35 (by decide)]; exact (by show 0 ≤ (I78 0 35).toInt ∧ (I78 0 35).toInt ≤ 500; rw [eI78, z_up_n (by decide)]; exact hI64mp.2.2.2)
            have k88 : 0 ≤ (I81 0 36).toInt ∧ (I81 0 36).toInt ≤ 4 := by rw [fI81 0 36 (by decide)]; exact (by show 0 ≤ (I78 0 36).toInt ∧ (I78 0 36).toInt ≤ 4; rw [eI78, z_up_n (by decide)]; exact hI64mt.1)
            have k89 : 0 ≤ (I81 0 42).toInt ∧ (I81 0 42).toInt ≤ 1 := by rw [fI81 0 42 (by decide)]; exact (by show 0 ≤ (I78 0 42).toInt ∧ (I78 0 42).toInt ≤ 1; rw [eI78, z_up_n (by decide)]; exact hI64mt.2)
            have k90 : 0 ≤ (I81 0 40).toInt ∧ (I81 0 40).toInt ≤ 6199 := by rw [fI81 0 40 (by decide)]; exact (by show 0 ≤ (I78 0 40).toInt ∧ (I78 0 40).toInt ≤ 6199; rw [eI78, z_up_n (by decide)]; exact k69)
            have k91 : 0 ≤ (I81 0 15).toInt ∧ (I81 0 15).toInt ≤ 6100 := by rw [fI81 0 15 (by decide)]; exact (by show 0 ≤ (I78 0 15).toInt ∧ (I78 0 15).toInt ≤ 6100; rw [eI78, z_up_n (by decide)]; exact k70)
            have k92 : 0 ≤ (I81 0 35).toInt ∧ (I81 0 35).toInt ≤ (I81 0 34).toInt ∧ (I81 0 34).toInt ≤ (I81 0 33).toInt ∧ (I81 0 33).toInt ≤ 500 ∧ ((I81 0 36).toInt = 0 ∨ (I81 0 35).toInt + 1 ≤ (I81 0 34).toInt) := (by have q0 : (I81 0 35) = (I64 0 35) := (by rw [fI81 0 35 (by decide), eI78, z_up_n (by decide)]); have q1 : (I81 0 34) = (I64 0 34) := (by rw [fI81 0 34 (by decide), eI78, z_up_n (by decide)]); have q2 : (I81 0 33) = (I64 0 33) := (by rw [fI81 0 33 (by decide), eI78, z_up_n (by decide)]); have q3 : (I81 0 36) = (I64 0 36) := (by rw [fI81 0 36 (by decide), eI78, z_up_n (by decide)]); show 0 ≤ (I81 0 35).toInt ∧ (I81 0 35).toInt ≤ (I81 0 34).toInt ∧ (I81 0 34).toInt ≤ (I81 0 33).toInt ∧ (I81 0 33).toInt ≤ 500 ∧ ((I81 0 36).toInt = 0 ∨ (I81 0 35).toInt + 1 ≤ (I81 0 34).toInt); rw [q0, q1, q2, q3]; first | omega | decide)
            have k93 : (I81 0 35).toInt = (I64 0 35).toInt := by rw [fI81 0 35 (by decide), eI78, z_up_n (by decide)]
            have k94 : (I81 0 34).toInt = (I64 0 34).toInt := by rw [fI81 0 34 (by decide), eI78, z_up_n (by decide)]
            have k95 : (I81 0 36).toInt = (I64 0 36).toInt := by rw [fI81 0 36 (by decide), eI78, z_up_n (by decide)]
            have k96 : (I81 0 42).toInt = (I64 0 42).toInt := by rw [fI81 0 42 (by decide), eI78, z_up_n (by decide)]
            have k97 : (I81 0 39).toInt = (I64 0 39).toInt := by rw [fI81 0 39 (by decide), eI78, z_up_n (by decide)]
            have k98 : (I81 0 15).toInt = (I64 0 15).toInt := by rw [fI81 0 15 (by decide), eI78, z_up_n (by decide)]
            have k99 : (I81 0 40).toInt = (I64 0 40).toInt := by rw [fI81 0 40 (by decide), eI78, z_up_n (by decide)]
            have h100 := hp
            refine lv_goto (tgt := 289) hx hb dX12_test_262 (by decide) ?_
            exact z_vret hx hb hr hK hS (Nat.le_of_ble_eq_true rfl) (Nat.le_of_ble_eq_true rfl) hlocks dX12_test_289 (shM, ad, I81, J83, PM ad) hW ⟨I81, J83, rfl, ⟨(by show 0 ≤ (I81 0 31).toInt ∧ (I81 0 31).toInt ≤ 500; exact k84), (by show 0 ≤ (I81 0 33).toInt ∧ (I81 0 33).toInt ≤ 500; exact k85), (by show 0 ≤ (I81 0 34).toInt ∧ (I81 0 34).toInt ≤ 500; exact k86), (by show 0 ≤ (I81 0 35).toInt ∧ (I81 0 35).toInt ≤ 500; exact k87)⟩, ⟨(by show 0 ≤ (I81 0 36).toInt ∧ (I81 0 36).toInt ≤ 4; exact k88), (by show 0 ≤ (I81 0 42).toInt ∧ (I81 0 42).toInt ≤ 1; exact k89)⟩, ⟨(by show 0 ≤ (I81 0 47).toInt ∧ (I81 0 47).toInt ≤ 119; exact hI81md.1), (by show 0 ≤ (I81 0 39).toInt ∧ (I81 0 39).toInt ≤ 100; exact hI81md.2)⟩, (by show 0 ≤ (I81 0 40).toInt ∧ (I81 0 40).toInt ≤ 6199; exact k90), (by show 0 ≤ (I81 0 15).toInt ∧ (I81 0 15).toInt ≤ 6100; exact k91), (z_Nd_fr a80 fI81 (by decide)), (by show 0 ≤ (I81 0 35).toInt ∧ (I81 0 35).toInt ≤ (I81 0 34).toInt ∧ (I81 0 34).toInt ≤ (I81 0 33).toInt ∧ (I81 0 33).toInt ≤ 500 ∧ ((I81 0 36).toInt = 0 ∨ (I81 0 35).toInt + 1 ≤ (I81 0 34).toInt); first | omega | decide), f82, ((Classical.em ((I81 0 42).toInt = 0)).elim (fun hw9 => Or.inr ⟨a1.toNatClampNeg + 2, by have w1 := z_fw_523 (a := va.toInt) (o := vo.toInt) (by omega); have w2 := z_fo_5n (a := va.toInt) (by omega); have w3 := z_fw_514 (a := 4) (o := (I 0 40).toInt) (by omega); have w4 := z_fo_5n (a := 4) (by omega); have w5 := z_fw_00 (a := 0) (o := -1) (by omega); have w6 := z_rk_5; have w7 := z_rk_0; exact z_PUSH (d := a1.toNatClampNeg) (w := 5) (a := 4) (o := (I 0 40).toInt) (s := 8) (wi := 0) hPS (fun i hi => ⟨by rw [eI78, z_up_n (by decide), fI64 26 i (z_wr_c (by decide)), eI60, z_up_n (by decide), eI54, z_up_n (by decide)], by rw [eI78, z_up_k (by omega), fI64 27 i (z_wr_c (by decide)), eI60, z_up_n (by decide), eI54, z_up_n (by decide)], by rw [eI78, z_up_n (by decide), fI64 28 i (z_wr_c (by decide)), eI60, z_up_n (by decide), eI54, z_up_k (by omega)], by rw [eI78, z_up_n (by decide), fI64 29 i (z_wr_c (by decide)), eI60, z_up_k (by omega), eI54, z_up_n (by decide)]⟩) (by rw [show I78 26 a1.toNatClampNeg = vw from (by rw [eI78, z_up_n (by decide), fI64 26 a1.toNatClampNeg (z_wr_c (by decide)), eI60, z_up_n (by decide), eI54, z_up_n (by decide)]; exact evw.symm)]; exact hvw) (by rw [show I78 27 a1.toNatClampNeg = 4 from (by rw [eI78, z_up_s])]; exact z_l4) (by rw [show I78 28 a1.toNatClampNeg = (I 0 40) from (by rw [eI78, z_up_n (by decide), fI64 28 a1.toNatClampNeg (z_wr_c (by decide)), eI60, z_up_n (by decide), eI54, z_up_s])]) (by rw [show I78 29 a1.toNatClampNeg = 8 from (by rw [eI78, z_up_n (by decide), fI64 29 a1.toNatClampNeg (z_wr_c (by decide)), eI60, z_up_s])]; exact z_l8) (by unfold z_fv; omega) hwd (by rw [eI78, z_up_n (by decide)]; omega) h100 z_l0 (by omega) (by omega) (by omega) (by omega) (by omega) (by omega) (by omega) (by omega)⟩) Or.inl)⟩
          · refine lv_if_eq (tgt := 202) hx hb dX12_test_194 (by decide) (fun c101 => ?_) (fun c101 => absurd (by decide) c101)
            refine lv_aload_n hx hb dX12_test_202 rfl (lv_at hl 0 rfl) ?_
            refine lv_bipush (v := 62) hx hb dX12_test_203 (by decide) ?_
            refine z_ci hW hS hA (va_runV (As := [.int 62]) (rest := [.int a1, .ref (ad 29)]) ⟨hx, hb, hml, hown, hts⟩ (sx_X12_isSign l G ad I54 J ⟨(by show 0 ≤ (I54 0 36).toInt ∧ (I54 0 36).toInt ≤ 4; rw [eI54, z_up_n (by decide)]; exact hmt.1), (by show 0 ≤ (I54 0 42).toInt ∧ (I54 0 42).toInt ≤ 1; rw [eI54, z_up_n (by decide)]; exact hmt.2)⟩ 62 _) (cwV 1 hts gX12_test_X12_isSign rfl rfl rfl hy_X12_isSign ⟨Nat.le_of_ble_eq_true rfl, Nat.le_of_ble_eq_true rfl⟩) (z_preV (i := 0) hK hW rfl rfl) rfl rfl hl.1 rfl (lv_room (Nat.le_of_ble_eq_true rfl)) dX12_test_205 ⟨Nat.le_of_ble_eq_true rfl, Nat.le_of_ble_eq_true rfl⟩) (fun r u1 H locs hp hW hS => ?_)
            obtain ⟨e9, hp⟩ := hp
            rw [e9] at hW
            rcases hp with ⟨rfl, h102⟩ | rfl
            · rw [show (I54 0 36) = (I 0 36) from by rw [eI54, z_up_n (by decide)]] at h102
              have h103 : (I 0 35).toInt + 1 ≤ (I 0 34).toInt := by omega
              refine lv_if_eq (tgt := 216) hx hb dX12_test_208 (by decide) (fun c104 => absurd c104 (by decide)) (fun c104 => ?_)
              refine lv_bipush (v := 9) hx hb dX12_test_211 (by decide) ?_
              refine lv_goto (tgt := 231) hx hb dX12_test_213 (by decide) ?_
              refine z_iast (i := 29) hx hb hK hW hS rfl (z_ix rfl (by omega) (by omega)) dX12_test_231 (fun H locs hz1 hW hS => ?_)
              obtain ⟨I105, eI105⟩ : ∃ K : z_I, K = z_up I54 29 a1.toNatClampNeg 9 := ⟨_, rfl⟩
              rw [← eI105] at hW
              have f106 := z_fr_a f55 (show z_wa L_X12_test 29 = true by decide) eI105
              have a107 := z_Nd_n a56 (by decide) eI105
              refine lv_aload_n hx hb dX12_test_232 rfl (lv_at hl 0 rfl) ?_
              refine z_get (T := TX12) (N := 96) (ci := 12) (i := 0) (v := .ref (ad 29)) hx hb hts zj_X12_test_X12 hown hK hW rfl rfl 46 (by decide) (hts (.fieldLink RX12 100 "PetrolBoardModel" "sort" "[I") (me_s (me_l (me_l (List.mem_of_getElem? (i := 6) rfl))))) (fun _ h => h) rfl dX12_test_233 ?_
              refine lv_iload_n hx hb dX12_test_236 rfl (lv_at hl 1 rfl) ?_
              refine z_iald (i := 29) hx hb hK hW rfl (z_ix rfl (by omega) (by omega)) dX12_test_237 ?_
              refine z_topi (v := 9) (by rw [eI105, z_up_s]) ?_
              refine lv_if_ne (tgt := 246) hx hb dX12_test_238 (by decide) (fun c108 => ?_) (fun c108 => absurd c108 (by decide))
              refine lv_aload_n hx hb dX12_test_246 rfl (lv_at hl 0 rfl) ?_
              refine z_cv hW hS hA (va_runV (As := []) (rest := []) ⟨hx, hb, hml, hown, hts⟩ (sx_X12_next l G ad I105 J ⟨(by show 0 ≤ (I105 0 31).toInt ∧ (I105 0 31).toInt ≤ 500; rw [eI105, z_up_n (by decide), eI54, z_up_n (by decide)]; exact hmp.1), (by show 0 ≤ (I105 0 33).toInt ∧ (I105 0 33).toInt ≤ 500; rw [eI105, z_up_n (by decide), eI54, z_up_n (by decide)]; exact hmp.2.1), (by show 0 ≤ (I105 0 34).toInt ∧ (I105 0 34).toInt ≤ 500; rw [eI105, z_up_n (by decide), eI54, z_up_n (by decide)]; exact hmp.2.2.1), (by show 0 ≤ (I105 0 35).toInt ∧ (I105 0 35).toInt ≤ 500; rw [eI105, z_up_n (by decide), eI54, z_up_n (by decide)]; exact hmp.2.2.2)⟩ ⟨(by show 0 ≤ (I105 0 36).toInt ∧ (I105 0 36).toInt ≤ 4; rw [eI105, z_up_n (by decide), eI54, z_up_n (by decide)]; exact hmt.1), (by show 0 ≤ (I105 0 42).toInt ∧ (I105 0 42).toInt ≤ 1; rw [eI105, z_up_n (by decide), eI54, z_up_n (by decide)]; exact hmt.2)⟩ (by have q0 : (I105 0 34) = (I 0 34) := (by rw [eI105, z_up_n (by decide), eI54, z_up_n (by decide)]); have q1 : (I105 0 33) = (I 0 33) := (by rw [eI105, z_up_n (by decide), eI54, z_up_n (by decide)]); show 0 ≤ (I105 0 34).toInt ∧ (I105 0 34).toInt ≤ (I105 0 33).toInt ∧ (I105 0 33).toInt ≤ 500; rw [q0, q1]; first | omega | decide)  _) (cwV 0 hts gX12_test_X12_next rfl rfl rfl hy_X12_next ⟨Nat.le_of_ble_eq_true rfl, Nat.le_of_ble_eq_true rfl⟩) (z_preV (i := 0) hK hW rfl rfl) rfl rfl hl.1 rfl (lv_room (Nat.le_of_ble_eq_true rfl)) dX12_test_247 ⟨Nat.le_of_ble_eq_true rfl, Nat.le_of_ble_eq_true rfl⟩) (fun u1 H locs hp hW hS => ?_)
              obtain ⟨I109, J111, e9, hI109mp, hI109mt, hI109rp, fI109, hp⟩ := hp
              rw [e9] at hW
              have f110 := z_fr_sub (L := L_X12_test) f106 fI109 (by decide)
              have k112 : 0 ≤ (I109 0 47).toInt ∧ (I109 0 47).toInt ≤ 119 := by rw [fI109 0 47 (by decide)]; exact (by show 0 ≤ (I105 0 47).toInt ∧ (I105 0 47).toInt ≤ 119; rw [eI105, z_up_n (by decide), eI54, z_up_n (by decide)]; exact hmd.1)
              have k113 : 0 ≤ (I109 0 39).toInt ∧ (I109 0 39).toInt ≤ 100 := by rw [fI109 0 39 (by decide)]; exact (by show 0 ≤ (I105 0 39).toInt ∧ (I105 0 39).toInt ≤ 100; rw [eI105, z_up_n (by decide), eI54, z_up_n (by decide)]; exact hmd.2)
              have k114 : 0 ≤ (I109 0 40).toInt ∧ (I109 0 40).toInt ≤ 6199 := by rw [fI109 0 40 (by decide)]; exact (by show 0 ≤ (I105 0 40).toInt ∧ (I105 0 40).toInt ≤ 6199; rw [eI105, z_up_n (by decide), eI54, z_up_n (by decide)]; exact hmg)
              have k115 : 0 ≤ (I109 0 15).toInt ∧ (I109 0 15).toInt ≤ 6100 := by rw [fI109 0 15 (by decide)]; exact (by show 0 ≤ (I105 0 15).toInt ∧ (I105 0 15).toInt ≤ 6100; rw [eI105, z_up_n (by decide), eI54, z_up_n (by decide)]; exact hmn)
              have k116 : 0 ≤ (I109 0 35).toInt ∧ (I109 0 35).toInt ≤ (I109 0 34).toInt ∧ (I109 0 34).toInt ≤ (I109 0 33).toInt ∧ (I109 0 33).toInt ≤ 500 ∧ ((I109 0 36).toInt = 0 ∨ (I109 0 35).toInt + 1 ≤ (I109 0 34).toInt) := hI109rp
              have k117 : (I109 0 42).toInt = (I 0 42).toInt := by rw [fI109 0 42 (by decide), eI105, z_up_n (by decide), eI54, z_up_n (by decide)]
              have k118 : (I109 0 47).toInt = (I 0 47).toInt := by rw [fI109 0 47 (by decide), eI105, z_up_n (by decide), eI54, z_up_n (by decide)]
              have k119 : (I109 0 39).toInt = (I 0 39).toInt := by rw [fI109 0 39 (by decide), eI105, z_up_n (by decide), eI54, z_up_n (by decide)]
              have k120 : (I109 0 15).toInt = (I 0 15).toInt := by rw [fI109 0 15 (by decide), eI105, z_up_n (by decide), eI54, z_up_n (by decide)]
              have k121 : (I109 0 40).toInt = (I 0 40).toInt := by rw [fI109 0 40 (by decide), eI105, z_up_n (by decide), eI54, z_up_n (by decide)]
              have h122 := hp
              rw [show (I105 0 34) = (I 0 34) from by rw [eI105, z_up_n (by decide), eI54, z_up_n (by decide)]] at h122
              refine lv_aload_n hx hb dX12_test_250 rfl (lv_at hl 0 rfl) ?_
              refine z_get (T := TX12) (N := 96) (ci := 12) (i := 0) (v := .ref (ad 27)) hx hb hts zj_X12_test_X12 hown hK hW rfl rfl 44 (by decide) (hts (.fieldLink RX12 94 "PetrolBoardModel" "at" "[I") (me_s (me_l (me_l (List.mem_of_getElem? (i := 0) rfl))))) (fun _ h => h) rfl dX12_test_251 ?_
              refine lv_iload_n hx hb dX12_test_254 rfl (lv_at hl 1 rfl) ?_
              refine lv_iconst (v := 4) hx hb dX12_test_255 (by decide) ?_
              refine z_iast (i := 27) hx hb hK hW hS rfl (z_ix rfl (by omega) (by omega)) dX12_test_256 (fun H locs hz1 hW hS => ?_)
              obtain ⟨I123, eI123⟩ : ∃ K : z_I, K = z_up I109 27 a1.toNatClampNeg 4 := ⟨_, rfl⟩
              rw [← eI123] at hW
              have f124 := z_fr_a f110 (show z_wa L_X12_test 27 = true by decide) eI123
              have a125 := z_Nd_n (z_Nd_fr a107 fI109 (by decide)) (by decide) eI123
              refine lv_aload_n hx hb dX12_test_257 rfl (lv_at hl 0 rfl) ?_
              refine lv_iconst (v := 0) hx hb dX12_test_258 (by decide) ?_
              refine z_cv hW hS hA (va_runV (As := [.int 0]) (rest := []) ⟨hx, hb, hml, hown, hts⟩ (sx_X12_begin l G ad I123 J111 ⟨(by show 0 ≤ (I123 0 47).toInt ∧ (I123 0 47).toInt ≤ 119; rw [eI123, z_up_n (by decide)]; exact k112), (by show 0 ≤ (I123 0 39).toInt ∧ (I123 0 39).toInt ≤ 100; rw [eI123, z_up_n (by decide)]; exact k113)⟩ 0 (by have q0 : (I123 0 47) = (I109 0 47) := (by rw [eI123, z_up_n (by decide)]); show (I123 0 47).toInt ≤ 118; rw [q0]; omega) _) (cwV 1 hts gX12_test_X12_begin rfl rfl rfl hy_X12_begin ⟨Nat.le_of_ble_eq_true rfl, Nat.le_of_ble_eq_true rfl⟩) (z_preV (i := 0) hK hW rfl rfl) rfl rfl hl.1 rfl (lv_room (Nat.le_of_ble_eq_true rfl)) dX12_test_259 ⟨Nat.le_of_ble_eq_true rfl, Nat.le_of_ble_eq_true rfl⟩) (fun u1 H locs hp hW hS => ?_)
              obtain ⟨I126, J128, e9, hI126md, fI126, hp⟩ := hp
              rw [e9] at hW
              have f127 := z_fr_sub (L := L_X12_test) f124 fI126 (by decide)
              have k129 : 0 ≤ (I126 0 31).toInt ∧ (I126 0 31).toInt ≤ 500 := by rw [fI126 0 31 (by decide)]; exact (by show 0 ≤ (I123 0 31).toInt ∧ (I123 0 31).toInt ≤ 500; rw [eI123, z_up_n (by decide)]; exact hI109mp.1)
              have k130 : 0 ≤ (I126 0 33).toInt ∧ (I126 0 33).toInt ≤ 500 := by rw [fI126 0 33 (by decide)]; exact (by show 0 ≤ (I123 0 33).toInt ∧ (I123 0 33).toInt ≤ 500; rw [eI123, z_up_n (by decide)]; exact hI109mp.2.1)
              have k131 : 0 ≤ (I126 0 34).toInt ∧ (I126 0 34).toInt ≤ 500 := by rw [fI126 0 34 (by decide)]; exact (by show 0 ≤ (I123 0 34).toInt ∧ (I123 0 34).toInt ≤ 500; rw [eI123, z_up_n (by decide)]; exact hI109mp.2.2.1)
              have k132 : 0 ≤ (I126 0 35).toInt ∧ (I126 0 35).toInt ≤ 500 := by rw [fI126 0 35 (by decide)]; exact (by show 0 ≤ (I123 0 35).toInt ∧ (I123 0 35).toInt ≤ 500; rw [eI123, z_up_n (by decide)]; exact hI109mp.2.2.2)
              have k133 : 0 ≤ (I126 0 36).toInt ∧ (I126 0 36).toInt ≤ 4 := by rw [fI126 0 36 (by decide)]; exact (by show 0 ≤ (I123 0 36).toInt ∧ (I123 0 36).toInt ≤ 4; rw [eI123, z_up_n (by decide)]; exact hI109mt.1)
              have k134 : 0 ≤ (I126 0 42).toInt ∧ (I126 0 42).toInt ≤ 1 := by rw [fI126 0 42 (by decide)]; exact (by show 0 ≤ (I123 0 42).toInt ∧ (I123 0 42).toInt ≤ 1; rw [eI123, z_up_n (by decide)]; exact hI109mt.2)
              have k135 : 0 ≤ (I126 0 40).toInt ∧ (I126 0 40).toInt ≤ 6199 := by rw [fI126 0 40 (by decide)]; exact (by show 0 ≤ (I123 0 40).toInt ∧ (I123 0 40).toInt ≤ 6199; rw [eI123, z_up_n (by decide)]; exact k114)
              have k136 : 0 ≤ (I126 0 15).toInt ∧ (I126 0 15).toInt ≤ 6100 := by rw [fI126 0 15 (by decide)]; exact (by show 0 ≤ (I123 0 15).toInt ∧ (I123 0 15).toInt ≤ 6100; rw [eI123, z_up_n (by decide)]; exact k115)
              have k137 : 0 ≤ (I126 0 35).toInt ∧ (I126 0 35).toInt ≤ (I126 0 34).toInt ∧ (I126 0 34).toInt ≤ (I126 0 33).toInt ∧ (I126 0 33).toInt ≤ 500 ∧ ((I126 0 36).toInt = 0 ∨ (I126 0 35).toInt + 1 ≤ (I126 0 34).toInt) := (by have q0 : (I126 0 35) = (I109 0 35) := (by rw [fI126 0 35 (by decide), eI123, z_up_n (by decide)]); have q1 : (I126 0 34) = (I109 0 34) := (by rw [fI126 0 34 (by decide), eI123, z_up_n (by decide)]); have q2 : (I126 0 33) = (I109 0 33) := (by rw [fI126 0 33 (by decide), eI123, z_up_n (by decide)]); have q3 : (I126 0 36) = (I109 0 36) := (by rw [fI126 0 36 (by decide), eI123, z_up_n (by decide)]); show 0 ≤ (I126 0 35).toInt ∧ (I126 0 35).toInt ≤ (I126 0 34).toInt ∧ (I126 0 34).toInt ≤ (I126 0 33).toInt ∧ (I126 0 33).toInt ≤ 500 ∧ ((I126 0 36).toInt = 0 ∨ (I126 0 35).toInt + 1 ≤ (I126 0 34).toInt); rw [q0, q1, q2, q3]; first | omega | decide)
              have k138 : (I126 0 35).toInt = (I109 0 35).toInt := by rw [fI126 0 35 (by decide), eI123, z_up_n (by decide)]
              have k139 : (I126 0 34).toInt = (I109 0 34).toInt := by rw [fI126 0 34 (by decide), eI123, z_up_n (by decide)]
              have k140 : (I126 0 36).toInt = (I109 0 36).toInt := by rw [fI126 0 36 (by decide), eI123, z_up_n (by decide)]
              have k141 : (I126 0 42).toInt = (I109 0 42).toInt := by rw [fI126 0 42 (by decide), eI123, z_up_n (by decide)]
              have k142 : (I126 0 39).toInt = (I109 0 39).toInt := by rw [fI126 0 39 (by decide), eI123, z_up_n (by decide)]
              have k143 : (I126 0 15).toInt = (I109 0 15).toInt := by rw [fI126 0 15 (by decide), eI123, z_up_n (by decide)]
              have k144 : (I126 0 40).toInt = (I109 0 40).toInt := by rw [fI126 0 40 (by decide), eI123, z_up_n (by decide)]
              have h145 := hp
              refine lv_goto (tgt := 289) hx hb dX12_test_262 (by decide) ?_
              exact z_vret hx hb hr hK hS (Nat.le_of_ble_eq_true rfl) (Nat.le_of_ble_eq_true rfl) hlocks dX12_test_289 (shM, ad, I126, J128, PM ad) hW ⟨I126, J128, rfl, ⟨(by show 0 ≤ (I126 0 31).toInt ∧ (I126 0 31).toInt ≤ 500; exact k129), (by show 0 ≤ (I126 0 33).toInt ∧ (I126 0 33).toInt ≤ 500; exact k130), (by show 0 ≤ (I126 0 34).toInt ∧ (I126 0 34).toInt ≤ 500; exact k131), (by show 0 ≤ (I126 0 35).toInt ∧ (I126 0 35).toInt ≤ 500; exact k132)⟩, ⟨(by show 0 ≤ (I126 0 36).toInt ∧ (I126 0 36).toInt ≤ 4; exact k133), (by show 0 ≤ (I126 0 42).toInt ∧ (I126 0 42).toInt ≤ 1; exact k134)⟩, ⟨(by show 0 ≤ (I126 0 47).toInt ∧ (I126 0 47).toInt ≤ 119; exact hI126md.1), (by show 0 ≤ (I126 0 39).toInt ∧ (I126 0 39).toInt ≤ 100; exact hI126md.2)⟩, (by show 0 ≤ (I126 0 40).toInt ∧ (I126 0 40).toInt ≤ 6199; exact k135), (by show 0 ≤ (I126 0 15).toInt ∧ (I126 0 15).toInt ≤ 6100; exact k136), (z_Nd_fr a125 fI126 (by decide)), (by show 0 ≤ (I126 0 35).toInt ∧ (I126 0 35).toInt ≤ (I126 0 34).toInt ∧ (I126 0 34).toInt ≤ (I126 0 33).toInt ∧ (I126 0 33).toInt ≤ 500 ∧ ((I126 0 36).toInt = 0 ∨ (I126 0 35).toInt + 1 ≤ (I126 0 34).toInt); first | omega | decide), f127, ((Classical.em ((I126 0 42).toInt = 0)).elim (fun hw9 => Or.inr ⟨a1.toNatClampNeg + 2, by have w1 := z_fw_523 (a := va.toInt) (o := vo.toInt) (by omega); have w2 := z_fo_5n (a := va.toInt) (by omega); have w3 := z_fw_514 (a := 4) (o := (I 0 40).toInt) (by omega); have w4 := z_fo_5n (a := 4) (by omega); have w5 := z_fw_00 (a := 0) (o := -1) (by omega); have w6 := z_rk_5; have w7 := z_rk_0; exact z_PUSH (d := a1.toNatClampNeg) (w := 5) (a := 4) (o := (I 0 40).toInt) (s := 9) (wi := 0) hPS (fun i hi => ⟨by rw [eI123, z_up_n (by decide), fI109 26 i (z_wr_c (by decide)), eI105, z_up_n (by decide), eI54, z_up_n (by decide)], by rw [eI123, z_up_k (by omega), fI109 27 i (z_wr_c (by decide)), eI105, z_up_n (by decide), eI54, z_up_n (by decide)], by rw [eI123, z_up_n (by decide), fI109 28 i (z_wr_c (by decide)), eI105, z_up_n (by decide), eI54, z_up_k (by omega)], by rw [eI123, z_up_n (by decide), fI109 29 i (z_wr_c (by decide)), eI105, z_up_k (by omega), eI54, z_up_n (by decide)]⟩) (by rw [show I123 26 a1.toNatClampNeg = vw from (by rw [eI123, z_up_n (by decide), fI109 26 a1.toNatClampNeg (z_wr_c (by decide)), eI105, z_up_n (by decide), eI54, z_up_n (by decide)]; exact evw.symm)]; exact hvw) (by rw [show I123 27 a1.toNatClampNeg = 4 from (by rw [eI123, z_up_s])]; exact z_l4) (by rw [show I123 28 a1.toNatClampNeg = (I 0 40) from (by rw [eI123, z_up_n (by decide), fI109 28 a1.toNatClampNeg (z_wr_c (by decide)), eI105, z_up_n (by decide), eI54, z_up_s])]) (by rw [show I123 29 a1.toNatClampNeg = 9 from (by rw [eI123, z_up_n (by decide), fI109 29 a1.toNatClampNeg (z_wr_c (by decide)), eI105, z_up_s])]; exact z_l9) (by unfold z_fv; omega) hwd (by rw [eI123, z_up_n (by decide)]; omega) h145 z_l0 (by omega) (by omega) (by omega) (by omega) (by omega) (by omega) (by omega) (by omega)⟩) Or.inl)⟩
            · refine lv_if_eq (tgt := 216) hx hb dX12_test_208 (by decide) (fun c146 => ?_) (fun c146 => absurd (by decide) c146)
              refine lv_aload_n hx hb dX12_test_216 rfl (lv_at hl 0 rfl) ?_
              refine lv_bipush (v := 61) hx hb dX12_test_217 (by decide) ?_
              refine z_ci hW hS hA (va_runV (As := [.int 61]) (rest := [.int a1, .ref (ad 29)]) ⟨hx, hb, hml, hown, hts⟩ (sx_X12_isSign l G ad I54 J ⟨(by show 0 ≤ (I54 0 36).toInt ∧ (I54 0 36).toInt ≤ 4; rw [eI54, z_up_n (by decide)]; exact hmt.1), (by show 0 ≤ (I54 0 42).toInt ∧ (I54 0 42).toInt ≤ 1; rw [eI54, z_up_n (by decide)]; exact hmt.2)⟩ 61 _) (cwV 1 hts gX12_test_X12_isSign rfl rfl rfl hy_X12_isSign ⟨Nat.le_of_ble_eq_true rfl, Nat.le_of_ble_eq_true rfl⟩) (z_preV (i := 0) hK hW rfl rfl) rfl rfl hl.1 rfl (lv_room (Nat.le_of_ble_eq_true rfl)) dX12_test_219 ⟨Nat.le_of_ble_eq_true rfl, Nat.le_of_ble_eq_true rfl⟩) (fun r u1 H locs hp hW hS => ?_)
              obtain ⟨e9, hp⟩ := hp
              rw [e9] at hW
              rcases hp with ⟨rfl, h147⟩ | rfl
              · rw [show (I54 0 36) = (I 0 36) from by rw [eI54, z_up_n (by decide)]] at h147
                have h148 : (I 0 35).toInt + 1 ≤ (I 0 34).toInt := by omega
                refine lv_if_eq (tgt := 230) hx hb dX12_test_222 (by decide) (fun c149 => absurd c149 (by decide)) (fun c149 => ?_)
                refine lv_bipush (v := 10) hx hb dX12_test_225 (by decide) ?_
                refine lv_goto (tgt := 231) hx hb dX12_test_227 (by decide) ?_
                refine z_iast (i := 29) hx hb hK hW hS rfl (z_ix rfl (by omega) (by omega)) dX12_test_231 (fun H locs hz1 hW hS => ?_)
                obtain ⟨I150, eI150⟩ : ∃ K : z_I, K = z_up I54 29 a1.toNatClampNeg 10 := ⟨_, rfl⟩
                rw [← eI150] at hW
                have f151 := z_fr_a f55 (show z_wa L_X12_test 29 = true by decide) eI150
                have a152 := z_Nd_n a56 (by decide) eI150
                refine lv_aload_n hx hb dX12_test_232 rfl (lv_at hl 0 rfl) ?_
                refine z_get (T := TX12) (N := 96) (ci := 12) (i := 0) (v := .ref (ad 29)) hx hb hts zj_X12_test_X12 hown hK hW rfl rfl 46 (by decide) (hts (.fieldLink RX12 100 "PetrolBoardModel" "sort" "[I") (me_s (me_l (me_l (List.mem_of_getElem? (i := 6) rfl))))) (fun _ h => h) rfl dX12_test_233 ?_
                refine lv_iload_n hx hb dX12_test_236 rfl (lv_at hl 1 rfl) ?_
                refine z_iald (i := 29) hx hb hK hW rfl (z_ix rfl (by omega) (by omega)) dX12_test_237 ?_
                refine z_topi (v := 10) (by rw [eI150, z_up_s]) ?_
                refine lv_if_ne (tgt := 246) hx hb dX12_test_238 (by decide) (fun c153 => ?_) (fun c153 => absurd c153 (by decide))
                refine lv_aload_n hx hb dX12_test_246 rfl (lv_at hl 0 rfl) ?_
                refine z_cv hW hS hA (va_runV (As := []) (rest := []) ⟨hx, hb, hml, hown, hts⟩ (sx_X12_next l G ad I150 J ⟨(by show 0 ≤ (I150 0 31).toInt ∧ (I150 0 31).toInt ≤ 500; rw [eI150, z_up_n (by decide), eI54, z_up_n (by decide)]; exact hmp.1), (by show 0 ≤ (I150 0 33).toInt ∧ (I150 0 33).toInt ≤ 500; rw [eI150, z_up_n (by decide), eI54, z_up_n (by decide)]; exact hmp.2.1), (by show 0 ≤ (I150 0 34).toInt ∧ (I150 0 34).toInt ≤ 500; rw [eI150, z_up_n (by decide), eI54, z_up_n (by decide)]; exact hmp.2.2.1), (by show 0 ≤ (I150 0 35).toInt ∧ (I150 0 35).toInt ≤ 500; rw [eI150, z_up_n (by decide), eI54, z_up_n (by decide)]; exact hmp.2.2.2)⟩ ⟨(by show 0 ≤ (I150 0 36).toInt ∧ (I150 0 36).toInt ≤ 4; rw [eI150, z_up_n (by decide), eI54, z_up_n (by decide)]; exact hmt.1), (by show 0 ≤ (I150 0 42).toInt ∧ (I150 0 42).toInt ≤ 1; rw [eI150, z_up_n (by decide), eI54, z_up_n (by decide)]; exact hmt.2)⟩ (by have q0 : (I150 0 34) = (I 0 34) := (by rw [eI150, z_up_n (by decide), eI54, z_up_n (by decide)]); have q1 : (I150 0 33) = (I 0 33) := (by rw [eI150, z_up_n (by decide), eI54, z_up_n (by decide)]); show 0 ≤ (I150 0 34).toInt ∧ (I150 0 34).toInt ≤ (I150 0 33).toInt ∧ (I150 0 33).toInt ≤ 500; rw [q0, q1]; first | omega | decide)  _) (cwV 0 hts gX12_test_X12_next rfl rfl rfl hy_X12_next ⟨Nat.le_of_ble_eq_true rfl, Nat.le_of_ble_eq_true rfl⟩) (z_preV (i := 0) hK hW rfl rfl) rfl rfl hl.1 rfl (lv_room (Nat.le_of_ble_eq_true rfl)) dX12_test_247 ⟨Nat.le_of_ble_eq_true rfl, Nat.le_of_ble_eq_true rfl⟩) (fun u1 H locs hp hW hS => ?_)
                obtain ⟨I154, J156, e9, hI154mp, hI154mt, hI154rp, fI154, hp⟩ := hp
                rw [e9] at hW
                have f155 := z_fr_sub (L := L_X12_test) f151 fI154 (by decide)
                have k157 : 0 ≤ (I154 0 47).toInt ∧ (I154 0 47).toInt ≤ 119 := by rw [fI154 0 47 (by decide)]; exact (by show 0 ≤ (I150 0 47).toInt ∧ (I150 0 47).toInt ≤ 119; rw [eI150, z_up_n (by decide), eI54, z_up_n (by decide)]; exact hmd.1)
                have k158 : 0 ≤ (I154 0 39).toInt ∧ (I154 0 39).toInt ≤ 100 := by rw [fI154 0 39 (by decide)]; exact (by show 0 ≤ (I150 0 39).toInt ∧ (I150 0 39).toInt ≤ 100; rw [eI150, z_up_n (by decide), eI54, z_up_n (by decide)]; exact hmd.2)
                have k159 : 0 ≤ (I154 0 40).toInt ∧ (I154 0 40).toInt ≤ 6199 := by rw [fI154 0 40 (by decide)]; exact (by show 0 ≤ (I150 0 40).toInt ∧ (I150 0 40).toInt ≤ 6199; rw [eI150, z_up_n (by decide), eI54, z_up_n (by decide)]; exact hmg)
                have k160 : 0 ≤ (I154 0 15).toInt ∧ (I154 0 15).toInt ≤ 6100 := by rw [fI154 0 15 (by decide)]; exact (by show 0 ≤ (I150 0 15).toInt ∧ (I150 0 15).toInt ≤ 6100; rw [eI150, z_up_n (by decide), eI54, z_up_n (by decide)]; exact hmn)
                have k161 : 0 ≤ (I154 0 35).toInt ∧ (I154 0 35).toInt ≤ (I154 0 34).toInt ∧ (I154 0 34).toInt ≤ (I154 0 33).toInt ∧ (I154 0 33).toInt ≤ 500 ∧ ((I154 0 36).toInt = 0 ∨ (I154 0 35).toInt + 1 ≤ (I154 0 34).toInt) := hI154rp
                have k162 : (I154 0 42).toInt = (I 0 42).toInt := by rw [fI154 0 42 (by decide), eI150, z_up_n (by decide), eI54, z_up_n (by decide)]
                have k163 : (I154 0 47).toInt = (I 0 47).toInt := by rw [fI154 0 47 (by decide), eI150, z_up_n (by decide), eI54, z_up_n (by decide)]
                have k164 : (I154 0 39).toInt = (I 0 39).toInt := by rw [fI154 0 39 (by decide), eI150, z_up_n (by decide), eI54, z_up_n (by decide)]
                have k165 : (I154 0 15).toInt = (I 0 15).toInt := by rw [fI154 0 15 (by decide), eI150, z_up_n (by decide), eI54, z_up_n (by decide)]
                have k166 : (I154 0 40).toInt = (I 0 40).toInt := by rw [fI154 0 40 (by decide), eI150, z_up_n (by decide), eI54, z_up_n (by decide)]
                have h167 := hp
                rw [show (I150 0 34) = (I 0 34) from by rw [eI150, z_up_n (by decide), eI54, z_up_n (by decide)]] at h167
                refine lv_aload_n hx hb dX12_test_250 rfl (lv_at hl 0 rfl) ?_
                refine z_get (T := TX12) (N := 96) (ci := 12) (i := 0) (v := .ref (ad 27)) hx hb hts zj_X12_test_X12 hown hK hW rfl rfl 44 (by decide) (hts (.fieldLink RX12 94 "PetrolBoardModel" "at" "[I") (me_s (me_l (me_l (List.mem_of_getElem? (i := 0) rfl))))) (fun _ h => h) rfl dX12_test_251 ?_
                refine lv_iload_n hx hb dX12_test_254 rfl (lv_at hl 1 rfl) ?_
                refine lv_iconst (v := 4) hx hb dX12_test_255 (by decide) ?_
                refine z_iast (i := 27) hx hb hK hW hS rfl (z_ix rfl (by omega) (by omega)) dX12_test_256 (fun H locs hz1 hW hS => ?_)
                obtain ⟨I168, eI168⟩ : ∃ K : z_I, K = z_up I154 27 a1.toNatClampNeg 4 := ⟨_, rfl⟩
                rw [← eI168] at hW
                have f169 := z_fr_a f155 (show z_wa L_X12_test 27 = true by decide) eI168
                have a170 := z_Nd_n (z_Nd_fr a152 fI154 (by decide)) (by decide) eI168
                refine lv_aload_n hx hb dX12_test_257 rfl (lv_at hl 0 rfl) ?_
                refine lv_iconst (v := 0) hx hb dX12_test_258 (by decide) ?_
                refine z_cv hW hS hA (va_runV (As := [.int 0]) (rest := []) ⟨hx, hb, hml, hown, hts⟩ (sx_X12_begin l G ad I168 J156 ⟨(by show 0 ≤ (I168 0 47).toInt ∧ (I168 0 47).toInt ≤ 119; rw [eI168, z_up_n (by decide)]; exact k157), (by show 0 ≤ (I168 0 39).toInt ∧ (I168 0 39).toInt ≤ 100; rw [eI168, z_up_n (by decide)]; exact k158)⟩ 0 (by have q0 : (I168 0 47) = (I154 0 47) := (by rw [eI168, z_up_n (by decide)]); show (I168 0 47).toInt ≤ 118; rw [q0]; omega) _) (cwV 1 hts gX12_test_X12_begin rfl rfl rfl hy_X12_begin ⟨Nat.le_of_ble_eq_true rfl, Nat.le_of_ble_eq_true rfl⟩) (z_preV (i := 0) hK hW rfl rfl) rfl rfl hl.1 rfl (lv_room (Nat.le_of_ble_eq_true rfl)) dX12_test_259 ⟨Nat.le_of_ble_eq_true rfl, Nat.le_of_ble_eq_true rfl⟩) (fun u1 H locs hp hW hS => ?_)
                obtain ⟨I171, J173, e9, hI171md, fI171, hp⟩ := hp
                rw [e9] at hW
                have f172 := z_fr_sub (L := L_X12_test) f169 fI171 (by decide)
                have k174 : 0 ≤ (I171 0 31).toInt ∧ (I171 0 31).toInt ≤ 500 := by rw [fI171 0 31 (by decide)]; exact (by show 0 ≤ (I168 0 31).toInt ∧ (I168 0 31).toInt ≤ 500; rw [eI168, z_up_n (by decide)]; exact hI154mp.1)
                have k175 : 0 ≤ (I171 0 33).toInt ∧ (I171 0 33).toInt ≤ 500 := by rw [fI171 0 33 (by decide)]; exact (by show 0 ≤ (I168 0 33).toInt ∧ (I168 0 33).toInt ≤ 500; rw [eI168, z_up_n (by decide)]; exact hI154mp.2.1)
                have k176 : 0 ≤ (I171 0 34).toInt ∧ (I171 0 34).toInt ≤ 500 := by rw [fI171 0 34 (by decide)]; exact (by show 0 ≤ (I168 0 34).toInt ∧ (I168 0 34).toInt ≤ 500; rw [eI168, z_up_n (by decide)]; exact hI154mp.2.2.1)
                have k177 : 0 ≤ (I171 0 35).toInt ∧ (I171 0 35).toInt ≤ 500 := by rw [fI171 0 35 (by decide)]; exact (by show 0 ≤ (I168 0 35).toInt ∧ (I168 0 35).toInt ≤ 500; rw [eI168, z_up_n (by decide)]; exact hI154mp.2.2.2)
                have k178 : 0 ≤ (I171 0 36).toInt ∧ (I171 0 36).toInt ≤ 4 := by rw [fI171 0 36 (by decide)]; exact (by show 0 ≤ (I168 0 36).toInt ∧ (I168 0 36).toInt ≤ 4; rw [eI168, z_up_n (by decide)]; exact hI154mt.1)
                have k179 : 0 ≤ (I171 0 42).toInt ∧ (I171 0 42).toInt ≤ 1 := by rw [fI171 0 42 (by decide)]; exact (by show 0 ≤ (I168 0 42).toInt ∧ (I168 0 42).toInt ≤ 1; rw [eI168, z_up_n (by decide)]; exact hI154mt.2)
                have k180 : 0 ≤ (I171 0 40).toInt ∧ (I171 0 40).toInt ≤ 6199 := by rw [fI171 0 40 (by decide)]; exact (by show 0 ≤ (I168 0 40).toInt ∧ (I168 0 40).toInt ≤ 6199; rw [eI168, z_up_n (by decide)]; exact k159)
                have k181 : 0 ≤ (I171 0 15).toInt ∧ (I171 0 15).toInt ≤ 6100 := by rw [fI171 0 15 (by decide)]; exact (by show 0 ≤ (I168 0 15).toInt ∧ (I168 0 15).toInt ≤ 6100; rw [eI168, z_up_n (by decide)]; exact k160)
                have k182 : 0 ≤ (I171 0 35).toInt ∧ (I171 0 35).toInt ≤ (I171 0 34).toInt ∧ (I171 0 34).toInt ≤ (I171 0 33).toInt ∧ (I171 0 33).toInt ≤ 500 ∧ ((I171 0 36).toInt = 0 ∨ (I171 0 35).toInt + 1 ≤ (I171 0 34).toInt) := (by have q0 : (I171 0 35) = (I154 0 35) := (by rw [fI171 0 35 (by decide), eI168, z_up_n (by decide)]); have q1 : (I171 0 34) = (I154 0 34) := (by rw [fI171 0 34 (by decide), eI168, z_up_n (by decide)]); have q2 : (I171 0 33) = (I154 0 33) := (by rw [fI171 0 33 (by decide), eI168, z_up_n (by decide)]); have q3 : (I171 0 36) = (I154 0 36) := (by rw [fI171 0 36 (by decide), eI168, z_up_n (by decide)]); show 0 ≤ (I171 0 35).toInt ∧ (I171 0 35).toInt ≤ (I171 0 34).toInt ∧ (I171 0 34).toInt ≤ (I171 0 33).toInt ∧ (I171 0 33).toInt ≤ 500 ∧ ((I171 0 36).toInt = 0 ∨ (I171 0 35).toInt + 1 ≤ (I171 0 34).toInt); rw [q0, q1, q2, q3]; first | omega | decide)
                have k183 : (I171 0 35).toInt = (I154 0 35).toInt := by rw [fI171 0 35 (by decide), eI168, z_up_n (by decide)]
                have k184 : (I171 0 34).toInt = (I154 0 34).toInt := by rw [fI171 0 34 (by decide), eI168, z_up_n (by decide)]
                have k185 : (I171 0 36).toInt = (I154 0 36).toInt := by rw [fI171 0 36 (by decide), eI168, z_up_n (by decide)]
                have k186 : (I171 0 42).toInt = (I154 0 42).toInt := by rw [fI171 0 42 (by decide), eI168, z_up_n (by decide)]
                have k187 : (I171 0 39).toInt = (I154 0 39).toInt := by rw [fI171 0 39 (by decide), eI168, z_up_n (by decide)]
                have k188 : (I171 0 15).toInt = (I154 0 15).toInt := by rw [fI171 0 15 (by decide), eI168, z_up_n (by decide)]
                have k189 : (I171 0 40).toInt = (I154 0 40).toInt := by rw [fI171 0 40 (by decide), eI168, z_up_n (by decide)]
                have h190 := hp
                refine lv_goto (tgt := 289) hx hb dX12_test_262 (by decide) ?_
                exact z_vret hx hb hr hK hS (Nat.le_of_ble_eq_true rfl) (Nat.le_of_ble_eq_true rfl) hlocks dX12_test_289 (shM, ad, I171, J173, PM ad) hW ⟨I171, J173, rfl, ⟨(by show 0 ≤ (I171 0 31).toInt ∧ (I171 0 31).toInt ≤ 500; exact k174), (by show 0 ≤ (I171 0 33).toInt ∧ (I171 0 33).toInt ≤ 500; exact k175), (by show 0 ≤ (I171 0 34).toInt ∧ (I171 0 34).toInt ≤ 500; exact k176), (by show 0 ≤ (I171 0 35).toInt ∧ (I171 0 35).toInt ≤ 500; exact k177)⟩, ⟨(by show 0 ≤ (I171 0 36).toInt ∧ (I171 0 36).toInt ≤ 4; exact k178), (by show 0 ≤ (I171 0 42).toInt ∧ (I171 0 42).toInt ≤ 1; exact k179)⟩, ⟨(by show 0 ≤ (I171 0 47).toInt ∧ (I171 0 47).toInt ≤ 119; exact hI171md.1), (by show 0 ≤ (I171 0 39).toInt ∧ (I171 0 39).toInt ≤ 100; exact hI171md.2)⟩, (by show 0 ≤ (I171 0 40).toInt ∧ (I171 0 40).toInt ≤ 6199; exact k180), (by show 0 ≤ (I171 0 15).toInt ∧ (I171 0 15).toInt ≤ 6100; exact k181), (z_Nd_fr a170 fI171 (by decide)), (by show 0 ≤ (I171 0 35).toInt ∧ (I171 0 35).toInt ≤ (I171 0 34).toInt ∧ (I171 0 34).toInt ≤ (I171 0 33).toInt ∧ (I171 0 33).toInt ≤ 500 ∧ ((I171 0 36).toInt = 0 ∨ (I171 0 35).toInt + 1 ≤ (I171 0 34).toInt); first | omega | decide), f172, ((Classical.em ((I171 0 42).toInt = 0)).elim (fun hw9 => Or.inr ⟨a1.toNatClampNeg + 2, by have w1 := z_fw_523 (a := va.toInt) (o := vo.toInt) (by omega); have w2 := z_fo_5n (a := va.toInt) (by omega); have w3 := z_fw_514 (a := 4) (o := (I 0 40).toInt) (by omega); have w4 := z_fo_5n (a := 4) (by omega); have w5 := z_fw_00 (a := 0) (o := -1) (by omega); have w6 := z_rk_5; have w7 := z_rk_0; exact z_PUSH (d := a1.toNatClampNeg) (w := 5) (a := 4) (o := (I 0 40).toInt) (s := 10) (wi := 0) hPS (fun i hi => ⟨by rw [eI168, z_up_n (by decide), fI154 26 i (z_wr_c (by decide)), eI150, z_up_n (by decide), eI54, z_up_n (by decide)], by rw [eI168, z_up_k (by omega), fI154 27 i (z_wr_c (by decide)), eI150, z_up_n (by decide), eI54, z_up_n (by decide)], by rw [eI168, z_up_n (by decide), fI154 28 i (z_wr_c (by decide)), eI150, z_up_n (by decide), eI54, z_up_k (by omega)], by rw [eI168, z_up_n (by decide), fI154 29 i (z_wr_c (by decide)), eI150, z_up_k (by omega), eI54, z_up_n (by decide)]⟩) (by rw [show I168 26 a1.toNatClampNeg = vw from (by rw [eI168, z_up_n (by decide), fI154 26 a1.toNatClampNeg (z_wr_c (by decide)), eI150, z_up_n (by decide), eI54, z_up_n (by decide)]; exact evw.symm)]; exact hvw) (by rw [show I168 27 a1.toNatClampNeg = 4 from (by rw [eI168, z_up_s])]; exact z_l4) (by rw [show I168 28 a1.toNatClampNeg = (I 0 40) from (by rw [eI168, z_up_n (by decide), fI154 28 a1.toNatClampNeg (z_wr_c (by decide)), eI150, z_up_n (by decide), eI54, z_up_s])]) (by rw [show I168 29 a1.toNatClampNeg = 10 from (by rw [eI168, z_up_n (by decide), fI154 29 a1.toNatClampNeg (z_wr_c (by decide)), eI150, z_up_s])]; exact z_l10) (by unfold z_fv; omega) hwd (by rw [eI168, z_up_n (by decide)]; omega) h190 z_l0 (by omega) (by omega) (by omega) (by omega) (by omega) (by omega) (by omega) (by omega)⟩) Or.inl)⟩
              · refine lv_if_eq (tgt := 230) hx hb dX12_test_222 (by decide) (fun c191 => ?_) (fun c191 => absurd (by decide) c191)
                refine lv_iconst (v := 0) hx hb dX12_test_230 (by decide) ?_
                refine z_iast (i := 29) hx hb hK hW hS rfl (z_ix rfl (by omega) (by omega)) dX12_test_231 (fun H locs hz1 hW hS => ?_)
                obtain ⟨I192, eI192⟩ : ∃ K : z_I, K = z_up I54 29 a1.toNatClampNeg 0 := ⟨_, rfl⟩
                rw [← eI192] at hW
                have f193 := z_fr_a f55 (show z_wa L_X12_test 29 = true by decide) eI192
                have a194 := z_Nd_n a56 (by decide) eI192
                refine lv_aload_n hx hb dX12_test_232 rfl (lv_at hl 0 rfl) ?_
                refine z_get (T := TX12) (N := 96) (ci := 12) (i := 0) (v := .ref (ad 29)) hx hb hts zj_X12_test_X12 hown hK hW rfl rfl 46 (by decide) (hts (.fieldLink RX12 100 "PetrolBoardModel" "sort" "[I") (me_s (me_l (me_l (List.mem_of_getElem? (i := 6) rfl))))) (fun _ h => h) rfl dX12_test_233 ?_
                refine lv_iload_n hx hb dX12_test_236 rfl (lv_at hl 1 rfl) ?_
                refine z_iald (i := 29) hx hb hK hW rfl (z_ix rfl (by omega) (by omega)) dX12_test_237 ?_
                refine z_topi (v := 0) (by rw [eI192, z_up_s]) ?_
                refine lv_if_ne (tgt := 246) hx hb dX12_test_238 (by decide) (fun c195 => absurd (by decide) c195) (fun c195 => ?_)
                refine lv_aload_n hx hb dX12_test_241 rfl (lv_at hl 0 rfl) ?_
                refine z_cv hW hS hA (va_runV (As := []) (rest := []) ⟨hx, hb, hml, hown, hts⟩ (sx_X12_errs l G ad I192 J ⟨(by show 0 ≤ (I192 0 36).toInt ∧ (I192 0 36).toInt ≤ 4; rw [eI192, z_up_n (by decide), eI54, z_up_n (by decide)]; exact hmt.1), (by show 0 ≤ (I192 0 42).toInt ∧ (I192 0 42).toInt ≤ 1; rw [eI192, z_up_n (by decide), eI54, z_up_n (by decide)]; exact hmt.2)⟩  _) (cwV 0 hts gX12_test_X12_errs rfl rfl rfl hy_X12_errs ⟨Nat.le_of_ble_eq_true rfl, Nat.le_of_ble_eq_true rfl⟩) (z_preV (i := 0) hK hW rfl rfl) rfl rfl hl.1 rfl (lv_room (Nat.le_of_ble_eq_true rfl)) dX12_test_242 ⟨Nat.le_of_ble_eq_true rfl, Nat.le_of_ble_eq_true rfl⟩) (fun u1 H locs hp hW hS => ?_)
                obtain ⟨I196, J198, e9, hI196mt, fI196, hp⟩ := hp
                rw [e9] at hW
                have f197 := z_fr_sub (L := L_X12_test) f193 fI196 (by decide)
                have k199 : 0 ≤ (I196 0 31).toInt ∧ (I196 0 31).toInt ≤ 500 := by rw [fI196 0 31 (by decide)]; exact (by show 0 ≤ (I192 0 31).toInt ∧ (I192 0 31).toInt ≤ 500; rw [eI192, z_up_n (by decide), eI54, z_up_n (by decide)]; exact hmp.1)
                have k200 : 0 ≤ (I196 0 33).toInt ∧ (I196 0 33).toInt ≤ 500 := by rw [fI196 0 33 (by decide)]; exact (by show 0 ≤ (I192 0 33).toInt ∧ (I192 0 33).toInt ≤ 500; rw [eI192, z_up_n (by decide), eI54, z_up_n (by decide)]; exact hmp.2.1)
                have k201 : 0 ≤ (I196 0 34).toInt ∧ (I196 0 34).toInt ≤ 500 := by rw [fI196 0 34 (by decide)]; exact (by show 0 ≤ (I192 0 34).toInt ∧ (I192 0 34).toInt ≤ 500; rw [eI192, z_up_n (by decide), eI54, z_up_n (by decide)]; exact hmp.2.2.1)
                have k202 : 0 ≤ (I196 0 35).toInt ∧ (I196 0 35).toInt ≤ 500 := by rw [fI196 0 35 (by decide)]; exact (by show 0 ≤ (I192 0 35).toInt ∧ (I192 0 35).toInt ≤ 500; rw [eI192, z_up_n (by decide), eI54, z_up_n (by decide)]; exact hmp.2.2.2)
                have k203 : 0 ≤ (I196 0 47).toInt ∧ (I196 0 47).toInt ≤ 119 := by rw [fI196 0 47 (by decide)]; exact (by show 0 ≤ (I192 0 47).toInt ∧ (I192 0 47).toInt ≤ 119; rw [eI192, z_up_n (by decide), eI54, z_up_n (by decide)]; exact hmd.1)
                have k204 : 0 ≤ (I196 0 39).toInt ∧ (I196 0 39).toInt ≤ 100 := by rw [fI196 0 39 (by decide)]; exact (by show 0 ≤ (I192 0 39).toInt ∧ (I192 0 39).toInt ≤ 100; rw [eI192, z_up_n (by decide), eI54, z_up_n (by decide)]; exact hmd.2)
                have k205 : 0 ≤ (I196 0 40).toInt ∧ (I196 0 40).toInt ≤ 6199 := by rw [fI196 0 40 (by decide)]; exact (by show 0 ≤ (I192 0 40).toInt ∧ (I192 0 40).toInt ≤ 6199; rw [eI192, z_up_n (by decide), eI54, z_up_n (by decide)]; exact hmg)
                have k206 : 0 ≤ (I196 0 15).toInt ∧ (I196 0 15).toInt ≤ 6100 := by rw [fI196 0 15 (by decide)]; exact (by show 0 ≤ (I192 0 15).toInt ∧ (I192 0 15).toInt ≤ 6100; rw [eI192, z_up_n (by decide), eI54, z_up_n (by decide)]; exact hmn)
                have k207 : 0 ≤ (I196 0 35).toInt ∧ (I196 0 35).toInt ≤ (I196 0 34).toInt ∧ (I196 0 34).toInt ≤ (I196 0 33).toInt ∧ (I196 0 33).toInt ≤ 500 ∧ ((I196 0 36).toInt = 0 ∨ (I196 0 35).toInt + 1 ≤ (I196 0 34).toInt) := (by have q0 : (I196 0 35) = (I 0 35) := (by rw [fI196 0 35 (by decide), eI192, z_up_n (by decide), eI54, z_up_n (by decide)]); have q1 : (I196 0 34) = (I 0 34) := (by rw [fI196 0 34 (by decide), eI192, z_up_n (by decide), eI54, z_up_n (by decide)]); have q2 : (I196 0 33) = (I 0 33) := (by rw [fI196 0 33 (by decide), eI192, z_up_n (by decide), eI54, z_up_n (by decide)]); have q3 : (I196 0 36) = (I 0 36) := (by rw [fI196 0 36 (by decide), eI192, z_up_n (by decide), eI54, z_up_n (by decide)]); show 0 ≤ (I196 0 35).toInt ∧ (I196 0 35).toInt ≤ (I196 0 34).toInt ∧ (I196 0 34).toInt ≤ (I196 0 33).toInt ∧ (I196 0 33).toInt ≤ 500 ∧ ((I196 0 36).toInt = 0 ∨ (I196 0 35).toInt + 1 ≤ (I196 0 34).toInt); rw [q0, q1, q2, q3]; first | omega | decide)
                have k208 : (I196 0 35).toInt = (I 0 35).toInt := by rw [fI196 0 35 (by decide), eI192, z_up_n (by decide), eI54, z_up_n (by decide)]
                have k209 : (I196 0 34).toInt = (I 0 34).toInt := by rw [fI196 0 34 (by decide), eI192, z_up_n (by decide), eI54, z_up_n (by decide)]
                have k210 : (I196 0 36).toInt = (I 0 36).toInt := by rw [fI196 0 36 (by decide), eI192, z_up_n (by decide), eI54, z_up_n (by decide)]
                have k211 : (I196 0 47).toInt = (I 0 47).toInt := by rw [fI196 0 47 (by decide), eI192, z_up_n (by decide), eI54, z_up_n (by decide)]
                have k212 : (I196 0 39).toInt = (I 0 39).toInt := by rw [fI196 0 39 (by decide), eI192, z_up_n (by decide), eI54, z_up_n (by decide)]
                have k213 : (I196 0 15).toInt = (I 0 15).toInt := by rw [fI196 0 15 (by decide), eI192, z_up_n (by decide), eI54, z_up_n (by decide)]
                have k214 : (I196 0 40).toInt = (I 0 40).toInt := by rw [fI196 0 40 (by decide), eI192, z_up_n (by decide), eI54, z_up_n (by decide)]
                have h215 := hp
                exact z_vret hx hb hr hK hS (Nat.le_of_ble_eq_true rfl) (Nat.le_of_ble_eq_true rfl) hlocks dX12_test_245 (shM, ad, I196, J198, PM ad) hW ⟨I196, J198, rfl, ⟨(by show 0 ≤ (I196 0 31).toInt ∧ (I196 0 31).toInt ≤ 500; exact k199), (by show 0 ≤ (I196 0 33).toInt ∧ (I196 0 33).toInt ≤ 500; exact k200), (by show 0 ≤ (I196 0 34).toInt ∧ (I196 0 34).toInt ≤ 500; exact k201), (by show 0 ≤ (I196 0 35).toInt ∧ (I196 0 35).toInt ≤ 500; exact k202)⟩, ⟨(by show 0 ≤ (I196 0 36).toInt ∧ (I196 0 36).toInt ≤ 4; exact hI196mt.1), (by show 0 ≤ (I196 0 42).toInt ∧ (I196 0 42).toInt ≤ 1; exact hI196mt.2)⟩, ⟨(by show 0 ≤ (I196 0 47).toInt ∧ (I196 0 47).toInt ≤ 119; exact k203), (by show 0 ≤ (I196 0 39).toInt ∧ (I196 0 39).toInt ≤ 100; exact k204)⟩, (by show 0 ≤ (I196 0 40).toInt ∧ (I196 0 40).toInt ≤ 6199; exact k205), (by show 0 ≤ (I196 0 15).toInt ∧ (I196 0 15).toInt ≤ 6100; exact k206), (z_Nd_fr a194 fI196 (by decide)), (by show 0 ≤ (I196 0 35).toInt ∧ (I196 0 35).toInt ≤ (I196 0 34).toInt ∧ (I196 0 34).toInt ≤ (I196 0 33).toInt ∧ (I196 0 33).toInt ≤ 500 ∧ ((I196 0 36).toInt = 0 ∨ (I196 0 35).toInt + 1 ≤ (I196 0 34).toInt); first | omega | decide), f197, (Or.inl (by show ¬ (I196 0 42).toInt = 0; omega))⟩
      · have g216 := z_f_eq rfl z_l2 c5
        refine lv_aload_n hx hb dX12_test_129 rfl (lv_at hl 0 rfl) ?_
        refine lv_bipush (v := 125) hx hb dX12_test_130 (by decide) ?_
        refine z_cv hW hS hA (va_runV (As := [.int 125]) (rest := []) ⟨hx, hb, hml, hown, hts⟩ (sx_X12_must l G ad I J ⟨(by show 0 ≤ (I 0 31).toInt ∧ (I 0 31).toInt ≤ 500; exact hmp.1), (by show 0 ≤ (I 0 33).toInt ∧ (I 0 33).toInt ≤ 500; exact hmp.2.1), (by show 0 ≤ (I 0 34).toInt ∧ (I 0 34).toInt ≤ 500; exact hmp.2.2.1), (by show 0 ≤ (I 0 35).toInt ∧ (I 0 35).toInt ≤ 500; exact hmp.2.2.2)⟩ ⟨(by show 0 ≤ (I 0 36).toInt ∧ (I 0 36).toInt ≤ 4; exact hmt.1), (by show 0 ≤ (I 0 42).toInt ∧ (I 0 42).toInt ≤ 1; exact hmt.2)⟩ (by show 0 ≤ (I 0 35).toInt ∧ (I 0 35).toInt ≤ (I 0 34).toInt ∧ (I 0 34).toInt ≤ (I 0 33).toInt ∧ (I 0 33).toInt ≤ 500 ∧ ((I 0 36).toInt = 0 ∨ (I 0 35).toInt + 1 ≤ (I 0 34).toInt); first | omega | decide) 125 _) (cwV 1 hts gX12_test_X12_must rfl rfl rfl hy_X12_must ⟨Nat.le_of_ble_eq_true rfl, Nat.le_of_ble_eq_true rfl⟩) (z_preV (i := 0) hK hW rfl rfl) rfl rfl hl.1 rfl (lv_room (Nat.le_of_ble_eq_true rfl)) dX12_test_132 ⟨Nat.le_of_ble_eq_true rfl, Nat.le_of_ble_eq_true rfl⟩) (fun u1 H locs hp hW hS => ?_)
        obtain ⟨I217, J219, e9, hI217mp, hI217mt, hI217rp, fI217, hp⟩ := hp
        rw [e9] at hW
        have f218 := z_fr_sub (L := L_X12_test) z_fr_0 fI217 (by decide)
        have k220 : 0 ≤ (I217 0 47).toInt ∧ (I217 0 47).toInt ≤ 119 := by rw [fI217 0 47 (by decide)]; exact (by show 0 ≤ (I 0 47).toInt ∧ (I 0 47).toInt ≤ 119; exact hmd.1)
        have k221 : 0 ≤ (I217 0 39).toInt ∧ (I217 0 39).toInt ≤ 100 := by rw [fI217 0 39 (by decide)]; exact (by show 0 ≤ (I 0 39).toInt ∧ (I 0 39).toInt ≤ 100; exact hmd.2)
        have k222 : 0 ≤ (I217 0 40).toInt ∧ (I217 0 40).toInt ≤ 6199 := by rw [fI217 0 40 (by decide)]; exact (by show 0 ≤ (I 0 40).toInt ∧ (I 0 40).toInt ≤ 6199; exact hmg)
        have k223 : 0 ≤ (I217 0 15).toInt ∧ (I217 0 15).toInt ≤ 6100 := by rw [fI217 0 15 (by decide)]; exact (by show 0 ≤ (I 0 15).toInt ∧ (I 0 15).toInt ≤ 6100; exact hmn)
        have k224 : 0 ≤ (I217 0 35).toInt ∧ (I217 0 35).toInt ≤ (I217 0 34).toInt ∧ (I217 0 34).toInt ≤ (I217 0 33).toInt ∧ (I217 0 33).toInt ≤ 500 ∧ ((I217 0 36).toInt = 0 ∨ (I217 0 35).toInt + 1 ≤ (I217 0 34).toInt) := hI217rp
        have k225 : (I217 0 47).toInt = (I 0 47).toInt := by rw [fI217 0 47 (by decide)]
        have k226 : (I217 0 39).toInt = (I 0 39).toInt := by rw [fI217 0 39 (by decide)]
        have k227 : (I217 0 15).toInt = (I 0 15).toInt := by rw [fI217 0 15 (by decide)]
        have k228 : (I217 0 40).toInt = (I 0 40).toInt := by rw [fI217 0 40 (by decide)]
        have h229 := hp
        refine lv_aload_n hx hb dX12_test_135 rfl (lv_at hl 0 rfl) ?_
        refine lv_dup hx hb dX12_test_136 rfl ?_
        have r230 : 0 ≤ (I217 0 39).toInt ∧ (I217 0 39).toInt ≤ 100 := k221
        refine z_get (T := TX12) (N := 96) (ci := 12) (i := 0) (v := .int (I217 0 39)) hx hb hts zj_X12_test_X12 hown hK hW rfl rfl 39 (by decide) (hts (.fieldLink RX12 346 "PetrolBoardModel" "open" "I") (me_s (me_l (me_l (List.mem_of_getElem? (i := 2) rfl))))) (fun _ h => h) rfl dX12_test_137 ?_
        refine lv_iconst (v := 1) hx hb dX12_test_140 (by decide) ?_
        refine lv_isub hx hb dX12_test_141 ?_
        refine lv_topi (fun x231 ex231 => ?_)
        have tx231 : x231.toInt = (I217 0 39).toInt - 1 := z_tsub ex231 rfl z_l1 (by omega) (by omega)
        refine z_put (T := TX12) (N := 96) (ci := 12) (i := 0) (v := .int x231) (I1 := z_up I217 0 39 x231) (J1 := J219) (P1 := PM ad) hx hb hts zj_X12_test_X12 tyX12 tyX12_ok nmX12 hown hK hW hS rfl rfl 39 (by decide) (hts (.fieldLink RX12 346 "PetrolBoardModel" "open" "I") (me_s (me_l (me_l (List.mem_of_getElem? (i := 2) rfl))))) (fun _ h => h) rfl rfl rfl (by first | rfl | exact congrArg _ z_up_s) (fun a b h ty => z_vI h ty) dX12_test_142 (fun H locs hz1 hW hS => ?_)
        obtain ⟨I232, eI232⟩ : ∃ K : z_I, K = z_up I217 0 39 x231 := ⟨_, rfl⟩
        rw [← eI232] at hW
        have f233 := z_fr_k f218 (show z_wr L_X12_test 0 39 = true by decide) eI232
        have a234 := z_Nd_n (z_Nd_fr hNd fI217 (by decide)) (by decide) eI232
        refine lv_aload_n hx hb dX12_test_145 rfl (lv_at hl 0 rfl) ?_
        have r235 : 0 ≤ (I217 0 42).toInt ∧ (I217 0 42).toInt ≤ 1 := hI217mt.2
        refine z_get (T := TX12) (N := 96) (ci := 12) (i := 0) (v := .int (I217 0 42)) hx hb hts zj_X12_test_X12 hown hK hW rfl rfl 42 (by decide) (hts (.fieldLink RX12 294 "PetrolBoardModel" "isWrong" "Z") (me_s (me_l (me_l (List.mem_of_getElem? (i := 4) rfl))))) (fun _ h => h) (congrArg Value.int (by rw [eI232, z_up_k (by decide)])) dX12_test_146 ?_
        refine lv_if_ne (tgt := 289) hx hb dX12_test_149 (by decide) (fun c236 => ?_) (fun c236 => ?_)
        · have g237 := z_f_ne rfl z_l0 c236
          exact z_vret hx hb hr hK hS (Nat.le_of_ble_eq_true rfl) (Nat.le_of_ble_eq_true rfl) hlocks dX12_test_289 (shM, ad, I232, J219, PM ad) hW ⟨I232, J219, rfl, ⟨(by show 0 ≤ (I232 0 31).toInt ∧ (I232 0 31).toInt ≤ 500; rw [eI232, z_up_k (by decide)]; exact hI217mp.1), (by show 0 ≤ (I232 0 33).toInt ∧ (I232 0 33).toInt ≤ 500; rw [eI232, z_up_k (by decide)]; exact hI217mp.2.1), (by show 0 ≤ (I232 0 34).toInt ∧ (I232 0 34).toInt ≤ 500; rw [eI232, z_up_k (by decide)]; exact hI217mp.2.2.1), (by show 0 ≤ (I232 0 35).toInt ∧ (I232 0 35).toInt ≤ 500; rw [eI232, z_up_k (by decide)]; exact hI217mp.2.2.2)⟩, ⟨(by show 0 ≤ (I232 0 36).toInt ∧ (I232 0 36).toInt ≤ 4; rw [eI232, z_up_k (by decide)]; exact hI217mt.1), (by show 0 ≤ (I232 0 42).toInt ∧ (I232 0 42).toInt ≤ 1; rw [eI232, z_up_k (by decide)]; exact hI217mt.2)⟩, ⟨(by show 0 ≤ (I232 0 47).toInt ∧ (I232 0 47).toInt ≤ 119; rw [eI232, z_up_k (by decide)]; exact k220), (by show 0 ≤ (I232 0 39).toInt ∧ (I232 0 39).toInt ≤ 100; rw [eI232, z_up_s]; omega)⟩, (by show 0 ≤ (I232 0 40).toInt ∧ (I232 0 40).toInt ≤ 6199; rw [eI232, z_up_k (by decide)]; exact k222), (by show 0 ≤ (I232 0 15).toInt ∧ (I232 0 15).toInt ≤ 6100; rw [eI232, z_up_k (by decide)]; exact k223), a234, (by have q0 : (I232 0 35) = (I217 0 35) := (by rw [eI232, z_up_k (by decide)]); have q1 : (I232 0 34) = (I217 0 34) := (by rw [eI232, z_up_k (by decide)]); have q2 : (I232 0 33) = (I217 0 33) := (by rw [eI232, z_up_k (by decide)]); have q3 : (I232 0 36) = (I217 0 36) := (by rw [eI232, z_up_k (by decide)]); show 0 ≤ (I232 0 35).toInt ∧ (I232 0 35).toInt ≤ (I232 0 34).toInt ∧ (I232 0 34).toInt ≤ (I232 0 33).toInt ∧ (I232 0 33).toInt ≤ 500 ∧ ((I232 0 36).toInt = 0 ∨ (I232 0 35).toInt + 1 ≤ (I232 0 34).toInt); rw [q0, q1, q2, q3]; first | omega | decide), f233, (Or.inl (by have q0 : (I232 0 42) = (I217 0 42) := (by rw [eI232, z_up_k (by decide)]); show ¬ (I232 0 42).toInt = 0; rw [q0]; omega))⟩
        · have g238 := z_f_eq rfl z_l0 c236
          refine lv_aload_n hx hb dX12_test_152 rfl (lv_at hl 0 rfl) ?_
          refine lv_aload_n hx hb dX12_test_153 rfl (lv_at hl 0 rfl) ?_
          have r239 : 0 ≤ (I217 0 40).toInt ∧ (I217 0 40).toInt ≤ 6199 := k222
          refine z_get (T := TX12) (N := 96) (ci := 12) (i := 0) (v := .int (I217 0 40)) hx hb hts zj_X12_test_X12 hown hK hW rfl rfl 40 (by decide) (hts (.fieldLink RX12 343 "PetrolBoardModel" "got" "I") (me_s (me_l (me_l (List.mem_of_getElem? (i := 3) rfl))))) (fun _ h => h) (congrArg Value.int (by rw [eI232, z_up_k (by decide)])) dX12_test_154 ?_
          refine z_cv hW hS hA (va_runV (As := [.int (I217 0 40)]) (rest := []) ⟨hx, hb, hml, hown, hts⟩ (sx_X12_ends l G ad I232 J219 ⟨(by show 0 ≤ (I232 0 47).toInt ∧ (I232 0 47).toInt ≤ 119; rw [eI232, z_up_k (by decide)]; exact k220), (by show 0 ≤ (I232 0 39).toInt ∧ (I232 0 39).toInt ≤ 100; rw [eI232, z_up_s]; omega)⟩ (by show 0 ≤ (I232 0 40).toInt ∧ (I232 0 40).toInt ≤ 6199; rw [eI232, z_up_k (by decide)]; exact k222) (I217 0 40) (by first | omega | decide) (by have q0 : (I232 0 47) = (I217 0 47) := (by rw [eI232, z_up_k (by decide)]); show 1 ≤ (I232 0 47).toInt; rw [q0]; omega) _) (cwV 1 hts gX12_test_X12_ends rfl rfl rfl hy_X12_ends ⟨Nat.le_of_ble_eq_true rfl, Nat.le_of_ble_eq_true rfl⟩) (z_preV (i := 0) hK hW rfl rfl) rfl rfl hl.1 rfl (lv_room (Nat.le_of_ble_eq_true rfl)) dX12_test_157 ⟨Nat.le_of_ble_eq_true rfl, Nat.le_of_ble_eq_true rfl⟩) (fun u1 H locs hp hW hS => ?_)
          obtain ⟨I240, J242, e9, hI240md, hI240mg, fI240, hp⟩ := hp
          rw [e9] at hW
          have f241 := z_fr_sub (L := L_X12_test) f233 fI240 (by decide)
          have k243 : 0 ≤ (I240 0 31).toInt ∧ (I240 0 31).toInt ≤ 500 := by rw [fI240 0 31 (by decide)]; exact (by show 0 ≤ (I232 0 31).toInt ∧ (I232 0 31).toInt ≤ 500; rw [eI232, z_up_k (by decide)]; exact hI217mp.1)
          have k244 : 0 ≤ (I240 0 33).toInt ∧ (I240 0 33).toInt ≤ 500 := by rw [fI240 0 33 (by decide)]; exact (by show 0 ≤ (I232 0 33).toInt ∧ (I232 0 33).toInt ≤ 500; rw [eI232, z_up_k (by decide)]; exact hI217mp.2.1)
          have k245 : 0 ≤ (I240 0 34).toInt ∧ (I240 0 34).toInt ≤ 500 := by rw [fI240 0 34 (by decide)]; exact (by show 0 ≤ (I232 0 34).toInt ∧ (I232 0 34).toInt ≤ 500; rw [eI232, z_up_k (by decide)]; exact hI217mp.2.2.1)
          have k246 : 0 ≤ (I240 0 35).toInt ∧ (I240 0 35).toInt ≤ 500 := by rw [fI240 0 35 (by decide)]; exact (by show 0 ≤ (I232 0 35).toInt ∧ (I232 0 35).toInt ≤ 500; rw [eI232, z_up_k (by decide)]; exact hI217mp.2.2.2)
          have k247 : 0 ≤ (I240 0 36).toInt ∧ (I240 0 36).toInt ≤ 4 := by rw [fI240 0 36 (by decide)]; exact (by show 0 ≤ (I232 0 36).toInt ∧ (I232 0 36).toInt ≤ 4; rw [eI232, z_up_k (by decide)]; exact hI217mt.1)
          have k248 : 0 ≤ (I240 0 42).toInt ∧ (I240 0 42).toInt ≤ 1 := by rw [fI240 0 42 (by decide)]; exact (by show 0 ≤ (I232 0 42).toInt ∧ (I232 0 42).toInt ≤ 1; rw [eI232, z_up_k (by decide)]; exact hI217mt.2)
          have k249 : (I240 0 39).toInt = x231.toInt := by rw [fI240 0 39 (by decide), eI232, z_up_s]
          have k250 : 0 ≤ (I240 0 15).toInt ∧ (I240 0 15).toInt ≤ 6100 := by rw [fI240 0 15 (by decide)]; exact (by show 0 ≤ (I232 0 15).toInt ∧ (I232 0 15).toInt ≤ 6100; rw [eI232, z_up_k (by decide)]; exact k223)
          have k251 : 0 ≤ (I240 0 35).toInt ∧ (I240 0 35).toInt ≤ (I240 0 34).toInt ∧ (I240 0 34).toInt ≤ (I240 0 33).toInt ∧ (I240 0 33).toInt ≤ 500 ∧ ((I240 0 36).toInt = 0 ∨ (I240 0 35).toInt + 1 ≤ (I240 0 34).toInt) := (by have q0 : (I240 0 35) = (I217 0 35) := (by rw [fI240 0 35 (by decide), eI232, z_up_k (by decide)]); have q1 : (I240 0 34) = (I217 0 34) := (by rw [fI240 0 34 (by decide), eI232, z_up_k (by decide)]); have q2 : (I240 0 33) = (I217 0 33) := (by rw [fI240 0 33 (by decide), eI232, z_up_k (by decide)]); have q3 : (I240 0 36) = (I217 0 36) := (by rw [fI240 0 36 (by decide), eI232, z_up_k (by decide)]); show 0 ≤ (I240 0 35).toInt ∧ (I240 0 35).toInt ≤ (I240 0 34).toInt ∧ (I240 0 34).toInt ≤ (I240 0 33).toInt ∧ (I240 0 33).toInt ≤ 500 ∧ ((I240 0 36).toInt = 0 ∨ (I240 0 35).toInt + 1 ≤ (I240 0 34).toInt); rw [q0, q1, q2, q3]; first | omega | decide)
          have k252 : (I240 0 35).toInt = (I217 0 35).toInt := by rw [fI240 0 35 (by decide), eI232, z_up_k (by decide)]
          have k253 : (I240 0 34).toInt = (I217 0 34).toInt := by rw [fI240 0 34 (by decide), eI232, z_up_k (by decide)]
          have k254 : (I240 0 36).toInt = (I217 0 36).toInt := by rw [fI240 0 36 (by decide), eI232, z_up_k (by decide)]
          have k255 : (I240 0 42).toInt = (I217 0 42).toInt := by rw [fI240 0 42 (by decide), eI232, z_up_k (by decide)]
          have k256 : (I240 0 39).toInt = x231.toInt := by rw [fI240 0 39 (by decide), eI232, z_up_s]
          have k257 : (I240 0 15).toInt = (I217 0 15).toInt := by rw [fI240 0 15 (by decide), eI232, z_up_k (by decide)]
          have h258 := hp
          rw [show (I232 0 47) = (I217 0 47) from by rw [eI232, z_up_k (by decide)]] at h258
          refine lv_goto (tgt := 289) hx hb dX12_test_160 (by decide) ?_
          exact z_vret hx hb hr hK hS (Nat.le_of_ble_eq_true rfl) (Nat.le_of_ble_eq_true rfl) hlocks dX12_test_289 (shM, ad, I240, J242, PM ad) hW ⟨I240, J242, rfl, ⟨(by show 0 ≤ (I240 0 31).toInt ∧ (I240 0 31).toInt ≤ 500; exact k243), (by show 0 ≤ (I240 0 33).toInt ∧ (I240 0 33).toInt ≤ 500; exact k244), (by show 0 ≤ (I240 0 34).toInt ∧ (I240 0 34).toInt ≤ 500; exact k245), (by show 0 ≤ (I240 0 35).toInt ∧ (I240 0 35).toInt ≤ 500; exact k246)⟩, ⟨(by show 0 ≤ (I240 0 36).toInt ∧ (I240 0 36).toInt ≤ 4; exact k247), (by show 0 ≤ (I240 0 42).toInt ∧ (I240 0 42).toInt ≤ 1; exact k248)⟩, ⟨(by show 0 ≤ (I240 0 47).toInt ∧ (I240 0 47).toInt ≤ 119; exact hI240md.1), (by show 0 ≤ (I240 0 39).toInt ∧ (I240 0 39).toInt ≤ 100; exact hI240md.2)⟩, (by show 0 ≤ (I240 0 40).toInt ∧ (I240 0 40).toInt ≤ 6199; exact hI240mg), (by show 0 ≤ (I240 0 15).toInt ∧ (I240 0 15).toInt ≤ 6100; exact k250), (z_Nd_fr a234 fI240 (by decide)), (by show 0 ≤ (I240 0 35).toInt ∧ (I240 0 35).toInt ≤ (I240 0 34).toInt ∧ (I240 0 34).toInt ≤ (I240 0 33).toInt ∧ (I240 0 33).toInt ≤ 500 ∧ ((I240 0 36).toInt = 0 ∨ (I240 0 35).toInt + 1 ≤ (I240 0 34).toInt); first | omega | decide), f241, ((Classical.em ((I240 0 42).toInt = 0)).elim (fun hw9 => Or.inr ⟨a1.toNatClampNeg, by have w1 := z_fw_523 (a := va.toInt) (o := vo.toInt) (by omega); have w2 := z_fo_5y (a := va.toInt) (by omega); exact z_POP (d := a1.toNatClampNeg) hPS (fun i hi => ⟨by rw [fI240 26 i (z_wr_c (by decide)), eI232, z_up_n (by decide), fI217 26 i (z_wr_c (by decide))], by rw [fI240 27 i (z_wr_c (by decide)), eI232, z_up_n (by decide), fI217 27 i (z_wr_c (by decide))], by rw [fI240 28 i (z_wr_c (by decide)), eI232, z_up_n (by decide), fI217 28 i (z_wr_c (by decide))], by rw [fI240 29 i (z_wr_c (by decide)), eI232, z_up_n (by decide), fI217 29 i (z_wr_c (by decide))]⟩) (by omega) (by omega) (by omega) (by omega) (by omega) (by omega)⟩) Or.inl)⟩
    · have g259 := z_f_eq rfl z_l1 c3
      refine lv_aload_n hx hb dX12_test_91 rfl (lv_at hl 0 rfl) ?_
      refine lv_dup hx hb dX12_test_92 rfl ?_
      have r260 : 0 ≤ (I 0 39).toInt ∧ (I 0 39).toInt ≤ 100 := hmd.2
      refine z_get (T := TX12) (N := 96) (ci := 12) (i := 0) (v := .int (I 0 39)) hx hb hts zj_X12_test_X12 hown hK hW rfl rfl 39 (by decide) (hts (.fieldLink RX12 346 "PetrolBoardModel" "open" "I") (me_s (me_l (me_l (List.mem_of_getElem? (i := 2) rfl))))) (fun _ h => h) rfl dX12_test_93 ?_
      refine lv_iconst (v := 1) hx hb dX12_test_96 (by decide) ?_
      refine lv_isub hx hb dX12_test_97 ?_
      refine lv_topi (fun x261 ex261 => ?_)
      have tx261 : x261.toInt = (I 0 39).toInt - 1 := z_tsub ex261 rfl z_l1 (by omega) (by omega)
      refine z_put (T := TX12) (N := 96) (ci := 12) (i := 0) (v := .int x261) (I1 := z_up I 0 39 x261) (J1 := J) (P1 := PM ad) hx hb hts zj_X12_test_X12 tyX12 tyX12_ok nmX12 hown hK hW hS rfl rfl 39 (by decide) (hts (.fieldLink RX12 346 "PetrolBoardModel" "open" "I") (me_s (me_l (me_l (List.mem_of_getElem? (i := 2) rfl))))) (fun _ h => h) rfl rfl rfl (by first | rfl | exact congrArg _ z_up_s) (fun a b h ty => z_vI h ty) dX12_test_98 (fun H locs hz1 hW hS => ?_)
      obtain ⟨I262, eI262⟩ : ∃ K : z_I, K = z_up I 0 39 x261 := ⟨_, rfl⟩
      rw [← eI262] at hW
      have f263 := z_fr_k z_fr_0 (show z_wr L_X12_test 0 39 = true by decide) eI262
      have a264 := z_Nd_n hNd (by decide) eI262
      refine lv_aload_n hx hb dX12_test_101 rfl (lv_at hl 0 rfl) ?_
      refine lv_aload_n hx hb dX12_test_102 rfl (lv_at hl 0 rfl) ?_
      refine lv_bipush (v := 11) hx hb dX12_test_103 (by decide) ?_
      refine lv_aload_n hx hb dX12_test_105 rfl (lv_at hl 0 rfl) ?_
      have r265 : 0 ≤ (I 0 40).toInt ∧ (I 0 40).toInt ≤ 6199 := hmg
      refine z_get (T := TX12) (N := 96) (ci := 12) (i := 0) (v := .int (I 0 40)) hx hb hts zj_X12_test_X12 hown hK hW rfl rfl 40 (by decide) (hts (.fieldLink RX12 343 "PetrolBoardModel" "got" "I") (me_s (me_l (me_l (List.mem_of_getElem? (i := 3) rfl))))) (fun _ h => h) (congrArg Value.int (by rw [eI262, z_up_k (by decide)])) dX12_test_106 ?_
      refine lv_iconst (v := 0) hx hb dX12_test_109 (by decide) ?_
      refine z_ci hW hS hA (va_runV (As := [.int 11, .int (I 0 40), .int 0]) (rest := [.ref (ad 0)]) ⟨hx, hb, hml, hown, hts⟩ (sx_X12_node l G ad I262 J (by show 0 ≤ (I262 0 15).toInt ∧ (I262 0 15).toInt ≤ 6100; rw [eI262, z_up_k (by decide)]; exact hmn) a264 11 (I 0 40) 0 (by have q0 : (I262 0 15) = (I 0 15) := (by rw [eI262, z_up_k (by decide)]); show (I262 0 15).toInt ≤ 6099; rw [q0]; omega) (by have := z_l11; have := z_l0; first | omega | decide) (by have := z_l11; have := z_l0; first | omega | decide) (by have := z_l11; have := z_l0; first | omega | decide) _) (cwV 3 hts gX12_test_X12_node rfl rfl rfl hy_X12_node ⟨Nat.le_of_ble_eq_true rfl, Nat.le_of_ble_eq_true rfl⟩) (z_preV (i := 0) hK hW rfl rfl) rfl rfl hl.1 rfl (lv_room (Nat.le_of_ble_eq_true rfl)) dX12_test_110 ⟨Nat.le_of_ble_eq_true rfl, Nat.le_of_ble_eq_true rfl⟩) (fun r u1 H locs hp hW hS => ?_)
      obtain ⟨I266, J268, e9, hI266mn, hI266Nd, fI266, hp⟩ := hp
      rw [e9] at hW
      have f267 := z_fr_sub (L := L_X12_test) f263 fI266 (by decide)
      have k269 : 0 ≤ (I266 0 31).toInt ∧ (I266 0 31).toInt ≤ 500 := by rw [fI266 0 31 (by decide)]; exact (by show 0 ≤ (I262 0 31).toInt ∧ (I262 0 31).toInt ≤ 500; rw [eI262, z_up_k (by decide)]; exact hmp.1)
      have k270 : 0 ≤ (I266 0 33).toInt ∧ (I266 0 33).toInt ≤ 500 := by rw [fI266 0 33 (by decide)]; exact (by show 0 ≤ (I262 0 33).toInt ∧ (I262 0 33).toInt ≤ 500; rw [eI262, z_up_k (by decide)]; exact hmp.2.1)
      have k271 : 0 ≤ (I266 0 34).toInt ∧ (I266 0 34).toInt ≤ 500 := by rw [fI266 0 34 (by decide)]; exact (by show 0 ≤ (I262 0 34).toInt ∧ (I262 0 34).toInt ≤ 500; rw [eI262, z_up_k (by decide)]; exact hmp.2.2.1)
      have k272 : 0 ≤ (I266 0 35).toInt ∧ (I266 0 35).toInt ≤ 500 := by rw [fI266 0 35 (by decide)]; exact (by show 0 ≤ (I262 0 35).toInt ∧ (I262 0 35).toInt ≤ 500; rw [eI262, z_up_k (by decide)]; exact hmp.2.2.2)
      have k273 : 0 ≤ (I266 0 36).toInt ∧ (I266 0 36).toInt ≤ 4 := by rw [fI266 0 36 (by decide)]; exact (by show 0 ≤ (I262 0 36).toInt ∧ (I262 0 36).toInt ≤ 4; rw [eI262, z_up_k (by decide)]; exact hmt.1)
      have k274 : 0 ≤ (I266 0 42).toInt ∧ (I266 0 42).toInt ≤ 1 := by rw [fI266 0 42 (by decide)]; exact (by show 0 ≤ (I262 0 42).toInt ∧ (I262 0 42).toInt ≤ 1; rw [eI262, z_up_k (by decide)]; exact hmt.2)
      have k275 : 0 ≤ (I266 0 47).toInt ∧ (I266 0 47).toInt ≤ 119 := by rw [fI266 0 47 (by decide)]; exact (by show 0 ≤ (I262 0 47).toInt ∧ (I262 0 47).toInt ≤ 119; rw [eI262, z_up_k (by decide)]; exact hmd.1)
      have k276 : 0 ≤ (I266 0 39).toInt ∧ (I266 0 39).toInt ≤ 100 := by rw [fI266 0 39 (by decide)]; exact (by show 0 ≤ (I262 0 39).toInt ∧ (I262 0 39).toInt ≤ 100; rw [eI262, z_up_s]; omega)
      have k277 : 0 ≤ (I266 0 40).toInt ∧ (I266 0 40).toInt ≤ 6199 := by rw [fI266 0 40 (by decide)]; exact (by show 0 ≤ (I262 0 40).toInt ∧ (I262 0 40).toInt ≤ 6199; rw [eI262, z_up_k (by decide)]; exact hmg)
      have k278 : 0 ≤ (I266 0 35).toInt ∧ (I266 0 35).toInt ≤ (I266 0 34).toInt ∧ (I266 0 34).toInt ≤ (I266 0 33).toInt ∧ (I266 0 33).toInt ≤ 500 ∧ ((I266 0 36).toInt = 0 ∨ (I266 0 35).toInt + 1 ≤ (I266 0 34).toInt) := (by have q0 : (I266 0 35) = (I 0 35) := (by rw [fI266 0 35 (by decide), eI262, z_up_k (by decide)]); have q1 : (I266 0 34) = (I 0 34) := (by rw [fI266 0 34 (by decide), eI262, z_up_k (by decide)]); have q2 : (I266 0 33) = (I 0 33) := (by rw [fI266 0 33 (by decide), eI262, z_up_k (by decide)]); have q3 : (I266 0 36) = (I 0 36) := (by rw [fI266 0 36 (by decide), eI262, z_up_k (by decide)]); show 0 ≤ (I266 0 35).toInt ∧ (I266 0 35).toInt ≤ (I266 0 34).toInt ∧ (I266 0 34).toInt ≤ (I266 0 33).toInt ∧ (I266 0 33).toInt ≤ 500 ∧ ((I266 0 36).toInt = 0 ∨ (I266 0 35).toInt + 1 ≤ (I266 0 34).toInt); rw [q0, q1, q2, q3]; first | omega | decide)
      have k279 : (I266 0 35).toInt = (I 0 35).toInt := by rw [fI266 0 35 (by decide), eI262, z_up_k (by decide)]
      have k280 : (I266 0 34).toInt = (I 0 34).toInt := by rw [fI266 0 34 (by decide), eI262, z_up_k (by decide)]
      have k281 : (I266 0 36).toInt = (I 0 36).toInt := by rw [fI266 0 36 (by decide), eI262, z_up_k (by decide)]
      have k282 : (I266 0 42).toInt = (I 0 42).toInt := by rw [fI266 0 42 (by decide), eI262, z_up_k (by decide)]
      have k283 : (I266 0 47).toInt = (I 0 47).toInt := by rw [fI266 0 47 (by decide), eI262, z_up_k (by decide)]
      have k284 : (I266 0 39).toInt = x261.toInt := by rw [fI266 0 39 (by decide), eI262, z_up_s]
      have k285 : (I266 0 40).toInt = (I 0 40).toInt := by rw [fI266 0 40 (by decide), eI262, z_up_k (by decide)]
      refine lv_topi (fun x286 ex286 => ?_)
      rw [← ex286] at hp
      obtain ⟨h287, h288⟩ := hp
      have h289 : 0 ≤ x286.toInt ∧ x286.toInt ≤ 6100 := (by have q9 : 0 ≤ (I262 0 15).toInt ∧ (I262 0 15).toInt ≤ 6100 := (by show 0 ≤ (I262 0 15).toInt ∧ (I262 0 15).toInt ≤ 6100; rw [eI262, z_up_k (by decide)]; exact hmn); omega)
      rw [show (I262 0 15) = (I 0 15) from by rw [eI262, z_up_k (by decide)]] at h287
      rw [show (I262 0 15) = (I 0 15) from by rw [eI262, z_up_k (by decide)]] at h288
      refine z_cv hW hS hA (va_runV (As := [.int x286]) (rest := []) ⟨hx, hb, hml, hown, hts⟩ (sx_X12_ends l G ad I266 J268 ⟨(by show 0 ≤ (I266 0 47).toInt ∧ (I266 0 47).toInt ≤ 119; exact k275), (by show 0 ≤ (I266 0 39).toInt ∧ (I266 0 39).toInt ≤ 100; exact k276)⟩ (by show 0 ≤ (I266 0 40).toInt ∧ (I266 0 40).toInt ≤ 6199; exact k277) x286 (by first | omega | decide) (by show 1 ≤ (I266 0 47).toInt; omega) _) (cwV 1 hts gX12_test_X12_ends rfl rfl rfl hy_X12_ends ⟨Nat.le_of_ble_eq_true rfl, Nat.le_of_ble_eq_true rfl⟩) (z_preV (i := 0) hK hW rfl rfl) rfl rfl hl.1 rfl (lv_room (Nat.le_of_ble_eq_true rfl)) dX12_test_113 ⟨Nat.le_of_ble_eq_true rfl, Nat.le_of_ble_eq_true rfl⟩) (fun u1 H locs hp hW hS => ?_)
      obtain ⟨I290, J292, e9, hI290md, hI290mg, fI290, hp⟩ := hp
      rw [e9] at hW
      have f291 := z_fr_sub (L := L_X12_test) f267 fI290 (by decide)
      have k293 : 0 ≤ (I290 0 31).toInt ∧ (I290 0 31).toInt ≤ 500 := by rw [fI290 0 31 (by decide)]; exact (by show 0 ≤ (I266 0 31).toInt ∧ (I266 0 31).toInt ≤ 500; exact k269)
      have k294 : 0 ≤ (I290 0 33).toInt ∧ (I290 0 33).toInt ≤ 500 := by rw [fI290 0 33 (by decide)]; exact (by show 0 ≤ (I266 0 33).toInt ∧ (I266 0 33).toInt ≤ 500; exact k270)
      have k295 : 0 ≤ (I290 0 34).toInt ∧ (I290 0 34).toInt ≤ 500 := by rw [fI290 0 34 (by decide)]; exact (by show 0 ≤ (I266 0 34).toInt ∧ (I266 0 34).toInt ≤ 500; exact k271)
      have k296 : 0 ≤ (I290 0 35).toInt ∧ (I290 0 35).toInt ≤ 500 := by rw [fI290 0 35 (by decide)]; exact (by show 0 ≤ (I266 0 35).toInt ∧ (I266 0 35).toInt ≤ 500; exact k272)
      have k297 : 0 ≤ (I290 0 36).toInt ∧ (I290 0 36).toInt ≤ 4 := by rw [fI290 0 36 (by decide)]; exact (by show 0 ≤ (I266 0 36).toInt ∧ (I266 0 36).toInt ≤ 4; exact k273)
      have k298 : 0 ≤ (I290 0 42).toInt ∧ (I290 0 42).toInt ≤ 1 := by rw [fI290 0 42 (by decide)]; exact (by show 0 ≤ (I266 0 42).toInt ∧ (I266 0 42).toInt ≤ 1; exact k274)
      have k299 : 0 ≤ (I290 0 15).toInt ∧ (I290 0 15).toInt ≤ 6100 := by rw [fI290 0 15 (by decide)]; exact (by show 0 ≤ (I266 0 15).toInt ∧ (I266 0 15).toInt ≤ 6100; exact hI266mn)
      have k300 : 0 ≤ (I290 0 35).toInt ∧ (I290 0 35).toInt ≤ (I290 0 34).toInt ∧ (I290 0 34).toInt ≤ (I290 0 33).toInt ∧ (I290 0 33).toInt ≤ 500 ∧ ((I290 0 36).toInt = 0 ∨ (I290 0 35).toInt + 1 ≤ (I290 0 34).toInt) := (by have q0 : (I290 0 35) = (I266 0 35) := (by rw [fI290 0 35 (by decide)]); have q1 : (I290 0 34) = (I266 0 34) := (by rw [fI290 0 34 (by decide)]); have q2 : (I290 0 33) = (I266 0 33) := (by rw [fI290 0 33 (by decide)]); have q3 : (I290 0 36) = (I266 0 36) := (by rw [fI290 0 36 (by decide)]); show 0 ≤ (I290 0 35).toInt ∧ (I290 0 35).toInt ≤ (I290 0 34).toInt ∧ (I290 0 34).toInt ≤ (I290 0 33).toInt ∧ (I290 0 33).toInt ≤ 500 ∧ ((I290 0 36).toInt = 0 ∨ (I290 0 35).toInt + 1 ≤ (I290 0 34).toInt); rw [q0, q1, q2, q3]; first | omega | decide)
      have k301 : (I290 0 35).toInt = (I266 0 35).toInt := by rw [fI290 0 35 (by decide)]
      have k302 : (I290 0 34).toInt = (I266 0 34).toInt := by rw [fI290 0 34 (by decide)]
      have k303 : (I290 0 36).toInt = (I266 0 36).toInt := by rw [fI290 0 36 (by decide)]
      have k304 : (I290 0 42).toInt = (I266 0 42).toInt := by rw [fI290 0 42 (by decide)]
      have k305 : (I290 0 39).toInt = (I266 0 39).toInt := by rw [fI290 0 39 (by decide)]
      have k306 : (I290 0 15).toInt = (I266 0 15).toInt := by rw [fI290 0 15 (by decide)]
      have h307 := hp
      refine lv_goto (tgt := 289) hx hb dX12_test_116 (by decide) ?_
      exact z_vret hx hb hr hK hS (Nat.le_of_ble_eq_true rfl) (Nat.le_of_ble_eq_true rfl) hlocks dX12_test_289 (shM, ad, I290, J292, PM ad) hW ⟨I290, J292, rfl, ⟨(by show 0 ≤ (I290 0 31).toInt ∧ (I290 0 31).toInt ≤ 500; exact k293), (by show 0 ≤ (I290 0 33).toInt ∧ (I290 0 33).toInt ≤ 500; exact k294), (by show 0 ≤ (I290 0 34).toInt ∧ (I290 0 34).toInt ≤ 500; exact k295), (by show 0 ≤ (I290 0 35).toInt ∧ (I290 0 35).toInt ≤ 500; exact k296)⟩, ⟨(by show 0 ≤ (I290 0 36).toInt ∧ (I290 0 36).toInt ≤ 4; exact k297), (by show 0 ≤ (I290 0 42).toInt ∧ (I290 0 42).toInt ≤ 1; exact k298)⟩, ⟨(by show 0 ≤ (I290 0 47).toInt ∧ (I290 0 47).toInt ≤ 119; exact hI290md.1), (by show 0 ≤ (I290 0 39).toInt ∧ (I290 0 39).toInt ≤ 100; exact hI290md.2)⟩, (by show 0 ≤ (I290 0 40).toInt ∧ (I290 0 40).toInt ≤ 6199; exact hI290mg), (by show 0 ≤ (I290 0 15).toInt ∧ (I290 0 15).toInt ≤ 6100; exact k299), (z_Nd_fr hI266Nd fI290 (by decide)), (by show 0 ≤ (I290 0 35).toInt ∧ (I290 0 35).toInt ≤ (I290 0 34).toInt ∧ (I290 0 34).toInt ≤ (I290 0 33).toInt ∧ (I290 0 33).toInt ≤ 500 ∧ ((I290 0 36).toInt = 0 ∨ (I290 0 35).toInt + 1 ≤ (I290 0 34).toInt); first | omega | decide), f291, ((Classical.em ((I290 0 42).toInt = 0)).elim (fun hw9 => Or.inr ⟨a1.toNatClampNeg, by have w1 := z_fw_514 (a := va.toInt) (o := vo.toInt) (by omega); have w2 := z_fo_5y (a := va.toInt) (by omega); exact z_POP (d := a1.toNatClampNeg) hPS (fun i hi => ⟨by rw [fI290 26 i (z_wr_c (by decide)), fI266 26 i (z_wr_c (by decide)), eI262, z_up_n (by decide)], by rw [fI290 27 i (z_wr_c (by decide)), fI266 27 i (z_wr_c (by decide)), eI262, z_up_n (by decide)], by rw [fI290 28 i (z_wr_c (by decide)), fI266 28 i (z_wr_c (by decide)), eI262, z_up_n (by decide)], by rw [fI290 29 i (z_wr_c (by decide)), fI266 29 i (z_wr_c (by decide)), eI262, z_up_n (by decide)]⟩) (by omega) (by omega) (by omega) (by omega) (by omega) (by omega)⟩) Or.inl)⟩
  · have g308 := z_f_eq rfl z_l0 c1
    refine lv_aload_n hx hb dX12_test_9 rfl (lv_at hl 0 rfl) ?_
    refine lv_ldc2 (v := 10631) hx hb hown (hts (.constantLong RX12 394 (10631)) (me_s (me_l (me_l (List.mem_of_getElem? (i := 1) rfl))))) dX12_test_10 ?_
    refine z_ci hW hS hA (va_runV (As := [.long 10631]) (rest := []) ⟨hx, hb, hml, hown, hts⟩ (sx_X12_isWord l G ad I J ⟨(by show 0 ≤ (I 0 36).toInt ∧ (I 0 36).toInt ≤ 4; exact hmt.1), (by show 0 ≤ (I 0 42).toInt ∧ (I 0 42).toInt ≤ 1; exact hmt.2)⟩ 10631 _) (cwV 1 hts gX12_test_X12_isWord rfl rfl rfl hy_X12_isWord ⟨Nat.le_of_ble_eq_true rfl, Nat.le_of_ble_eq_true rfl⟩) (z_preV (i := 0) hK hW rfl rfl) rfl rfl hl.1 rfl (lv_room (Nat.le_of_ble_eq_true rfl)) dX12_test_13 ⟨Nat.le_of_ble_eq_true rfl, Nat.le_of_ble_eq_true rfl⟩) (fun r u1 H locs hp hW hS => ?_)
    obtain ⟨e9, hp⟩ := hp
    rw [e9] at hW
    rcases hp with ⟨rfl, h309⟩ | rfl
    · have h310 : (I 0 35).toInt + 1 ≤ (I 0 34).toInt := by omega
      refine lv_if_eq (tgt := 38) hx hb dX12_test_16 (by decide) (fun c311 => absurd c311 (by decide)) (fun c311 => ?_)
      refine lv_aload_n hx hb dX12_test_19 rfl (lv_at hl 0 rfl) ?_
      refine z_cv hW hS hA (va_runV (As := []) (rest := []) ⟨hx, hb, hml, hown, hts⟩ (sx_X12_opens l G ad I J ⟨(by show 0 ≤ (I 0 31).toInt ∧ (I 0 31).toInt ≤ 500; exact hmp.1), (by show 0 ≤ (I 0 33).toInt ∧ (I 0 33).toInt ≤ 500; exact hmp.2.1), (by show 0 ≤ (I 0 34).toInt ∧ (I 0 34).toInt ≤ 500; exact hmp.2.2.1), (by show 0 ≤ (I 0 35).toInt ∧ (I 0 35).toInt ≤ 500; exact hmp.2.2.2)⟩ ⟨(by show 0 ≤ (I 0 36).toInt ∧ (I 0 36).toInt ≤ 4; exact hmt.1), (by show 0 ≤ (I 0 42).toInt ∧ (I 0 42).toInt ≤ 1; exact hmt.2)⟩ (by show 0 ≤ (I 0 35).toInt ∧ (I 0 35).toInt ≤ (I 0 34).toInt ∧ (I 0 34).toInt ≤ (I 0 33).toInt ∧ (I 0 33).toInt ≤ 500 ∧ ((I 0 36).toInt = 0 ∨ (I 0 35).toInt + 1 ≤ (I 0 34).toInt); first | omega | decide) ⟨(by show 0 ≤ (I 0 47).toInt ∧ (I 0 47).toInt ≤ 119; exact hmd.1), (by show 0 ≤ (I 0 39).toInt ∧ (I 0 39).toInt ≤ 100; exact hmd.2)⟩  (by show (I 0 39).toInt ≤ 9; omega) _) (cwV 0 hts gX12_test_X12_opens rfl rfl rfl hy_X12_opens ⟨Nat.le_of_ble_eq_true rfl, Nat.le_of_ble_eq_true rfl⟩) (z_preV (i := 0) hK hW rfl rfl) rfl rfl hl.1 rfl (lv_room (Nat.le_of_ble_eq_true rfl)) dX12_test_20 ⟨Nat.le_of_ble_eq_true rfl, Nat.le_of_ble_eq_true rfl⟩) (fun u1 H locs hp hW hS => ?_)
      obtain ⟨I312, J314, e9, hI312mp, hI312mt, hI312rp, hI312md, fI312, hp⟩ := hp
      rw [e9] at hW
      have f313 := z_fr_sub (L := L_X12_test) z_fr_0 fI312 (by decide)
      have k315 : 0 ≤ (I312 0 40).toInt ∧ (I312 0 40).toInt ≤ 6199 := by rw [fI312 0 40 (by decide)]; exact (by show 0 ≤ (I 0 40).toInt ∧ (I 0 40).toInt ≤ 6199; exact hmg)
      have k316 : 0 ≤ (I312 0 15).toInt ∧ (I312 0 15).toInt ≤ 6100 := by rw [fI312 0 15 (by decide)]; exact (by show 0 ≤ (I 0 15).toInt ∧ (I 0 15).toInt ≤ 6100; exact hmn)
      have k317 : 0 ≤ (I312 0 35).toInt ∧ (I312 0 35).toInt ≤ (I312 0 34).toInt ∧ (I312 0 34).toInt ≤ (I312 0 33).toInt ∧ (I312 0 33).toInt ≤ 500 ∧ ((I312 0 36).toInt = 0 ∨ (I312 0 35).toInt + 1 ≤ (I312 0 34).toInt) := hI312rp
      have k318 : (I312 0 47).toInt = (I 0 47).toInt := by rw [fI312 0 47 (by decide)]
      have k319 : (I312 0 15).toInt = (I 0 15).toInt := by rw [fI312 0 15 (by decide)]
      have k320 : (I312 0 40).toInt = (I 0 40).toInt := by rw [fI312 0 40 (by decide)]
      obtain ⟨h321, h322, h323⟩ := hp
      refine lv_aload_n hx hb dX12_test_23 rfl (lv_at hl 0 rfl) ?_
      refine z_get (T := TX12) (N := 96) (ci := 12) (i := 0) (v := .ref (ad 27)) hx hb hts zj_X12_test_X12 hown hK hW rfl rfl 44 (by decide) (hts (.fieldLink RX12 94 "PetrolBoardModel" "at" "[I") (me_s (me_l (me_l (List.mem_of_getElem? (i := 0) rfl))))) (fun _ h => h) rfl dX12_test_24 ?_
      refine lv_iload_n hx hb dX12_test_27 rfl (lv_at hl 1 rfl) ?_
      refine lv_iconst (v := 1) hx hb dX12_test_28 (by decide) ?_
      refine z_iast (i := 27) hx hb hK hW hS rfl (z_ix rfl (by omega) (by omega)) dX12_test_29 (fun H locs hz1 hW hS => ?_)
      obtain ⟨I324, eI324⟩ : ∃ K : z_I, K = z_up I312 27 a1.toNatClampNeg 1 := ⟨_, rfl⟩
      rw [← eI324] at hW
      have f325 := z_fr_a f313 (show z_wa L_X12_test 27 = true by decide) eI324
      have a326 := z_Nd_n (z_Nd_fr hNd fI312 (by decide)) (by decide) eI324
      refine lv_aload_n hx hb dX12_test_30 rfl (lv_at hl 0 rfl) ?_
      refine lv_iconst (v := 5) hx hb dX12_test_31 (by decide) ?_
      refine z_cv hW hS hA (va_runV (As := [.int 5]) (rest := []) ⟨hx, hb, hml, hown, hts⟩ (sx_X12_begin l G ad I324 J314 ⟨(by show 0 ≤ (I324 0 47).toInt ∧ (I324 0 47).toInt ≤ 119; rw [eI324, z_up_n (by decide)]; exact hI312md.1), (by show 0 ≤ (I324 0 39).toInt ∧ (I324 0 39).toInt ≤ 100; rw [eI324, z_up_n (by decide)]; exact hI312md.2)⟩ 5 (by have q0 : (I324 0 47) = (I312 0 47) := (by rw [eI324, z_up_n (by decide)]); show (I324 0 47).toInt ≤ 118; rw [q0]; omega) _) (cwV 1 hts gX12_test_X12_begin rfl rfl rfl hy_X12_begin ⟨Nat.le_of_ble_eq_true rfl, Nat.le_of_ble_eq_true rfl⟩) (z_preV (i := 0) hK hW rfl rfl) rfl rfl hl.1 rfl (lv_room (Nat.le_of_ble_eq_true rfl)) dX12_test_32 ⟨Nat.le_of_ble_eq_true rfl, Nat.le_of_ble_eq_true rfl⟩) (fun u1 H locs hp hW hS => ?_)
      obtain ⟨I327, J329, e9, hI327md, fI327, hp⟩ := hp
      rw [e9] at hW
      have f328 := z_fr_sub (L := L_X12_test) f325 fI327 (by decide)
      have k330 : 0 ≤ (I327 0 31).toInt ∧ (I327 0 31).toInt ≤ 500 := by rw [fI327 0 31 (by decide)]; exact (by show 0 ≤ (I324 0 31).toInt ∧ (I324 0 31).toInt ≤ 500; rw [eI324, z_up_n (by decide)]; exact hI312mp.1)
      have k331 : 0 ≤ (I327 0 33).toInt ∧ (I327 0 33).toInt ≤ 500 := by rw [fI327 0 33 (by decide)]; exact (by show 0 ≤ (I324 0 33).toInt ∧ (I324 0 33).toInt ≤ 500; rw [eI324, z_up_n (by decide)]; exact hI312mp.2.1)
      have k332 : 0 ≤ (I327 0 34).toInt ∧ (I327 0 34).toInt ≤ 500 := by rw [fI327 0 34 (by decide)]; exact (by show 0 ≤ (I324 0 34).toInt ∧ (I324 0 34).toInt ≤ 500; rw [eI324, z_up_n (by decide)]; exact hI312mp.2.2.1)
      have k333 : 0 ≤ (I327 0 35).toInt ∧ (I327 0 35).toInt ≤ 500 := by rw [fI327 0 35 (by decide)]; exact (by show 0 ≤ (I324 0 35).toInt ∧ (I324 0 35).toInt ≤ 500; rw [eI324, z_up_n (by decide)]; exact hI312mp.2.2.2)
      have k334 : 0 ≤ (I327 0 36).toInt ∧ (I327 0 36).toInt ≤ 4 := by rw [fI327 0 36 (by decide)]; exact (by show 0 ≤ (I324 0 36).toInt ∧ (I324 0 36).toInt ≤ 4; rw [eI324, z_up_n (by decide)]; exact hI312mt.1)
      have k335 : 0 ≤ (I327 0 42).toInt ∧ (I327 0 42).toInt ≤ 1 := by rw [fI327 0 42 (by decide)]; exact (by show 0 ≤ (I324 0 42).toInt ∧ (I324 0 42).toInt ≤ 1; rw [eI324, z_up_n (by decide)]; exact hI312mt.2)
      have k336 : 0 ≤ (I327 0 40).toInt ∧ (I327 0 40).toInt ≤ 6199 := by rw [fI327 0 40 (by decide)]; exact (by show 0 ≤ (I324 0 40).toInt ∧ (I324 0 40).toInt ≤ 6199; rw [eI324, z_up_n (by decide)]; exact k315)
      have k337 : 0 ≤ (I327 0 15).toInt ∧ (I327 0 15).toInt ≤ 6100 := by rw [fI327 0 15 (by decide)]; exact (by show 0 ≤ (I324 0 15).toInt ∧ (I324 0 15).toInt ≤ 6100; rw [eI324, z_up_n (by decide)]; exact k316)
      have k338 : 0 ≤ (I327 0 35).toInt ∧ (I327 0 35).toInt ≤ (I327 0 34).toInt ∧ (I327 0 34).toInt ≤ (I327 0 33).toInt ∧ (I327 0 33).toInt ≤ 500 ∧ ((I327 0 36).toInt = 0 ∨ (I327 0 35).toInt + 1 ≤ (I327 0 34).toInt) := (by have q0 : (I327 0 35) = (I312 0 35) := (by rw [fI327 0 35 (by decide), eI324, z_up_n (by decide)]); have q1 : (I327 0 34) = (I312 0 34) := (by rw [fI327 0 34 (by decide), eI324, z_up_n (by decide)]); have q2 : (I327 0 33) = (I312 0 33) := (by rw [fI327 0 33 (by decide), eI324, z_up_n (by decide)]); have q3 : (I327 0 36) = (I312 0 36) := (by rw [fI327 0 36 (by decide), eI324, z_up_n (by decide)]); show 0 ≤ (I327 0 35).toInt ∧ (I327 0 35).toInt ≤ (I327 0 34).toInt ∧ (I327 0 34).toInt ≤ (I327 0 33).toInt ∧ (I327 0 33).toInt ≤ 500 ∧ ((I327 0 36).toInt = 0 ∨ (I327 0 35).toInt + 1 ≤ (I327 0 34).toInt); rw [q0, q1, q2, q3]; first | omega | decide)
      have k339 : (I327 0 35).toInt = (I312 0 35).toInt := by rw [fI327 0 35 (by decide), eI324, z_up_n (by decide)]
      have k340 : (I327 0 34).toInt = (I312 0 34).toInt := by rw [fI327 0 34 (by decide), eI324, z_up_n (by decide)]
      have k341 : (I327 0 36).toInt = (I312 0 36).toInt := by rw [fI327 0 36 (by decide), eI324, z_up_n (by decide)]
      have k342 : (I327 0 42).toInt = (I312 0 42).toInt := by rw [fI327 0 42 (by decide), eI324, z_up_n (by decide)]
      have k343 : (I327 0 39).toInt = (I312 0 39).toInt := by rw [fI327 0 39 (by decide), eI324, z_up_n (by decide)]
      have k344 : (I327 0 15).toInt = (I312 0 15).toInt := by rw [fI327 0 15 (by decide), eI324, z_up_n (by decide)]
      have k345 : (I327 0 40).toInt = (I312 0 40).toInt := by rw [fI327 0 40 (by decide), eI324, z_up_n (by decide)]
      have h346 := hp
      refine lv_goto (tgt := 289) hx hb dX12_test_35 (by decide) ?_
      exact z_vret hx hb hr hK hS (Nat.le_of_ble_eq_true rfl) (Nat.le_of_ble_eq_true rfl) hlocks dX12_test_289 (shM, ad, I327, J329, PM ad) hW ⟨I327, J329, rfl, ⟨(by show 0 ≤ (I327 0 31).toInt ∧ (I327 0 31).toInt ≤ 500; exact k330), (by show 0 ≤ (I327 0 33).toInt ∧ (I327 0 33).toInt ≤ 500; exact k331), (by show 0 ≤ (I327 0 34).toInt ∧ (I327 0 34).toInt ≤ 500; exact k332), (by show 0 ≤ (I327 0 35).toInt ∧ (I327 0 35).toInt ≤ 500; exact k333)⟩, ⟨(by show 0 ≤ (I327 0 36).toInt ∧ (I327 0 36).toInt ≤ 4; exact k334), (by show 0 ≤ (I327 0 42).toInt ∧ (I327 0 42).toInt ≤ 1; exact k335)⟩, ⟨(by show 0 ≤ (I327 0 47).toInt ∧ (I327 0 47).toInt ≤ 119; exact hI327md.1), (by show 0 ≤ (I327 0 39).toInt ∧ (I327 0 39).toInt ≤ 100; exact hI327md.2)⟩, (by show 0 ≤ (I327 0 40).toInt ∧ (I327 0 40).toInt ≤ 6199; exact k336), (by show 0 ≤ (I327 0 15).toInt ∧ (I327 0 15).toInt ≤ 6100; exact k337), (z_Nd_fr a326 fI327 (by decide)), (by show 0 ≤ (I327 0 35).toInt ∧ (I327 0 35).toInt ≤ (I327 0 34).toInt ∧ (I327 0 34).toInt ≤ (I327 0 33).toInt ∧ (I327 0 33).toInt ≤ 500 ∧ ((I327 0 36).toInt = 0 ∨ (I327 0 35).toInt + 1 ≤ (I327 0 34).toInt); first | omega | decide), f328, ((Classical.em ((I327 0 42).toInt = 0)).elim (fun hw9 => Or.inr ⟨a1.toNatClampNeg + 2, by have w1 := z_fw_50 (a := va.toInt) (o := vo.toInt) (by omega); have w2 := z_fo_5n (a := va.toInt) (by omega); have w3 := z_fw_514 (a := 1) (o := vo.toInt) (by omega); have w4 := z_fo_5y (a := 1) (by omega); have w5 := z_fw_50 (a := 0) (o := -1) (by omega); have w6 := z_rk_5; have w7 := z_rk_5; exact z_PUSH (d := a1.toNatClampNeg) (w := 5) (a := 1) (o := vo.toInt) (s := vs.toInt) (wi := 5) hPS (fun i hi => ⟨by rw [eI324, z_up_n (by decide), fI312 26 i (z_wr_c (by decide))], by rw [eI324, z_up_k (by omega), fI312 27 i (z_wr_c (by decide))], by rw [eI324, z_up_n (by decide), fI312 28 i (z_wr_c (by decide))], by rw [eI324, z_up_n (by decide), fI312 29 i (z_wr_c (by decide))]⟩) (by rw [show I324 26 a1.toNatClampNeg = vw from (by rw [eI324, z_up_n (by decide), fI312 26 a1.toNatClampNeg (z_wr_c (by decide))]; exact evw.symm)]; exact hvw) (by rw [show I324 27 a1.toNatClampNeg = 1 from (by rw [eI324, z_up_s])]; exact z_l1) (by rw [show I324 28 a1.toNatClampNeg = vo from (by rw [eI324, z_up_n (by decide), fI312 28 a1.toNatClampNeg (z_wr_c (by decide))]; exact evo.symm)]) (by rw [show I324 29 a1.toNatClampNeg = vs from (by rw [eI324, z_up_n (by decide), fI312 29 a1.toNatClampNeg (z_wr_c (by decide))]; exact evs.symm)]) (by unfold z_fv; omega) hwd (by rw [eI324, z_up_n (by decide)]; omega) h346 z_l5 (by omega) (by omega) (by omega) (by omega) (by omega) (by omega) (by omega) (by omega)⟩) Or.inl)⟩
    · refine lv_if_eq (tgt := 38) hx hb dX12_test_16 (by decide) (fun c347 => ?_) (fun c347 => absurd (by decide) c347)
      refine lv_aload_n hx hb dX12_test_38 rfl (lv_at hl 0 rfl) ?_
      refine lv_bipush (v := 123) hx hb dX12_test_39 (by decide) ?_
      refine z_ci hW hS hA (va_runV (As := [.int 123]) (rest := []) ⟨hx, hb, hml, hown, hts⟩ (sx_X12_isSign l G ad I J ⟨(by show 0 ≤ (I 0 36).toInt ∧ (I 0 36).toInt ≤ 4; exact hmt.1), (by show 0 ≤ (I 0 42).toInt ∧ (I 0 42).toInt ≤ 1; exact hmt.2)⟩ 123 _) (cwV 1 hts gX12_test_X12_isSign rfl rfl rfl hy_X12_isSign ⟨Nat.le_of_ble_eq_true rfl, Nat.le_of_ble_eq_true rfl⟩) (z_preV (i := 0) hK hW rfl rfl) rfl rfl hl.1 rfl (lv_room (Nat.le_of_ble_eq_true rfl)) dX12_test_41 ⟨Nat.le_of_ble_eq_true rfl, Nat.le_of_ble_eq_true rfl⟩) (fun r u1 H locs hp hW hS => ?_)
      obtain ⟨e9, hp⟩ := hp
      rw [e9] at hW
      rcases hp with ⟨rfl, h348⟩ | rfl
      · have h349 : (I 0 35).toInt + 1 ≤ (I 0 34).toInt := by omega
        refine lv_if_eq (tgt := 66) hx hb dX12_test_44 (by decide) (fun c350 => absurd c350 (by decide)) (fun c350 => ?_)
        refine lv_aload_n hx hb dX12_test_47 rfl (lv_at hl 0 rfl) ?_
        refine z_cv hW hS hA (va_runV (As := []) (rest := []) ⟨hx, hb, hml, hown, hts⟩ (sx_X12_opens l G ad I J ⟨(by show 0 ≤ (I 0 31).toInt ∧ (I 0 31).toInt ≤ 500; exact hmp.1), (by show 0 ≤ (I 0 33).toInt ∧ (I 0 33).toInt ≤ 500; exact hmp.2.1), (by show 0 ≤ (I 0 34).toInt ∧ (I 0 34).toInt ≤ 500; exact hmp.2.2.1), (by show 0 ≤ (I 0 35).toInt ∧ (I 0 35).toInt ≤ 500; exact hmp.2.2.2)⟩ ⟨(by show 0 ≤ (I 0 36).toInt ∧ (I 0 36).toInt ≤ 4; exact hmt.1), (by show 0 ≤ (I 0 42).toInt ∧ (I 0 42).toInt ≤ 1; exact hmt.2)⟩ (by show 0 ≤ (I 0 35).toInt ∧ (I 0 35).toInt ≤ (I 0 34).toInt ∧ (I 0 34).toInt ≤ (I 0 33).toInt ∧ (I 0 33).toInt ≤ 500 ∧ ((I 0 36).toInt = 0 ∨ (I 0 35).toInt + 1 ≤ (I 0 34).toInt); first | omega | decide) ⟨(by show 0 ≤ (I 0 47).toInt ∧ (I 0 47).toInt ≤ 119; exact hmd.1), (by show 0 ≤ (I 0 39).toInt ∧ (I 0 39).toInt ≤ 100; exact hmd.2)⟩  (by show (I 0 39).toInt ≤ 9; omega) _) (cwV 0 hts gX12_test_X12_opens rfl rfl rfl hy_X12_opens ⟨Nat.le_of_ble_eq_true rfl, Nat.le_of_ble_eq_true rfl⟩) (z_preV (i := 0) hK hW rfl rfl) rfl rfl hl.1 rfl (lv_room (Nat.le_of_ble_eq_true rfl)) dX12_test_48 ⟨Nat.le_of_ble_eq_true rfl, Nat.le_of_ble_eq_true rfl⟩) (fun u1 H locs hp hW hS => ?_)
        obtain ⟨I351, J353, e9, hI351mp, hI351mt, hI351rp, hI351md, fI351, hp⟩ := hp
        rw [e9] at hW
        have f352 := z_fr_sub (L := L_X12_test) z_fr_0 fI351 (by decide)
        have k354 : 0 ≤ (I351 0 40).toInt ∧ (I351 0 40).toInt ≤ 6199 := by rw [fI351 0 40 (by decide)]; exact (by show 0 ≤ (I 0 40).toInt ∧ (I 0 40).toInt ≤ 6199; exact hmg)
        have k355 : 0 ≤ (I351 0 15).toInt ∧ (I351 0 15).toInt ≤ 6100 := by rw [fI351 0 15 (by decide)]; exact (by show 0 ≤ (I 0 15).toInt ∧ (I 0 15).toInt ≤ 6100; exact hmn)
        have k356 : 0 ≤ (I351 0 35).toInt ∧ (I351 0 35).toInt ≤ (I351 0 34).toInt ∧ (I351 0 34).toInt ≤ (I351 0 33).toInt ∧ (I351 0 33).toInt ≤ 500 ∧ ((I351 0 36).toInt = 0 ∨ (I351 0 35).toInt + 1 ≤ (I351 0 34).toInt) := hI351rp
        have k357 : (I351 0 47).toInt = (I 0 47).toInt := by rw [fI351 0 47 (by decide)]
        have k358 : (I351 0 15).toInt = (I 0 15).toInt := by rw [fI351 0 15 (by decide)]
        have k359 : (I351 0 40).toInt = (I 0 40).toInt := by rw [fI351 0 40 (by decide)]
        obtain ⟨h360, h361, h362⟩ := hp
        refine lv_aload_n hx hb dX12_test_51 rfl (lv_at hl 0 rfl) ?_
        refine z_get (T := TX12) (N := 96) (ci := 12) (i := 0) (v := .ref (ad 27)) hx hb hts zj_X12_test_X12 hown hK hW rfl rfl 44 (by decide) (hts (.fieldLink RX12 94 "PetrolBoardModel" "at" "[I") (me_s (me_l (me_l (List.mem_of_getElem? (i := 0) rfl))))) (fun _ h => h) rfl dX12_test_52 ?_
        refine lv_iload_n hx hb dX12_test_55 rfl (lv_at hl 1 rfl) ?_
        refine lv_iconst (v := 2) hx hb dX12_test_56 (by decide) ?_
        refine z_iast (i := 27) hx hb hK hW hS rfl (z_ix rfl (by omega) (by omega)) dX12_test_57 (fun H locs hz1 hW hS => ?_)
        obtain ⟨I363, eI363⟩ : ∃ K : z_I, K = z_up I351 27 a1.toNatClampNeg 2 := ⟨_, rfl⟩
        rw [← eI363] at hW
        have f364 := z_fr_a f352 (show z_wa L_X12_test 27 = true by decide) eI363
        have a365 := z_Nd_n (z_Nd_fr hNd fI351 (by decide)) (by decide) eI363
        refine lv_aload_n hx hb dX12_test_58 rfl (lv_at hl 0 rfl) ?_
        refine lv_iconst (v := 3) hx hb dX12_test_59 (by decide) ?_
        refine z_cv hW hS hA (va_runV (As := [.int 3]) (rest := []) ⟨hx, hb, hml, hown, hts⟩ (sx_X12_begin l G ad I363 J353 ⟨(by show 0 ≤ (I363 0 47).toInt ∧ (I363 0 47).toInt ≤ 119; rw [eI363, z_up_n (by decide)]; exact hI351md.1), (by show 0 ≤ (I363 0 39).toInt ∧ (I363 0 39).toInt ≤ 100; rw [eI363, z_up_n (by decide)]; exact hI351md.2)⟩ 3 (by have q0 : (I363 0 47) = (I351 0 47) := (by rw [eI363, z_up_n (by decide)]); show (I363 0 47).toInt ≤ 118; rw [q0]; omega) _) (cwV 1 hts gX12_test_X12_begin rfl rfl rfl hy_X12_begin ⟨Nat.le_of_ble_eq_true rfl, Nat.le_of_ble_eq_true rfl⟩) (z_preV (i := 0) hK hW rfl rfl) rfl rfl hl.1 rfl (lv_room (Nat.le_of_ble_eq_true rfl)) dX12_test_60 ⟨Nat.le_of_ble_eq_true rfl, Nat.le_of_ble_eq_true rfl⟩) (fun u1 H locs hp hW hS => ?_)
        obtain ⟨I366, J368, e9, hI366md, fI366, hp⟩ := hp
        rw [e9] at hW
        have f367 := z_fr_sub (L := L_X12_test) f364 fI366 (by decide)
        have k369 : 0 ≤ (I366 0 31).toInt ∧ (I366 0 31).toInt ≤ 500 := by rw [fI366 0 31 (by decide)]; exact (by show 0 ≤ (I363 0 31).toInt ∧ (I363 0 31).toInt ≤ 500; rw [eI363, z_up_n (by decide)]; exact hI351mp.1)
        have k370 : 0 ≤ (I366 0 33).toInt ∧ (I366 0 33).toInt ≤ 500 := by rw [fI366 0 33 (by decide)]; exact (by show 0 ≤ (I363 0 33).toInt ∧ (I363 0 33).toInt ≤ 500; rw [eI363, z_up_n (by decide)]; exact hI351mp.2.1)
        have k371 : 0 ≤ (I366 0 34).toInt ∧ (I366 0 34).toInt ≤ 500 := by rw [fI366 0 34 (by decide)]; exact (by show 0 ≤ (I363 0 34).toInt ∧ (I363 0 34).toInt ≤ 500; rw [eI363, z_up_n (by decide)]; exact hI351mp.2.2.1)
        have k372 : 0 ≤ (I366 0 35).toInt ∧ (I366 0 35).toInt ≤ 500 := by rw [fI366 0 35 (by decide)]; exact (by show 0 ≤ (I363 0 35).toInt ∧ (I363 0 35).toInt ≤ 500; rw [eI363, z_up_n (by decide)]; exact hI351mp.2.2.2)
        have k373 : 0 ≤ (I366 0 36).toInt ∧ (I366 0 36).toInt ≤ 4 := by rw [fI366 0 36 (by decide)]; exact (by show 0 ≤ (I363 0 36).toInt ∧ (I363 0 36).toInt ≤ 4; rw [eI363, z_up_n (by decide)]; exact hI351mt.1)
        have k374 : 0 ≤ (I366 0 42).toInt ∧ (I366 0 42).toInt ≤ 1 := by rw [fI366 0 42 (by decide)]; exact (by show 0 ≤ (I363 0 42).toInt ∧ (I363 0 42).toInt ≤ 1; rw [eI363, z_up_n (by decide)]; exact hI351mt.2)
        have k375 : 0 ≤ (I366 0 40).toInt ∧ (I366 0 40).toInt ≤ 6199 := by rw [fI366 0 40 (by decide)]; exact (by show 0 ≤ (I363 0 40).toInt ∧ (I363 0 40).toInt ≤ 6199; rw [eI363, z_up_n (by decide)]; exact k354)
        have k376 : 0 ≤ (I366 0 15).toInt ∧ (I366 0 15).toInt ≤ 6100 := by rw [fI366 0 15 (by decide)]; exact (by show 0 ≤ (I363 0 15).toInt ∧ (I363 0 15).toInt ≤ 6100; rw [eI363, z_up_n (by decide)]; exact k355)
        have k377 : 0 ≤ (I366 0 35).toInt ∧ (I366 0 35).toInt ≤ (I366 0 34).toInt ∧ (I366 0 34).toInt ≤ (I366 0 33).toInt ∧ (I366 0 33).toInt ≤ 500 ∧ ((I366 0 36).toInt = 0 ∨ (I366 0 35).toInt + 1 ≤ (I366 0 34).toInt) := (by have q0 : (I366 0 35) = (I351 0 35) := (by rw [fI366 0 35 (by decide), eI363, z_up_n (by decide)]); have q1 : (I366 0 34) = (I351 0 34) := (by rw [fI366 0 34 (by decide), eI363, z_up_n (by decide)]); have q2 : (I366 0 33) = (I351 0 33) := (by rw [fI366 0 33 (by decide), eI363, z_up_n (by decide)]); have q3 : (I366 0 36) = (I351 0 36) := (by rw [fI366 0 36 (by decide), eI363, z_up_n (by decide)]); show 0 ≤ (I366 0 35).toInt ∧ (I366 0 35).toInt ≤ (I366 0 34).toInt ∧ (I366 0 34).toInt ≤ (I366 0 33).toInt ∧ (I366 0 33).toInt ≤ 500 ∧ ((I366 0 36).toInt = 0 ∨ (I366 0 35).toInt + 1 ≤ (I366 0 34).toInt); rw [q0, q1, q2, q3]; first | omega | decide)
        have k378 : (I366 0 35).toInt = (I351 0 35).toInt := by rw [fI366 0 35 (by decide), eI363, z_up_n (by decide)]
        have k379 : (I366 0 34).toInt = (I351 0 34).toInt := by rw [fI366 0 34 (by decide), eI363, z_up_n (by decide)]
        have k380 : (I366 0 36).toInt = (I351 0 36).toInt := by rw [fI366 0 36 (by decide), eI363, z_up_n (by decide)]
        have k381 : (I366 0 42).toInt = (I351 0 42).toInt := by rw [fI366 0 42 (by decide), eI363, z_up_n (by decide)]
        have k382 : (I366 0 39).toInt = (I351 0 39).toInt := by rw [fI366 0 39 (by decide), eI363, z_up_n (by decide)]
        have k383 : (I366 0 15).toInt = (I351 0 15).toInt := by rw [fI366 0 15 (by decide), eI363, z_up_n (by decide)]
        have k384 : (I366 0 40).toInt = (I351 0 40).toInt := by rw [fI366 0 40 (by decide), eI363, z_up_n (by decide)]
        have h385 := hp
        refine lv_goto (tgt := 289) hx hb dX12_test_63 (by decide) ?_
        exact z_vret hx hb hr hK hS (Nat.le_of_ble_eq_true rfl) (Nat.le_of_ble_eq_true rfl) hlocks dX12_test_289 (shM, ad, I366, J368, PM ad) hW ⟨I366, J368, rfl, ⟨(by show 0 ≤ (I366 0 31).toInt ∧ (I366 0 31).toInt ≤ 500; exact k369), (by show 0 ≤ (I366 0 33).toInt ∧ (I366 0 33).toInt ≤ 500; exact k370), (by show 0 ≤ (I366 0 34).toInt ∧ (I366 0 34).toInt ≤ 500; exact k371), (by show 0 ≤ (I366 0 35).toInt ∧ (I366 0 35).toInt ≤ 500; exact k372)⟩, ⟨(by show 0 ≤ (I366 0 36).toInt ∧ (I366 0 36).toInt ≤ 4; exact k373), (by show 0 ≤ (I366 0 42).toInt ∧ (I366 0 42).toInt ≤ 1; exact k374)⟩, ⟨(by show 0 ≤ (I366 0 47).toInt ∧ (I366 0 47).toInt ≤ 119; exact hI366md.1), (by show 0 ≤ (I366 0 39).toInt ∧ (I366 0 39).toInt ≤ 100; exact hI366md.2)⟩, (by show 0 ≤ (I366 0 40).toInt ∧ (I366 0 40).toInt ≤ 6199; exact k375), (by show 0 ≤ (I366 0 15).toInt ∧ (I366 0 15).toInt ≤ 6100; exact k376), (z_Nd_fr a365 fI366 (by decide)), (by show 0 ≤ (I366 0 35).toInt ∧ (I366 0 35).toInt ≤ (I366 0 34).toInt ∧ (I366 0 34).toInt ≤ (I366 0 33).toInt ∧ (I366 0 33).toInt ≤ 500 ∧ ((I366 0 36).toInt = 0 ∨ (I366 0 35).toInt + 1 ≤ (I366 0 34).toInt); first | omega | decide), f367, ((Classical.em ((I366 0 42).toInt = 0)).elim (fun hw9 => Or.inr ⟨a1.toNatClampNeg + 2, by have w1 := z_fw_50 (a := va.toInt) (o := vo.toInt) (by omega); have w2 := z_fo_5n (a := va.toInt) (by omega); have w3 := z_fw_523 (a := 2) (o := vo.toInt) (by omega); have w4 := z_fo_5y (a := 2) (by omega); have w5 := z_fw_30 (a := 0) (o := -1) (by omega); have w6 := z_rk_5; have w7 := z_rk_3; exact z_PUSH (d := a1.toNatClampNeg) (w := 5) (a := 2) (o := vo.toInt) (s := vs.toInt) (wi := 3) hPS (fun i hi => ⟨by rw [eI363, z_up_n (by decide), fI351 26 i (z_wr_c (by decide))], by rw [eI363, z_up_k (by omega), fI351 27 i (z_wr_c (by decide))], by rw [eI363, z_up_n (by decide), fI351 28 i (z_wr_c (by decide))], by rw [eI363, z_up_n (by decide), fI351 29 i (z_wr_c (by decide))]⟩) (by rw [show I363 26 a1.toNatClampNeg = vw from (by rw [eI363, z_up_n (by decide), fI351 26 a1.toNatClampNeg (z_wr_c (by decide))]; exact evw.symm)]; exact hvw) (by rw [show I363 27 a1.toNatClampNeg = 2 from (by rw [eI363, z_up_s])]; exact z_l2) (by rw [show I363 28 a1.toNatClampNeg = vo from (by rw [eI363, z_up_n (by decide), fI351 28 a1.toNatClampNeg (z_wr_c (by decide))]; exact evo.symm)]) (by rw [show I363 29 a1.toNatClampNeg = vs from (by rw [eI363, z_up_n (by decide), fI351 29 a1.toNatClampNeg (z_wr_c (by decide))]; exact evs.symm)]) (by unfold z_fv; omega) hwd (by rw [eI363, z_up_n (by decide)]; omega) h385 z_l3 (by omega) (by omega) (by omega) (by omega) (by omega) (by omega) (by omega) (by omega)⟩) Or.inl)⟩
      · refine lv_if_eq (tgt := 66) hx hb dX12_test_44 (by decide) (fun c386 => ?_) (fun c386 => absurd (by decide) c386)
        refine lv_aload_n hx hb dX12_test_66 rfl (lv_at hl 0 rfl) ?_
        refine z_get (T := TX12) (N := 96) (ci := 12) (i := 0) (v := .ref (ad 27)) hx hb hts zj_X12_test_X12 hown hK hW rfl rfl 44 (by decide) (hts (.fieldLink RX12 94 "PetrolBoardModel" "at" "[I") (me_s (me_l (me_l (List.mem_of_getElem? (i := 0) rfl))))) (fun _ h => h) rfl dX12_test_67 ?_
        refine lv_iload_n hx hb dX12_test_70 rfl (lv_at hl 1 rfl) ?_
        refine lv_iconst (v := 3) hx hb dX12_test_71 (by decide) ?_
        refine z_iast (i := 27) hx hb hK hW hS rfl (z_ix rfl (by omega) (by omega)) dX12_test_72 (fun H locs hz1 hW hS => ?_)
        obtain ⟨I387, eI387⟩ : ∃ K : z_I, K = z_up I 27 a1.toNatClampNeg 3 := ⟨_, rfl⟩
        rw [← eI387] at hW
        have f388 := z_fr_a z_fr_0 (show z_wa L_X12_test 27 = true by decide) eI387
        have a389 := z_Nd_n hNd (by decide) eI387
        refine lv_aload_n hx hb dX12_test_73 rfl (lv_at hl 0 rfl) ?_
        refine lv_iconst (v := 0) hx hb dX12_test_74 (by decide) ?_
        refine z_cv hW hS hA (va_runV (As := [.int 0]) (rest := []) ⟨hx, hb, hml, hown, hts⟩ (sx_X12_begin l G ad I387 J ⟨(by show 0 ≤ (I387 0 47).toInt ∧ (I387 0 47).toInt ≤ 119; rw [eI387, z_up_n (by decide)]; exact hmd.1), (by show 0 ≤ (I387 0 39).toInt ∧ (I387 0 39).toInt ≤ 100; rw [eI387, z_up_n (by decide)]; exact hmd.2)⟩ 0 (by have q0 : (I387 0 47) = (I 0 47) := (by rw [eI387, z_up_n (by decide)]); show (I387 0 47).toInt ≤ 118; rw [q0]; omega) _) (cwV 1 hts gX12_test_X12_begin rfl rfl rfl hy_X12_begin ⟨Nat.le_of_ble_eq_true rfl, Nat.le_of_ble_eq_true rfl⟩) (z_preV (i := 0) hK hW rfl rfl) rfl rfl hl.1 rfl (lv_room (Nat.le_of_ble_eq_true rfl)) dX12_test_75 ⟨Nat.le_of_ble_eq_true rfl, Nat.le_of_ble_eq_true rfl⟩) (fun u1 H locs hp hW hS => ?_)
        obtain ⟨I390, J392, e9, hI390md, fI390, hp⟩ := hp
        rw [e9] at hW
        have f391 := z_fr_sub (L := L_X12_test) f388 fI390 (by decide)
        have k393 : 0 ≤ (I390 0 31).toInt ∧ (I390 0 31).toInt ≤ 500 := by rw [fI390 0 31 (by decide)]; exact (by show 0 ≤ (I387 0 31).toInt ∧ (I387 0 31).toInt ≤ 500; rw [eI387, z_up_n (by decide)]; exact hmp.1)
        have k394 : 0 ≤ (I390 0 33).toInt ∧ (I390 0 33).toInt ≤ 500 := by rw [fI390 0 33 (by decide)]; exact (by show 0 ≤ (I387 0 33).toInt ∧ (I387 0 33).toInt ≤ 500; rw [eI387, z_up_n (by decide)]; exact hmp.2.1)
        have k395 : 0 ≤ (I390 0 34).toInt ∧ (I390 0 34).toInt ≤ 500 := by rw [fI390 0 34 (by decide)]; exact (by show 0 ≤ (I387 0 34).toInt ∧ (I387 0 34).toInt ≤ 500; rw [eI387, z_up_n (by decide)]; exact hmp.2.2.1)
        have k396 : 0 ≤ (I390 0 35).toInt ∧ (I390 0 35).toInt ≤ 500 := by rw [fI390 0 35 (by decide)]; exact (by show 0 ≤ (I387 0 35).toInt ∧ (I387 0 35).toInt ≤ 500; rw [eI387, z_up_n (by decide)]; exact hmp.2.2.2)
        have k397 : 0 ≤ (I390 0 36).toInt ∧ (I390 0 36).toInt ≤ 4 := by rw [fI390 0 36 (by decide)]; exact (by show 0 ≤ (I387 0 36).toInt ∧ (I387 0 36).toInt ≤ 4; rw [eI387, z_up_n (by decide)]; exact hmt.1)
        have k398 : 0 ≤ (I390 0 42).toInt ∧ (I390 0 42).toInt ≤ 1 := by rw [fI390 0 42 (by decide)]; exact (by show 0 ≤ (I387 0 42).toInt ∧ (I387 0 42).toInt ≤ 1; rw [eI387, z_up_n (by decide)]; exact hmt.2)
        have k399 : 0 ≤ (I390 0 40).toInt ∧ (I390 0 40).toInt ≤ 6199 := by rw [fI390 0 40 (by decide)]; exact (by show 0 ≤ (I387 0 40).toInt ∧ (I387 0 40).toInt ≤ 6199; rw [eI387, z_up_n (by decide)]; exact hmg)
        have k400 : 0 ≤ (I390 0 15).toInt ∧ (I390 0 15).toInt ≤ 6100 := by rw [fI390 0 15 (by decide)]; exact (by show 0 ≤ (I387 0 15).toInt ∧ (I387 0 15).toInt ≤ 6100; rw [eI387, z_up_n (by decide)]; exact hmn)
        have k401 : 0 ≤ (I390 0 35).toInt ∧ (I390 0 35).toInt ≤ (I390 0 34).toInt ∧ (I390 0 34).toInt ≤ (I390 0 33).toInt ∧ (I390 0 33).toInt ≤ 500 ∧ ((I390 0 36).toInt = 0 ∨ (I390 0 35).toInt + 1 ≤ (I390 0 34).toInt) := (by have q0 : (I390 0 35) = (I 0 35) := (by rw [fI390 0 35 (by decide), eI387, z_up_n (by decide)]); have q1 : (I390 0 34) = (I 0 34) := (by rw [fI390 0 34 (by decide), eI387, z_up_n (by decide)]); have q2 : (I390 0 33) = (I 0 33) := (by rw [fI390 0 33 (by decide), eI387, z_up_n (by decide)]); have q3 : (I390 0 36) = (I 0 36) := (by rw [fI390 0 36 (by decide), eI387, z_up_n (by decide)]); show 0 ≤ (I390 0 35).toInt ∧ (I390 0 35).toInt ≤ (I390 0 34).toInt ∧ (I390 0 34).toInt ≤ (I390 0 33).toInt ∧ (I390 0 33).toInt ≤ 500 ∧ ((I390 0 36).toInt = 0 ∨ (I390 0 35).toInt + 1 ≤ (I390 0 34).toInt); rw [q0, q1, q2, q3]; first | omega | decide)
        have k402 : (I390 0 35).toInt = (I 0 35).toInt := by rw [fI390 0 35 (by decide), eI387, z_up_n (by decide)]
        have k403 : (I390 0 34).toInt = (I 0 34).toInt := by rw [fI390 0 34 (by decide), eI387, z_up_n (by decide)]
        have k404 : (I390 0 36).toInt = (I 0 36).toInt := by rw [fI390 0 36 (by decide), eI387, z_up_n (by decide)]
        have k405 : (I390 0 42).toInt = (I 0 42).toInt := by rw [fI390 0 42 (by decide), eI387, z_up_n (by decide)]
        have k406 : (I390 0 39).toInt = (I 0 39).toInt := by rw [fI390 0 39 (by decide), eI387, z_up_n (by decide)]
        have k407 : (I390 0 15).toInt = (I 0 15).toInt := by rw [fI390 0 15 (by decide), eI387, z_up_n (by decide)]
        have k408 : (I390 0 40).toInt = (I 0 40).toInt := by rw [fI390 0 40 (by decide), eI387, z_up_n (by decide)]
        have h409 := hp
        refine lv_goto (tgt := 289) hx hb dX12_test_78 (by decide) ?_
        exact z_vret hx hb hr hK hS (Nat.le_of_ble_eq_true rfl) (Nat.le_of_ble_eq_true rfl) hlocks dX12_test_289 (shM, ad, I390, J392, PM ad) hW ⟨I390, J392, rfl, ⟨(by show 0 ≤ (I390 0 31).toInt ∧ (I390 0 31).toInt ≤ 500; exact k393), (by show 0 ≤ (I390 0 33).toInt ∧ (I390 0 33).toInt ≤ 500; exact k394), (by show 0 ≤ (I390 0 34).toInt ∧ (I390 0 34).toInt ≤ 500; exact k395), (by show 0 ≤ (I390 0 35).toInt ∧ (I390 0 35).toInt ≤ 500; exact k396)⟩, ⟨(by show 0 ≤ (I390 0 36).toInt ∧ (I390 0 36).toInt ≤ 4; exact k397), (by show 0 ≤ (I390 0 42).toInt ∧ (I390 0 42).toInt ≤ 1; exact k398)⟩, ⟨(by show 0 ≤ (I390 0 47).toInt ∧ (I390 0 47).toInt ≤ 119; exact hI390md.1), (by show 0 ≤ (I390 0 39).toInt ∧ (I390 0 39).toInt ≤ 100; exact hI390md.2)⟩, (by show 0 ≤ (I390 0 40).toInt ∧ (I390 0 40).toInt ≤ 6199; exact k399), (by show 0 ≤ (I390 0 15).toInt ∧ (I390 0 15).toInt ≤ 6100; exact k400), (z_Nd_fr a389 fI390 (by decide)), (by show 0 ≤ (I390 0 35).toInt ∧ (I390 0 35).toInt ≤ (I390 0 34).toInt ∧ (I390 0 34).toInt ≤ (I390 0 33).toInt ∧ (I390 0 33).toInt ≤ 500 ∧ ((I390 0 36).toInt = 0 ∨ (I390 0 35).toInt + 1 ≤ (I390 0 34).toInt); first | omega | decide), f391, ((Classical.em ((I390 0 42).toInt = 0)).elim (fun hw9 => Or.inr ⟨a1.toNatClampNeg + 2, by have w1 := z_fw_50 (a := va.toInt) (o := vo.toInt) (by omega); have w2 := z_fo_5n (a := va.toInt) (by omega); have w3 := z_fw_523 (a := 3) (o := vo.toInt) (by omega); have w4 := z_fo_5n (a := 3) (by omega); have w5 := z_fw_00 (a := 0) (o := -1) (by omega); have w6 := z_rk_5; have w7 := z_rk_0; exact z_PUSH (d := a1.toNatClampNeg) (w := 5) (a := 3) (o := vo.toInt) (s := vs.toInt) (wi := 0) hPS (fun i hi => ⟨by rw [eI387, z_up_n (by decide)], by rw [eI387, z_up_k (by omega)], by rw [eI387, z_up_n (by decide)], by rw [eI387, z_up_n (by decide)]⟩) (by rw [show I387 26 a1.toNatClampNeg = vw from (by rw [eI387, z_up_n (by decide)]; exact evw.symm)]; exact hvw) (by rw [show I387 27 a1.toNatClampNeg = 3 from (by rw [eI387, z_up_s])]; exact z_l3) (by rw [show I387 28 a1.toNatClampNeg = vo from (by rw [eI387, z_up_n (by decide)]; exact evo.symm)]) (by rw [show I387 29 a1.toNatClampNeg = vs from (by rw [eI387, z_up_n (by decide)]; exact evs.symm)]) (by unfold z_fv; omega) hwd (by rw [eI387, z_up_n (by decide)]; omega) h409 z_l0 (by omega) (by omega) (by omega) (by omega) (by omega) (by omega) (by omega) (by omega)⟩) Or.inl)⟩
