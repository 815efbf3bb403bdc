theorem dX12_sums_0 : decode cX12_sums 0 = .ok (.aload_n 0, 1) := by decide +kernel
theorem dX12_sums_1 : decode cX12_sums 1 = .ok (.getfield 94, 3) := by decide +kernel
theorem dX12_sums_4 : decode cX12_sums 4 = .ok (.iload_n 1, 1) := by decide +kernel
theorem dX12_sums_5 : decode cX12_sums 5 = .ok (.iaload, 1) := by decide +kernel
theorem dX12_sums_6 : decode cX12_sums 6 = .ok (.ifCond .ne 24, 3) := by decide +kernel
theorem dX12_sums_30 : decode cX12_sums 30 = .ok (.aload_n 0, 1) := by decide +kernel
theorem dX12_sums_31 : decode cX12_sums 31 = .ok (.getfield 97, 3) := by decide +kernel
theorem dX12_sums_34 : decode cX12_sums 34 = .ok (.iload_n 1, 1) := by decide +kernel
theorem dX12_sums_35 : decode cX12_sums 35 = .ok (.aload_n 0, 1) := by decide +kernel
theorem dX12_sums_36 : decode cX12_sums 36 = .ok (.getfield 97, 3) := by decide +kernel
theorem dX12_sums_39 : decode cX12_sums 39 = .ok (.iload_n 1, 1) := by decide +kernel
theorem dX12_sums_40 : decode cX12_sums 40 = .ok (.iaload, 1) := by decide +kernel
theorem dX12_sums_41 : decode cX12_sums 41 = .ok (.ifCond .ge 10, 3) := by decide +kernel
theorem dX12_sums_51 : decode cX12_sums 51 = .ok (.aload_n 0, 1) := by decide +kernel
theorem dX12_sums_52 : decode cX12_sums 52 = .ok (.aload_n 0, 1) := by decide +kernel
theorem dX12_sums_53 : decode cX12_sums 53 = .ok (.getfield 100, 3) := by decide +kernel
theorem dX12_sums_56 : decode cX12_sums 56 = .ok (.iload_n 1, 1) := by decide +kernel
theorem dX12_sums_57 : decode cX12_sums 57 = .ok (.iaload, 1) := by decide +kernel
theorem dX12_sums_58 : decode cX12_sums 58 = .ok (.aload_n 0, 1) := by decide +kernel
theorem dX12_sums_59 : decode cX12_sums 59 = .ok (.getfield 97, 3) := by decide +kernel
theorem dX12_sums_62 : decode cX12_sums 62 = .ok (.iload_n 1, 1) := by decide +kernel
theorem dX12_sums_63 : decode cX12_sums 63 = .ok (.iaload, 1) := by decide +kernel
theorem dX12_sums_64 : decode cX12_sums 64 = .ok (.aload_n 0, 1) := by decide +kernel
theorem dX12_sums_65 : decode cX12_sums 65 = .ok (.getfield 343, 3) := by decide +kernel
set_option maxRecDepth 20000 in
theorem ggX12_sums_X12_node : GoodIn wsX12_sums wsX12_node := goodIn_sub (fa_c (me_s (me_l (me_l (List.mem_of_getElem? (i := 14) rfl)))) (fa_a (fa_c (me_s (me_l (me_l (List.mem_of_getElem? (i := 15) rfl)))) (fa_c (me_s (me_l (me_l (List.mem_of_getElem? (i := 16) rfl)))) (fa_c (me_s (me_l (me_l (List.mem_of_getElem? (i := 17) rfl)))) (fa_c (me_s (me_l (me_l (List.mem_of_getElem? (i := 18) rfl)))) fa_n)))) (fun w h => (me_s (me_r h))))) (by decide +kernel)
set_option maxRecDepth 20000 in
theorem gX12_sums_X12_node : GoodIn wsX12_sums (wsV RX12 366 RX12 yX12_node wsX12_node) := goodIn_app (goodIn_sub (fa_c (me_s (me_l (me_l (List.mem_of_getElem? (i := 11) rfl)))) (fa_c (me_s (me_l (me_l (List.mem_of_getElem? (i := 12) rfl)))) (fa_c (me_s (me_l (me_l (List.mem_of_getElem? (i := 13) rfl)))) (fa_c (me_s (me_l (me_l (List.mem_of_getElem? (i := 7) rfl)))) fa_n)))) (by decide +kernel)) ggX12_sums_X12_node
theorem dX12_sums_68 : decode cX12_sums 68 = .ok (.invokevirtual 366, 3) := by decide +kernel
theorem dX12_sums_71 : decode cX12_sums 71 = .ok (.iastore, 1) := by decide +kernel
theorem dX12_sums_72 : decode cX12_sums 72 = .ok (.iload_n 2, 1) := by decide +kernel
theorem dX12_sums_73 : decode cX12_sums 73 = .ok (.ifCond .eq 33, 3) := by decide +kernel
theorem dX12_sums_76 : decode cX12_sums 76 = .ok (.aload_n 0, 1) := by decide +kernel
theorem dX12_sums_77 : decode cX12_sums 77 = .ok (.bipush 43, 2) := by decide +kernel
set_option maxRecDepth 20000 in
theorem ggX12_sums_X12_isSign : GoodIn wsX12_sums wsX12_isSign := goodIn_sub (fa_c (me_s (me_l (me_l (List.mem_of_getElem? (i := 22) rfl)))) (fa_a (fa_c (me_s (me_l (me_l (List.mem_of_getElem? (i := 23) rfl)))) (fa_c (me_s (me_l (me_r (me_l (List.mem_of_getElem? (i := 0) rfl))))) fa_n)) (fun w h => (me_s (me_r h))))) (by decide +kernel)
set_option maxRecDepth 20000 in
theorem gX12_sums_X12_isSign : GoodIn wsX12_sums (wsV RX12 298 RX12 yX12_isSign wsX12_isSign) := goodIn_app (goodIn_sub (fa_c (me_s (me_l (me_l (List.mem_of_getElem? (i := 19) rfl)))) (fa_c (me_s (me_l (me_l (List.mem_of_getElem? (i := 20) rfl)))) (fa_c (me_s (me_l (me_l (List.mem_of_getElem? (i := 21) rfl)))) (fa_c (me_s (me_l (me_l (List.mem_of_getElem? (i := 7) rfl)))) fa_n)))) (by decide +kernel)) ggX12_sums_X12_isSign
theorem dX12_sums_79 : decode cX12_sums 79 = .ok (.invokevirtual 298, 3) := by decide +kernel
theorem dX12_sums_82 : decode cX12_sums 82 = .ok (.ifCond .eq 7, 3) := by decide +kernel
theorem dX12_sums_85 : decode cX12_sums 85 = .ok (.iconst 2, 1) := by decide +kernel
theorem dX12_sums_86 : decode cX12_sums 86 = .ok (.goto 47, 3) := by decide +kernel
theorem dX12_sums_133 : decode cX12_sums 133 = .ok (.istore_n 3, 1) := by decide +kernel
theorem dX12_sums_134 : decode cX12_sums 134 = .ok (.iload_n 3, 1) := by decide +kernel
theorem dX12_sums_135 : decode cX12_sums 135 = .ok (.ifCond .le 30, 3) := by decide +kernel
theorem dX12_sums_138 : decode cX12_sums 138 = .ok (.aload_n 0, 1) := by decide +kernel
set_option maxRecDepth 20000 in
theorem ggX12_sums_X12_next : GoodIn wsX12_sums wsX12_next := goodIn_sub (fa_c (me_s (me_l (me_r (me_l (List.mem_of_getElem? (i := 4) rfl))))) (fa_a (fa_a (fa_c (me_s (me_l (me_r (me_l (List.mem_of_getElem? (i := 5) rfl))))) (fa_c (me_s (me_l (me_r (me_l (List.mem_of_getElem? (i := 6) rfl))))) (fa_c (me_s (me_l (me_r (me_l (List.mem_of_getElem? (i := 7) rfl))))) (fa_c (me_s (me_l (me_r (me_l (List.mem_of_getElem? (i := 8) rfl))))) (fa_c (me_s (me_l (me_r (me_l (List.mem_of_getElem? (i := 0) rfl))))) (fa_c (me_s (me_l (me_r (me_l (List.mem_of_getElem? (i := 9) rfl))))) (fa_c (me_s (me_l (me_l (List.mem_of_getElem? (i := 23) rfl)))) (fa_c (me_s (me_l (me_r (me_l (List.mem_of_getElem? (i := 10) rfl))))) (fa_c (me_s (me_l (me_r (me_l (List.mem_of_getElem? (i := 11) rfl))))) (fa_c (me_s (me_l (me_r (me_l (List.mem_of_getElem? (i := 12) rfl))))) (fa_c (me_s (me_l (me_r (me_l (List.mem_of_getElem? (i := 13) rfl))))) (fa_c (me_s (me_l (me_r (me_l (List.mem_of_getElem? (i := 14) rfl))))) (fa_c (me_s (me_l (me_l (List.mem_of_getElem? (i := 7) rfl)))) (fa_c (me_s (me_l (me_r (me_l (List.mem_of_getElem? (i := 15) rfl))))) (fa_c (me_s (me_l (me_r (me_l (List.mem_of_getElem? (i := 16) rfl))))) (fa_c (me_s (me_l (me_r (me_l (List.mem_of_getElem? (i := 17) rfl))))) (fa_c (me_s (me_l (me_r (me_l (List.mem_of_getElem? (i := 18) rfl))))) (fa_c (me_s (me_l (me_r (me_l (List.mem_of_getElem? (i := 19) rfl))))) (fa_c (me_s (me_l (me_r (me_l (List.mem_of_getElem? (i := 20) rfl))))) (fa_c (me_s (me_l (me_r (me_l (List.mem_of_getElem? (i := 21) rfl))))) (fa_c (me_s (me_l (me_r (me_l (List.mem_of_getElem? (i := 22) rfl))))) (fa_c (me_s (me_l (me_r (me_l (List.mem_of_getElem? (i := 23) rfl))))) (fa_c (me_s (me_l (me_r (me_r (List.mem_of_getElem? (i := 0) rfl))))) (fa_c (me_s (me_l (me_r (me_r (List.mem_of_getElem? (i := 1) rfl))))) fa_n)))))))))))))))))))))))) (fa_c (me_s (me_l (me_r (me_r (List.mem_of_getElem? (i := 2) rfl))))) fa_n)) (fun w h => (me_s (me_r h))))) (by decide +kernel)
set_option maxRecDepth 20000 in
theorem gX12_sums_X12_next : GoodIn wsX12_sums (wsV RX12 301 RX12 yX12_next wsX12_next) := goodIn_app (goodIn_sub (fa_c (me_s (me_l (me_r (me_l (List.mem_of_getElem? (i := 1) rfl))))) (fa_c (me_s (me_l (me_r (me_l (List.mem_of_getElem? (i := 2) rfl))))) (fa_c (me_s (me_l (me_r (me_l (List.mem_of_getElem? (i := 3) rfl))))) (fa_c (me_s (me_l (me_l (List.mem_of_getElem? (i := 7) rfl)))) fa_n)))) (by decide +kernel)) ggX12_sums_X12_next
theorem dX12_sums_139 : decode cX12_sums 139 = .ok (.invokevirtual 301, 3) := by decide +kernel
theorem dX12_sums_142 : decode cX12_sums 142 = .ok (.aload_n 0, 1) := by decide +kernel
theorem dX12_sums_143 : decode cX12_sums 143 = .ok (.getfield 100, 3) := by decide +kernel
theorem dX12_sums_146 : decode cX12_sums 146 = .ok (.iload_n 1, 1) := by decide +kernel
theorem dX12_sums_147 : decode cX12_sums 147 = .ok (.iload_n 3, 1) := by decide +kernel
theorem dX12_sums_148 : decode cX12_sums 148 = .ok (.iastore, 1) := by decide +kernel
theorem dX12_sums_149 : decode cX12_sums 149 = .ok (.aload_n 0, 1) := by decide +kernel
theorem dX12_sums_150 : decode cX12_sums 150 = .ok (.iload_n 2, 1) := by decide +kernel
theorem dX12_sums_151 : decode cX12_sums 151 = .ok (.ifCond .eq 7, 3) := by decide +kernel
theorem dX12_sums_154 : decode cX12_sums 154 = .ok (.iconst 1, 1) := by decide +kernel
theorem dX12_sums_155 : decode cX12_sums 155 = .ok (.goto 4, 3) := by decide +kernel
set_option maxRecDepth 20000 in
theorem ggX12_sums_X12_begin : GoodIn wsX12_sums wsX12_begin := goodIn_sub (fa_c (me_s (me_l (me_l (List.mem_of_getElem? (i := 8) rfl)))) (fa_a (fa_c (me_s (me_l (me_l (List.mem_of_getElem? (i := 9) rfl)))) (fa_c (me_s (me_l (me_l (List.mem_of_getElem? (i := 10) rfl)))) (fa_c (me_s (me_l (me_l (List.mem_of_getElem? (i := 0) rfl)))) (fa_c (me_s (me_l (me_l (List.mem_of_getElem? (i := 1) rfl)))) (fa_c (me_s (me_l (me_l (List.mem_of_getElem? (i := 3) rfl)))) fa_n))))) (fun w h => (me_s (me_r h))))) (by decide +kernel)
set_option maxRecDepth 20000 in
theorem gX12_sums_X12_begin : GoodIn wsX12_sums (wsV RX12 349 RX12 yX12_begin wsX12_begin) := goodIn_app (goodIn_sub (fa_c (me_s (me_l (me_l (List.mem_of_getElem? (i := 4) rfl)))) (fa_c (me_s (me_l (me_l (List.mem_of_getElem? (i := 5) rfl)))) (fa_c (me_s (me_l (me_l (List.mem_of_getElem? (i := 6) rfl)))) (fa_c (me_s (me_l (me_l (List.mem_of_getElem? (i := 7) rfl)))) fa_n)))) (by decide +kernel)) ggX12_sums_X12_begin
theorem dX12_sums_159 : decode cX12_sums 159 = .ok (.invokevirtual 349, 3) := by decide +kernel
theorem dX12_sums_162 : decode cX12_sums 162 = .ok (.goto 13, 3) := by decide +kernel
theorem dX12_sums_175 : decode cX12_sums 175 = .ok (.return_, 1) := by decide +kernel
theorem dX12_sums_89 : decode cX12_sums 89 = .ok (.aload_n 0, 1) := by decide +kernel
theorem dX12_sums_90 : decode cX12_sums 90 = .ok (.bipush 45, 2) := by decide +kernel
theorem dX12_sums_92 : decode cX12_sums 92 = .ok (.invokevirtual 298, 3) := by decide +kernel
theorem dX12_sums_95 : decode cX12_sums 95 = .ok (.ifCond .eq 7, 3) := by decide +kernel
theorem dX12_sums_98 : decode cX12_sums 98 = .ok (.iconst 3, 1) := by decide +kernel
theorem dX12_sums_99 : decode cX12_sums 99 = .ok (.goto 34, 3) := by decide +kernel
theorem dX12_sums_102 : decode cX12_sums 102 = .ok (.iconst 0, 1) := by decide +kernel
theorem dX12_sums_103 : decode cX12_sums 103 = .ok (.goto 30, 3) := by decide +kernel
theorem dX12_sums_165 : decode cX12_sums 165 = .ok (.aload_n 0, 1) := by decide +kernel
theorem dX12_sums_166 : decode cX12_sums 166 = .ok (.aload_n 0, 1) := by decide +kernel
theorem dX12_sums_167 : decode cX12_sums 167 = .ok (.getfield 97, 3) := by decide +kernel
theorem dX12_sums_170 : decode cX12_sums 170 = .ok (.iload_n 1, 1) := by decide +kernel
theorem dX12_sums_171 : decode cX12_sums 171 = .ok (.iaload, 1) := by decide +kernel
set_option maxRecDepth 20000 in
theorem ggX12_sums_X12_ends : GoodIn wsX12_sums wsX12_ends := goodIn_sub (fa_c (me_s (me_l (me_r (me_r (List.mem_of_getElem? (i := 6) rfl))))) (fa_a (fa_c (me_s (me_l (me_l (List.mem_of_getElem? (i := 2) rfl)))) (fa_c (me_s (me_l (me_l (List.mem_of_getElem? (i := 10) rfl)))) fa_n)) (fun w h => (me_s (me_r h))))) (by decide +kernel)
set_option maxRecDepth 20000 in
theorem gX12_sums_X12_ends : GoodIn wsX12_sums (wsV RX12 369 RX12 yX12_ends wsX12_ends) := goodIn_app (goodIn_sub (fa_c (me_s (me_l (me_r (me_r (List.mem_of_getElem? (i := 3) rfl))))) (fa_c (me_s (me_l (me_r (me_r (List.mem_of_getElem? (i := 4) rfl))))) (fa_c (me_s (me_l (me_r (me_r (List.mem_of_getElem? (i := 5) rfl))))) (fa_c (me_s (me_l (me_l (List.mem_of_getElem? (i := 7) rfl)))) fa_n)))) (by decide +kernel)) ggX12_sums_X12_ends
theorem dX12_sums_172 : decode cX12_sums 172 = .ok (.invokevirtual 369, 3) := by decide +kernel
theorem dX12_sums_44 : decode cX12_sums 44 = .ok (.aload_n 0, 1) := by decide +kernel
theorem dX12_sums_45 : decode cX12_sums 45 = .ok (.getfield 343, 3) := by decide +kernel
theorem dX12_sums_48 : decode cX12_sums 48 = .ok (.goto 23, 3) := by decide +kernel
theorem dX12_sums_9 : decode cX12_sums 9 = .ok (.aload_n 0, 1) := by decide +kernel
theorem dX12_sums_10 : decode cX12_sums 10 = .ok (.getfield 94, 3) := by decide +kernel
theorem dX12_sums_13 : decode cX12_sums 13 = .ok (.iload_n 1, 1) := by decide +kernel
theorem dX12_sums_14 : decode cX12_sums 14 = .ok (.iconst 1, 1) := by decide +kernel
theorem dX12_sums_15 : decode cX12_sums 15 = .ok (.iastore, 1) := by decide +kernel
theorem dX12_sums_16 : decode cX12_sums 16 = .ok (.aload_n 0, 1) := by decide +kernel
theorem dX12_sums_17 : decode cX12_sums 17 = .ok (.iload_n 2, 1) := by decide +kernel
theorem dX12_sums_18 : decode cX12_sums 18 = .ok (.ifCond .eq 7, 3) := by decide +kernel
theorem dX12_sums_21 : decode cX12_sums 21 = .ok (.iconst 1, 1) := by decide +kernel
theorem dX12_sums_22 : decode cX12_sums 22 = .ok (.goto 4, 3) := by decide +kernel
theorem dX12_sums_26 : decode cX12_sums 26 = .ok (.invokevirtual 349, 3) := by decide +kernel
theorem dX12_sums_29 : decode cX12_sums 29 = .ok (.return_, 1) := by decide +kernel
theorem dX12_sums_106 : decode cX12_sums 106 = .ok (.aload_n 0, 1) := by decide +kernel
theorem dX12_sums_107 : decode cX12_sums 107 = .ok (.bipush 42, 2) := by decide +kernel
theorem dX12_sums_109 : decode cX12_sums 109 = .ok (.invokevirtual 298, 3) := by decide +kernel
theorem dX12_sums_112 : decode cX12_sums 112 = .ok (.ifCond .eq 7, 3) := by decide +kernel
theorem dX12_sums_115 : decode cX12_sums 115 = .ok (.iconst 4, 1) := by decide +kernel
theorem dX12_sums_116 : decode cX12_sums 116 = .ok (.goto 17, 3) := by decide +kernel
theorem dX12_sums_158 : decode cX12_sums 158 = .ok (.iconst 2, 1) := by decide +kernel
theorem dX12_sums_119 : decode cX12_sums 119 = .ok (.aload_n 0, 1) := by decide +kernel
theorem dX12_sums_120 : decode cX12_sums 120 = .ok (.bipush 47, 2) := by decide +kernel
theorem dX12_sums_122 : decode cX12_sums 122 = .ok (.invokevirtual 298, 3) := by decide +kernel
theorem dX12_sums_125 : decode cX12_sums 125 = .ok (.ifCond .eq 7, 3) := by decide +kernel
theorem dX12_sums_128 : decode cX12_sums 128 = .ok (.iconst 5, 1) := by decide +kernel
theorem dX12_sums_129 : decode cX12_sums 129 = .ok (.goto 4, 3) := by decide +kernel
theorem dX12_sums_132 : decode cX12_sums 132 = .ok (.iconst 0, 1) := by decide +kernel
theorem dX12_sums_25 : decode cX12_sums 25 = .ok (.iconst 2, 1) := by decide +kernel
theorem dX12_atom_0 : decode cX12_atom 0 = .ok (.aload_n 0, 1) := by decide +kernel
theorem dX12_atom_1 : decode cX12_atom 1 = .ok (.getfield 94, 3) := by decide +kernel
theorem dX12_atom_4 : decode cX12_atom 4 = .ok (.iload_n 1, 1) := by decide +kernel
theorem dX12_atom_5 : decode cX12_atom 5 = .ok (.iaload, 1) := by decide +kernel
theorem dX12_atom_6 : decode cX12_atom 6 = .ok (.ifCond .ne 192, 3) := by decide +kernel
theorem dX12_atom_198 : decode cX12_atom 198 = .ok (.aload_n 0, 1) := by decide +kernel
theorem dX12_atom_199 : decode cX12_atom 199 = .ok (.getfield 94, 3) := by decide +kernel
theorem dX12_atom_202 : decode cX12_atom 202 = .ok (.iload_n 1, 1) := by decide +kernel
theorem dX12_atom_203 : decode cX12_atom 203 = .ok (.iaload, 1) := by decide +kernel
theorem dX12_atom_204 : decode cX12_atom 204 = .ok (.iconst 2, 1) := by decide +kernel
theorem dX12_atom_205 : decode cX12_atom 205 = .ok (.if_icmp .ne 41, 3) := by decide +kernel
theorem dX12_atom_246 : decode cX12_atom 246 = .ok (.aload_n 0, 1) := by decide +kernel
theorem dX12_atom_247 : decode cX12_atom 247 = .ok (.bipush 41, 2) := by decide +kernel
set_option maxRecDepth 20000 in
theorem ggX12_atom_X12_must : GoodIn wsX12_atom wsX12_must := goodIn_sub (fa_c (me_s (me_l (me_r (me_r (me_r (List.mem_of_getElem? (i := 3) rfl)))))) (fa_a (fa_a (fa_c (me_s (me_l (me_r (me_r (me_l (List.mem_of_getElem? (i := 2) rfl)))))) (fa_c (me_s (me_l (me_r (me_r (me_l (List.mem_of_getElem? (i := 3) rfl)))))) (fa_c (me_s (me_l (me_r (me_r (me_l (List.mem_of_getElem? (i := 4) rfl)))))) (fa_c (me_s (me_l (me_l (List.mem_of_getElem? (i := 14) rfl)))) (fa_c (me_s (me_l (me_r (me_r (me_l (List.mem_of_getElem? (i := 5) rfl)))))) (fa_c (me_s (me_l (me_l (List.mem_of_getElem? (i := 1) rfl)))) (fa_c (me_s (me_l (me_l (List.mem_of_getElem? (i := 19) rfl)))) (fa_c (me_s (me_l (me_l (List.mem_of_getElem? (i := 11) rfl)))) (fa_c (me_s (me_l (me_l (List.mem_of_getElem? (i := 12) rfl)))) (fa_c (me_s (me_l (me_l (List.mem_of_getElem? (i := 13) rfl)))) (fa_c (me_s (me_l (me_l (List.mem_of_getElem? (i := 15) rfl)))) (fa_c (me_s (me_l (me_l (List.mem_of_getElem? (i := 16) rfl)))) (fa_c (me_s (me_l (me_l (List.mem_of_getElem? (i := 17) rfl)))) (fa_c (me_s (me_l (me_l (List.mem_of_getElem? (i := 18) rfl)))) (fa_c (me_s (me_l (me_l (List.mem_of_getElem? (i := 7) rfl)))) (fa_c (me_s (me_l (me_l (List.mem_of_getElem? (i := 2) rfl)))) (fa_c (me_s (me_l (me_l (List.mem_of_getElem? (i := 20) rfl)))) (fa_c (me_s (me_l (me_l (List.mem_of_getElem? (i := 21) rfl)))) (fa_c (me_s (me_l (me_l (List.mem_of_getElem? (i := 22) rfl)))) (fa_c (me_s (me_l (me_l (List.mem_of_getElem? (i := 23) rfl)))) (fa_c (me_s (me_l (me_r (me_l (List.mem_of_getElem? (i := 0) rfl))))) (fa_c (me_s (me_l (me_r (me_l (List.mem_of_getElem? (i := 1) rfl))))) (fa_c (me_s (me_l (me_r (me_l (List.mem_of_getElem? (i := 2) rfl))))) (fa_c (me_s (me_l (me_r (me_l (List.mem_of_getElem? (i := 3) rfl))))) fa_n)))))))))))))))))))))))) (fa_c (me_s (me_l (me_r (me_l (List.mem_of_getElem? (i := 4) rfl))))) (fa_c (me_s (me_l (me_r (me_l (List.mem_of_getElem? (i := 5) rfl))))) (fa_c (me_s (me_l (me_r (me_l (List.mem_of_getElem? (i := 6) rfl))))) (fa_c (me_s (me_l (me_r (me_l (List.mem_of_getElem? (i := 7) rfl))))) (fa_c (me_s (me_l (me_r (me_l (List.mem_of_getElem? (i := 8) rfl))))) (fa_c (me_s (me_l (me_r (me_l (List.mem_of_getElem? (i := 9) rfl))))) (fa_c (me_s (me_l (me_r (me_l (List.mem_of_getElem? (i := 10) rfl))))) (fa_c (me_s (me_l (me_r (me_l (List.mem_of_getElem? (i := 11) rfl))))) (fa_c (me_s (me_l (me_r (me_l (List.mem_of_getElem? (i := 12) rfl))))) (fa_c (me_s (me_l (me_r (me_r (me_l (List.mem_of_getElem? (i := 10) rfl)))))) (fa_c (me_s (me_l (me_r (me_r (me_l (List.mem_of_getElem? (i := 11) rfl)))))) (fa_c (me_s (me_l (me_r (me_r (me_l (List.mem_of_getElem? (i := 12) rfl)))))) (fa_c (me_s (me_l (me_r (me_r (me_l (List.mem_of_getElem? (i := 13) rfl)))))) (fa_c (me_s (me_l (me_l (List.mem_of_getElem? (i := 6) rfl)))) (fa_c (me_s (me_l (me_r (me_r (me_l (List.mem_of_getElem? (i := 14) rfl)))))) fa_n)))))))))))))))) (fun w h => (me_s (me_r h))))) (by decide +kernel)
set_option maxRecDepth 20000 in
theorem gX12_atom_X12_must : GoodIn wsX12_atom (wsV RX12 383 RX12 yX12_must wsX12_must) := goodIn_app (goodIn_sub (fa_c (me_s (me_l (me_r (me_r (me_r (List.mem_of_getElem? (i := 0) rfl)))))) (fa_c (me_s (me_l (me_r (me_r (me_r (List.mem_of_getElem? (i := 1) rfl)))))) (fa_c (me_s (me_l (me_r (me_r (me_r (List.mem_of_getElem? (i := 2) rfl)))))) (fa_c (me_s (me_l (me_l (List.mem_of_getElem? (i := 14) rfl)))) fa_n)))) (by decide +kernel)) ggX12_atom_X12_must
theorem dX12_atom_249 : decode cX12_atom 249 = .ok (.invokevirtual 383, 3) := by decide +kernel
theorem dX12_atom_252 : decode cX12_atom 252 = .ok (.aload_n 0, 1) := by decide +kernel
theorem dX12_atom_253 : decode cX12_atom 253 = .ok (.dup, 1) := by decide +kernel
theorem dX12_atom_254 : decode cX12_atom 254 = .ok (.getfield 346, 3) := by decide +kernel
theorem dX12_atom_257 : decode cX12_atom 257 = .ok (.iconst 1, 1) := by decide +kernel
theorem dX12_atom_258 : decode cX12_atom 258 = .ok (.isub, 1) := by decide +kernel
theorem dX12_atom_259 : decode cX12_atom 259 = .ok (.putfield 346, 3) := by decide +kernel
theorem dX12_atom_262 : decode cX12_atom 262 = .ok (.aload_n 0, 1) := by decide +kernel
theorem dX12_atom_263 : decode cX12_atom 263 = .ok (.getfield 294, 3) := by decide +kernel
theorem dX12_atom_266 : decode cX12_atom 266 = .ok (.ifCond .eq 4, 3) := by decide +kernel
theorem dX12_atom_270 : decode cX12_atom 270 = .ok (.aload_n 0, 1) := by decide +kernel
theorem dX12_atom_271 : decode cX12_atom 271 = .ok (.aload_n 0, 1) := by decide +kernel
theorem dX12_atom_272 : decode cX12_atom 272 = .ok (.getfield 94, 3) := by decide +kernel
theorem dX12_atom_275 : decode cX12_atom 275 = .ok (.iload_n 1, 1) := by decide +kernel
theorem dX12_atom_276 : decode cX12_atom 276 = .ok (.iaload, 1) := by decide +kernel
theorem dX12_atom_277 : decode cX12_atom 277 = .ok (.iconst 1, 1) := by decide +kernel
theorem dX12_atom_278 : decode cX12_atom 278 = .ok (.if_icmp .ne 10, 3) := by decide +kernel
theorem dX12_atom_288 : decode cX12_atom 288 = .ok (.aload_n 0, 1) := by decide +kernel
theorem dX12_atom_289 : decode cX12_atom 289 = .ok (.aload_n 0, 1) := by decide +kernel
theorem dX12_atom_290 : decode cX12_atom 290 = .ok (.getfield 100, 3) := by decide +kernel
theorem dX12_atom_293 : decode cX12_atom 293 = .ok (.iload_n 1, 1) := by decide +kernel
theorem dX12_atom_294 : decode cX12_atom 294 = .ok (.iaload, 1) := by decide +kernel
theorem dX12_atom_295 : decode cX12_atom 295 = .ok (.aload_n 0, 1) := by decide +kernel
theorem dX12_atom_296 : decode cX12_atom 296 = .ok (.getfield 97, 3) := by decide +kernel
theorem dX12_atom_299 : decode cX12_atom 299 = .ok (.iload_n 1, 1) := by decide +kernel
theorem dX12_atom_300 : decode cX12_atom 300 = .ok (.iaload, 1) := by decide +kernel
theorem dX12_atom_301 : decode cX12_atom 301 = .ok (.aload_n 0, 1) := by decide +kernel
theorem dX12_atom_302 : decode cX12_atom 302 = .ok (.getfield 343, 3) := by decide +kernel
set_option maxRecDepth 20000 in
theorem ggX12_atom_X12_node : GoodIn wsX12_atom wsX12_node := goodIn_sub (fa_c (me_s (me_l (me_r (me_l (List.mem_of_getElem? (i := 16) rfl))))) (fa_a (fa_c (me_s (me_l (me_r (me_l (List.mem_of_getElem? (i := 17) rfl))))) (fa_c (me_s (me_l (me_r (me_l (List.mem_of_getElem? (i := 18) rfl))))) (fa_c (me_s (me_l (me_r (me_l (List.mem_of_getElem? (i := 19) rfl))))) (fa_c (me_s (me_l (me_r (me_l (List.mem_of_getElem? (i := 20) rfl))))) fa_n)))) (fun w h => (me_s (me_r h))))) (by decide +kernel)
set_option maxRecDepth 20000 in
theorem gX12_atom_X12_node : GoodIn wsX12_atom (wsV RX12 366 RX12 yX12_node wsX12_node) := goodIn_app (goodIn_sub (fa_c (me_s (me_l (me_r (me_l (List.mem_of_getElem? (i := 13) rfl))))) (fa_c (me_s (me_l (me_r (me_l (List.mem_of_getElem? (i := 14) rfl))))) (fa_c (me_s (me_l (me_r (me_l (List.mem_of_getElem? (i := 15) rfl))))) (fa_c (me_s (me_l (me_l (List.mem_of_getElem? (i := 14) rfl)))) fa_n)))) (by decide +kernel)) ggX12_atom_X12_node
theorem dX12_atom_305 : decode cX12_atom 305 = .ok (.invokevirtual 366, 3) := by decide +kernel
set_option maxRecDepth 20000 in
theorem ggX12_atom_X12_ends : GoodIn wsX12_atom wsX12_ends := goodIn_sub (fa_c (me_s (me_l (me_r (me_r (me_l (List.mem_of_getElem? (i := 0) rfl)))))) (fa_a (fa_c (me_s (me_l (me_l (List.mem_of_getElem? (i := 9) rfl)))) (fa_c (me_s (me_l (me_r (me_r (me_l (List.mem_of_getElem? (i := 1) rfl)))))) fa_n)) (fun w h => (me_s (me_r h))))) (by decide +kernel)
set_option maxRecDepth 20000 in
theorem gX12_atom_X12_ends : GoodIn wsX12_atom (wsV RX12 369 RX12 yX12_ends wsX12_ends) := goodIn_app (goodIn_sub (fa_c (me_s (me_l (me_r (me_l (List.mem_of_getElem? (i := 21) rfl))))) (fa_c (me_s (me_l (me_r (me_l (List.mem_of_getElem? (i := 22) rfl))))) (fa_c (me_s (me_l (me_r (me_l (List.mem_of_getElem? (i := 23) rfl))))) (fa_c (me_s (me_l (me_l (List.mem_of_getElem? (i := 14) rfl)))) fa_n)))) (by decide +kernel)) ggX12_atom_X12_ends
theorem dX12_atom_308 : decode cX12_atom 308 = .ok (.invokevirtual 369, 3) := by decide +kernel
theorem dX12_atom_311 : decode cX12_atom 311 = .ok (.return_, 1) := by decide +kernel
theorem dX12_atom_281 : decode cX12_atom 281 = .ok (.aload_n 0, 1) := by decide +kernel
theorem dX12_atom_282 : decode cX12_atom 282 = .ok (.getfield 343, 3) := by decide +kernel
theorem dX12_atom_285 : decode cX12_atom 285 = .ok (.goto 23, 3) := by decide +kernel
theorem dX12_atom_269 : decode cX12_atom 269 = .ok (.return_, 1) := by decide +kernel
theorem dX12_atom_208 : decode cX12_atom 208 = .ok (.aload_n 0, 1) := by decide +kernel
theorem dX12_atom_209 : decode cX12_atom 209 = .ok (.getfield 97, 3) := by decide +kernel
theorem dX12_atom_212 : decode cX12_atom 212 = .ok (.iload_n 1, 1) := by decide +kernel
theorem dX12_atom_213 : decode cX12_atom 213 = .ok (.aload_n 0, 1) := by decide +kernel
theorem dX12_atom_214 : decode cX12_atom 214 = .ok (.getfield 343, 3) := by decide +kernel
theorem dX12_atom_217 : decode cX12_atom 217 = .ok (.iastore, 1) := by decide +kernel
theorem dX12_atom_218 : decode cX12_atom 218 = .ok (.aload_n 0, 1) := by decide +kernel
theorem dX12_atom_219 : decode cX12_atom 219 = .ok (.bipush 44, 2) := by decide +kernel
theorem dX12_atom_221 : decode cX12_atom 221 = .ok (.invokevirtual 383, 3) := by decide +kernel
theorem dX12_atom_224 : decode cX12_atom 224 = .ok (.aload_n 0, 1) := by decide +kernel
theorem dX12_atom_225 : decode cX12_atom 225 = .ok (.getfield 94, 3) := by decide +kernel
theorem dX12_atom_228 : decode cX12_atom 228 = .ok (.iload_n 1, 1) := by decide +kernel
theorem dX12_atom_229 : decode cX12_atom 229 = .ok (.iconst 3, 1) := by decide +kernel
theorem dX12_atom_230 : decode cX12_atom 230 = .ok (.iastore, 1) := by decide +kernel
theorem dX12_atom_231 : decode cX12_atom 231 = .ok (.aload_n 0, 1) := by decide +kernel
theorem dX12_atom_232 : decode cX12_atom 232 = .ok (.getfield 294, 3) := by decide +kernel
theorem dX12_atom_235 : decode cX12_atom 235 = .ok (.ifCond .ne 76, 3) := by decide +kernel
theorem dX12_atom_238 : decode cX12_atom 238 = .ok (.aload_n 0, 1) := by decide +kernel
theorem dX12_atom_239 : decode cX12_atom 239 = .ok (.iconst 0, 1) := by decide +kernel
set_option maxRecDepth 20000 in
theorem ggX12_atom_X12_begin : GoodIn wsX12_atom wsX12_begin := goodIn_sub (fa_c (me_s (me_l (me_r (me_r (me_l (List.mem_of_getElem? (i := 18) rfl)))))) (fa_a (fa_c (me_s (me_l (me_r (me_r (me_l (List.mem_of_getElem? (i := 19) rfl)))))) (fa_c (me_s (me_l (me_r (me_r (me_l (List.mem_of_getElem? (i := 1) rfl)))))) (fa_c (me_s (me_l (me_l (List.mem_of_getElem? (i := 0) rfl)))) (fa_c (me_s (me_l (me_l (List.mem_of_getElem? (i := 8) rfl)))) (fa_c (me_s (me_l (me_l (List.mem_of_getElem? (i := 5) rfl)))) fa_n))))) (fun w h => (me_s (me_r h))))) (by decide +kernel)
set_option maxRecDepth 20000 in
theorem gX12_atom_X12_begin : GoodIn wsX12_atom (wsV RX12 349 RX12 yX12_begin wsX12_begin) := goodIn_app (goodIn_sub (fa_c (me_s (me_l (me_r (me_r (me_l (List.mem_of_getElem? (i := 15) rfl)))))) (fa_c (me_s (me_l (me_r (me_r (me_l (List.mem_of_getElem? (i := 16) rfl)))))) (fa_c (me_s (me_l (me_r (me_r (me_l (List.mem_of_getElem? (i := 17) rfl)))))) (fa_c (me_s (me_l (me_l (List.mem_of_getElem? (i := 14) rfl)))) fa_n)))) (by decide +kernel)) ggX12_atom_X12_begin
theorem dX12_atom_240 : decode cX12_atom 240 = .ok (.invokevirtual 349, 3) := by decide +kernel
theorem dX12_atom_243 : decode cX12_atom 243 = .ok (.goto 68, 3) := by decide +kernel
theorem dX12_atom_9 : decode cX12_atom 9 = .ok (.aload_n 0, 1) := by decide +kernel
theorem dX12_atom_10 : decode cX12_atom 10 = .ok (.getfield 281, 3) := by decide +kernel
theorem dX12_atom_13 : decode cX12_atom 13 = .ok (.iconst 2, 1) := by decide +kernel
theorem dX12_atom_14 : decode cX12_atom 14 = .ok (.if_icmp .ne 26, 3) := by decide +kernel
theorem dX12_atom_40 : decode cX12_atom 40 = .ok (.aload_n 0, 1) := by decide +kernel
theorem dX12_atom_41 : decode cX12_atom 41 = .ok (.bipush 40, 2) := by decide +kernel
set_option maxRecDepth 20000 in
theorem ggX12_atom_X12_isSign : GoodIn wsX12_atom wsX12_isSign := goodIn_sub (fa_c (me_s (me_l (me_r (me_r (me_l (List.mem_of_getElem? (i := 5) rfl)))))) (fa_a (fa_c (me_s (me_l (me_l (List.mem_of_getElem? (i := 1) rfl)))) (fa_c (me_s (me_l (me_l (List.mem_of_getElem? (i := 19) rfl)))) fa_n)) (fun w h => (me_s (me_r h))))) (by decide +kernel)
set_option maxRecDepth 20000 in
theorem gX12_atom_X12_isSign : GoodIn wsX12_atom (wsV RX12 298 RX12 yX12_isSign wsX12_isSign) := goodIn_app (goodIn_sub (fa_c (me_s (me_l (me_r (me_r (me_l (List.mem_of_getElem? (i := 2) rfl)))))) (fa_c (me_s (me_l (me_r (me_r (me_l (List.mem_of_getElem? (i := 3) rfl)))))) (fa_c (me_s (me_l (me_r (me_r (me_l (List.mem_of_getElem? (i := 4) rfl)))))) (fa_c (me_s (me_l (me_l (List.mem_of_getElem? (i := 14) rfl)))) fa_n)))) (by decide +kernel)) ggX12_atom_X12_isSign
theorem dX12_atom_43 : decode cX12_atom 43 = .ok (.invokevirtual 298, 3) := by decide +kernel
theorem dX12_atom_46 : decode cX12_atom 46 = .ok (.ifCond .eq 22, 3) := by decide +kernel
theorem dX12_atom_49 : decode cX12_atom 49 = .ok (.aload_n 0, 1) := by decide +kernel
set_option maxRecDepth 20000 in
theorem ggX12_atom_X12_opens : GoodIn wsX12_atom wsX12_opens := goodIn_sub (fa_c (me_s (me_l (me_r (me_r (me_l (List.mem_of_getElem? (i := 9) rfl)))))) (fa_a (fa_a (fa_c (me_s (me_l (me_l (List.mem_of_getElem? (i := 10) rfl)))) (fa_c (me_s (me_l (me_r (me_r (me_l (List.mem_of_getElem? (i := 10) rfl)))))) (fa_c (me_s (me_l (me_r (me_r (me_l (List.mem_of_getElem? (i := 11) rfl)))))) (fa_c (me_s (me_l (me_r (me_r (me_l (List.mem_of_getElem? (i := 12) rfl)))))) (fa_c (me_s (me_l (me_l (List.mem_of_getElem? (i := 14) rfl)))) (fa_c (me_s (me_l (me_r (me_r (me_l (List.mem_of_getElem? (i := 13) rfl)))))) (fa_c (me_s (me_l (me_l (List.mem_of_getElem? (i := 6) rfl)))) (fa_c (me_s (me_l (me_l (List.mem_of_getElem? (i := 17) rfl)))) (fa_c (me_s (me_l (me_r (me_r (me_l (List.mem_of_getElem? (i := 14) rfl)))))) (fa_c (me_s (me_l (me_l (List.mem_of_getElem? (i := 11) rfl)))) (fa_c (me_s (me_l (me_l (List.mem_of_getElem? (i := 12) rfl)))) (fa_c (me_s (me_l (me_l (List.mem_of_getElem? (i := 13) rfl)))) (fa_c (me_s (me_l (me_l (List.mem_of_getElem? (i := 15) rfl)))) (fa_c (me_s (me_l (me_l (List.mem_of_getElem? (i := 16) rfl)))) (fa_c (me_s (me_l (me_l (List.mem_of_getElem? (i := 18) rfl)))) (fa_c (me_s (me_l (me_l (List.mem_of_getElem? (i := 7) rfl)))) (fa_c (me_s (me_l (me_l (List.mem_of_getElem? (i := 19) rfl)))) (fa_c (me_s (me_l (me_l (List.mem_of_getElem? (i := 2) rfl)))) (fa_c (me_s (me_l (me_l (List.mem_of_getElem? (i := 1) rfl)))) (fa_c (me_s (me_l (me_l (List.mem_of_getElem? (i := 20) rfl)))) (fa_c (me_s (me_l (me_l (List.mem_of_getElem? (i := 21) rfl)))) (fa_c (me_s (me_l (me_l (List.mem_of_getElem? (i := 22) rfl)))) (fa_c (me_s (me_l (me_l (List.mem_of_getElem? (i := 23) rfl)))) (fa_c (me_s (me_l (me_r (me_l (List.mem_of_getElem? (i := 0) rfl))))) fa_n)))))))))))))))))))))))) (fa_c (me_s (me_l (me_r (me_l (List.mem_of_getElem? (i := 1) rfl))))) (fa_c (me_s (me_l (me_r (me_l (List.mem_of_getElem? (i := 2) rfl))))) (fa_c (me_s (me_l (me_r (me_l (List.mem_of_getElem? (i := 3) rfl))))) (fa_c (me_s (me_l (me_r (me_l (List.mem_of_getElem? (i := 4) rfl))))) (fa_c (me_s (me_l (me_r (me_l (List.mem_of_getElem? (i := 5) rfl))))) (fa_c (me_s (me_l (me_r (me_l (List.mem_of_getElem? (i := 6) rfl))))) (fa_c (me_s (me_l (me_r (me_l (List.mem_of_getElem? (i := 7) rfl))))) (fa_c (me_s (me_l (me_r (me_l (List.mem_of_getElem? (i := 8) rfl))))) (fa_c (me_s (me_l (me_r (me_l (List.mem_of_getElem? (i := 9) rfl))))) (fa_c (me_s (me_l (me_r (me_l (List.mem_of_getElem? (i := 10) rfl))))) (fa_c (me_s (me_l (me_r (me_l (List.mem_of_getElem? (i := 11) rfl))))) (fa_c (me_s (me_l (me_r (me_l (List.mem_of_getElem? (i := 12) rfl))))) fa_n))))))))))))) (fun w h => (me_s (me_r h))))) (by decide +kernel)
set_option maxRecDepth 20000 in
theorem gX12_atom_X12_opens : GoodIn wsX12_atom (wsV RX12 372 RX12 yX12_opens wsX12_opens) := goodIn_app (goodIn_sub (fa_c (me_s (me_l (me_r (me_r (me_l (List.mem_of_getElem? (i := 6) rfl)))))) (fa_c (me_s (me_l (me_r (me_r (me_l (List.mem_of_getElem? (i := 7) rfl)))))) (fa_c (me_s (me_l (me_r (me_r (me_l (List.mem_of_getElem? (i := 8) rfl)))))) (fa_c (me_s (me_l (me_l (List.mem_of_getElem? (i := 14) rfl)))) fa_n)))) (by decide +kernel)) ggX12_atom_X12_opens
theorem dX12_atom_50 : decode cX12_atom 50 = .ok (.invokevirtual 372, 3) := by decide +kernel
theorem dX12_atom_53 : decode cX12_atom 53 = .ok (.aload_n 0, 1) := by decide +kernel
theorem dX12_atom_54 : decode cX12_atom 54 = .ok (.getfield 94, 3) := by decide +kernel
theorem dX12_atom_57 : decode cX12_atom 57 = .ok (.iload_n 1, 1) := by decide +kernel
theorem dX12_atom_58 : decode cX12_atom 58 = .ok (.iconst 1, 1) := by decide +kernel
theorem dX12_atom_59 : decode cX12_atom 59 = .ok (.iastore, 1) := by decide +kernel
theorem dX12_atom_60 : decode cX12_atom 60 = .ok (.aload_n 0, 1) := by decide +kernel
theorem dX12_atom_61 : decode cX12_atom 61 = .ok (.iconst 0, 1) := by decide +kernel
theorem dX12_atom_62 : decode cX12_atom 62 = .ok (.invokevirtual 349, 3) := by decide +kernel
theorem dX12_atom_65 : decode cX12_atom 65 = .ok (.goto 246, 3) := by decide +kernel
theorem dX12_atom_68 : decode cX12_atom 68 = .ok (.aload_n 0, 1) := by decide +kernel
theorem dX12_atom_69 : decode cX12_atom 69 = .ok (.ldc2_w 375, 3) := by decide +kernel
set_option maxRecDepth 20000 in
theorem ggX12_atom_X12_isWord : GoodIn wsX12_atom wsX12_isWord := goodIn_sub (fa_c (me_s (me_l (me_r (me_r (me_l (List.mem_of_getElem? (i := 23) rfl)))))) (fa_a (fa_c (me_s (me_l (me_l (List.mem_of_getElem? (i := 1) rfl)))) (fa_c (me_s (me_l (me_l (List.mem_of_getElem? (i := 7) rfl)))) fa_n)) (fun w h => (me_s (me_r h))))) (by decide +kernel)
set_option maxRecDepth 20000 in
theorem gX12_atom_X12_isWord : GoodIn wsX12_atom (wsV RX12 377 RX12 yX12_isWord wsX12_isWord) := goodIn_app (goodIn_sub (fa_c (me_s (me_l (me_r (me_r (me_l (List.mem_of_getElem? (i := 20) rfl)))))) (fa_c (me_s (me_l (me_r (me_r (me_l (List.mem_of_getElem? (i := 21) rfl)))))) (fa_c (me_s (me_l (me_r (me_r (me_l (List.mem_of_getElem? (i := 22) rfl)))))) (fa_c (me_s (me_l (me_l (List.mem_of_getElem? (i := 14) rfl)))) fa_n)))) (by decide +kernel)) ggX12_atom_X12_isWord
theorem dX12_atom_72 : decode cX12_atom 72 = .ok (.invokevirtual 377, 3) := by decide +kernel
theorem dX12_atom_75 : decode cX12_atom 75 = .ok (.ifCond .ne 13, 3) := by decide +kernel
theorem dX12_atom_88 : decode cX12_atom 88 = .ok (.aload_n 0, 1) := by decide +kernel
theorem dX12_atom_89 : decode cX12_atom 89 = .ok (.getfield 100, 3) := by decide +kernel
theorem dX12_atom_92 : decode cX12_atom 92 = .ok (.iload_n 1, 1) := by decide +kernel
theorem dX12_atom_93 : decode cX12_atom 93 = .ok (.aload_n 0, 1) := by decide +kernel
theorem dX12_atom_94 : decode cX12_atom 94 = .ok (.ldc2_w 375, 3) := by decide +kernel
theorem dX12_atom_97 : decode cX12_atom 97 = .ok (.invokevirtual 377, 3) := by decide +kernel
theorem dX12_atom_100 : decode cX12_atom 100 = .ok (.ifCond .eq 8, 3) := by decide +kernel
theorem dX12_atom_103 : decode cX12_atom 103 = .ok (.bipush 6, 2) := by decide +kernel
theorem dX12_atom_105 : decode cX12_atom 105 = .ok (.goto 5, 3) := by decide +kernel
theorem dX12_atom_110 : decode cX12_atom 110 = .ok (.iastore, 1) := by decide +kernel
theorem dX12_atom_111 : decode cX12_atom 111 = .ok (.aload_n 0, 1) := by decide +kernel
theorem dX12_atom_112 : decode cX12_atom 112 = .ok (.invokevirtual 372, 3) := by decide +kernel
theorem dX12_atom_115 : decode cX12_atom 115 = .ok (.aload_n 0, 1) := by decide +kernel
theorem dX12_atom_116 : decode cX12_atom 116 = .ok (.getfield 294, 3) := by decide +kernel
theorem dX12_atom_119 : decode cX12_atom 119 = .ok (.ifCond .ne 9, 3) := by decide +kernel
theorem dX12_atom_128 : decode cX12_atom 128 = .ok (.aload_n 0, 1) := by decide +kernel
theorem dX12_atom_129 : decode cX12_atom 129 = .ok (.getfield 94, 3) := by decide +kernel
theorem dX12_atom_132 : decode cX12_atom 132 = .ok (.iload_n 1, 1) := by decide +kernel
theorem dX12_atom_133 : decode cX12_atom 133 = .ok (.iconst 2, 1) := by decide +kernel
theorem dX12_atom_134 : decode cX12_atom 134 = .ok (.iastore, 1) := by decide +kernel
theorem dX12_atom_135 : decode cX12_atom 135 = .ok (.aload_n 0, 1) := by decide +kernel
theorem dX12_atom_136 : decode cX12_atom 136 = .ok (.getfield 294, 3) := by decide +kernel
theorem dX12_atom_139 : decode cX12_atom 139 = .ok (.ifCond .ne 172, 3) := by decide +kernel
theorem dX12_atom_122 : decode cX12_atom 122 = .ok (.aload_n 0, 1) := by decide +kernel
theorem dX12_atom_123 : decode cX12_atom 123 = .ok (.bipush 40, 2) := by decide +kernel
theorem dX12_atom_125 : decode cX12_atom 125 = .ok (.invokevirtual 383, 3) := by decide +kernel
theorem dX12_atom_142 : decode cX12_atom 142 = .ok (.aload_n 0, 1) := by decide +kernel
theorem dX12_atom_143 : decode cX12_atom 143 = .ok (.iconst 0, 1) := by decide +kernel
theorem dX12_atom_144 : decode cX12_atom 144 = .ok (.invokevirtual 349, 3) := by decide +kernel
theorem dX12_atom_147 : decode cX12_atom 147 = .ok (.goto 164, 3) := by decide +kernel
theorem dX12_atom_108 : decode cX12_atom 108 = .ok (.bipush 7, 2) := by decide +kernel
theorem dX12_atom_78 : decode cX12_atom 78 = .ok (.aload_n 0, 1) := by decide +kernel
theorem dX12_atom_79 : decode cX12_atom 79 = .ok (.ldc2_w 381, 3) := by decide +kernel
theorem dX12_atom_82 : decode cX12_atom 82 = .ok (.invokevirtual 377, 3) := by decide +kernel
theorem dX12_atom_85 : decode cX12_atom 85 = .ok (.ifCond .eq 65, 3) := by decide +kernel
theorem dX12_atom_150 : decode cX12_atom 150 = .ok (.aload_n 0, 1) := by decide +kernel
theorem dX12_atom_151 : decode cX12_atom 151 = .ok (.getfield 281, 3) := by decide +kernel
theorem dX12_atom_154 : decode cX12_atom 154 = .ok (.iconst 1, 1) := by decide +kernel
theorem dX12_atom_155 : decode cX12_atom 155 = .ok (.if_icmp .ne 14, 3) := by decide +kernel
theorem dX12_atom_169 : decode cX12_atom 169 = .ok (.iconst (-1), 1) := by decide +kernel
theorem dX12_atom_170 : decode cX12_atom 170 = .ok (.istore_n 2, 1) := by decide +kernel
theorem dX12_atom_171 : decode cX12_atom 171 = .ok (.iload_n 2, 1) := by decide +kernel
theorem dX12_atom_172 : decode cX12_atom 172 = .ok (.ifCond .ge 8, 3) := by decide +kernel
theorem dX12_atom_175 : decode cX12_atom 175 = .ok (.aload_n 0, 1) := by decide +kernel
set_option maxRecDepth 20000 in
theorem ggX12_atom_X12_errs : GoodIn wsX12_atom wsX12_errs := goodIn_sub (fa_c (me_s (me_l (me_r (me_r (me_l (List.mem_of_getElem? (i := 13) rfl)))))) (fa_a (fa_c (me_s (me_l (me_l (List.mem_of_getElem? (i := 6) rfl)))) (fa_c (me_s (me_l (me_l (List.mem_of_getElem? (i := 17) rfl)))) (fa_c (me_s (me_l (me_r (me_r (me_l (List.mem_of_getElem? (i := 14) rfl)))))) fa_n))) (fun w h => (me_s (me_r h))))) (by decide +kernel)
set_option maxRecDepth 20000 in
theorem gX12_atom_X12_errs : GoodIn wsX12_atom (wsV RX12 304 RX12 yX12_errs wsX12_errs) := goodIn_app (goodIn_sub (fa_c (me_s (me_l (me_r (me_r (me_l (List.mem_of_getElem? (i := 10) rfl)))))) (fa_c (me_s (me_l (me_r (me_r (me_l (List.mem_of_getElem? (i := 11) rfl)))))) (fa_c (me_s (me_l (me_r (me_r (me_l (List.mem_of_getElem? (i := 12) rfl)))))) (fa_c (me_s (me_l (me_l (List.mem_of_getElem? (i := 14) rfl)))) fa_n)))) (by decide +kernel)) ggX12_atom_X12_errs
theorem dX12_atom_176 : decode cX12_atom 176 = .ok (.invokevirtual 304, 3) := by decide +kernel
theorem dX12_atom_179 : decode cX12_atom 179 = .ok (.return_, 1) := by decide +kernel
theorem dX12_atom_158 : decode cX12_atom 158 = .ok (.aload_n 0, 1) := by decide +kernel
theorem dX12_atom_159 : decode cX12_atom 159 = .ok (.aload_n 0, 1) := by decide +kernel
theorem dX12_atom_160 : decode cX12_atom 160 = .ok (.getfield 271, 3) := by decide +kernel
set_option maxRecDepth 20000 in
theorem ggX12_atom_X12_nameOf : GoodIn wsX12_atom wsX12_nameOf := goodIn_sub (fa_c (me_s (me_l (me_r (me_r (me_r (List.mem_of_getElem? (i := 7) rfl)))))) (fa_c (me_s (me_l (me_r (me_r (me_r (List.mem_of_getElem? (i := 8) rfl)))))) (fa_c (me_s (me_l (me_r (me_r (me_r (List.mem_of_getElem? (i := 9) rfl)))))) (fa_c (me_s (me_l (me_r (me_r (me_r (List.mem_of_getElem? (i := 10) rfl)))))) (fa_c (me_s (me_l (me_r (me_r (me_r (List.mem_of_getElem? (i := 11) rfl)))))) (fa_c (me_s (me_l (me_r (me_r (me_r (List.mem_of_getElem? (i := 12) rfl)))))) (fa_c (me_s (me_l (me_r (me_r (me_r (List.mem_of_getElem? (i := 13) rfl)))))) (fa_c (me_s (me_l (me_r (me_r (me_r (List.mem_of_getElem? (i := 14) rfl)))))) fa_n)))))))) (by decide +kernel)
set_option maxRecDepth 20000 in
theorem gX12_atom_X12_nameOf : GoodIn wsX12_atom (wsV RX12 386 RX12 yX12_nameOf wsX12_nameOf) := goodIn_app (goodIn_sub (fa_c (me_s (me_l (me_r (me_r (me_r (List.mem_of_getElem? (i := 4) rfl)))))) (fa_c (me_s (me_l (me_r (me_r (me_r (List.mem_of_getElem? (i := 5) rfl)))))) (fa_c (me_s (me_l (me_r (me_r (me_r (List.mem_of_getElem? (i := 6) rfl)))))) (fa_c (me_s (me_l (me_l (List.mem_of_getElem? (i := 14) rfl)))) fa_n)))) (by decide +kernel)) ggX12_atom_X12_nameOf
theorem dX12_atom_163 : decode cX12_atom 163 = .ok (.invokevirtual 386, 3) := by decide +kernel
theorem dX12_atom_166 : decode cX12_atom 166 = .ok (.goto 4, 3) := by decide +kernel
theorem dX12_atom_180 : decode cX12_atom 180 = .ok (.aload_n 0, 1) := by decide +kernel
set_option maxRecDepth 20000 in
theorem ggX12_atom_X12_next : GoodIn wsX12_atom wsX12_next := goodIn_sub (fa_c (me_s (me_l (me_l (List.mem_of_getElem? (i := 15) rfl)))) (fa_a (fa_a (fa_c (me_s (me_l (me_l (List.mem_of_getElem? (i := 16) rfl)))) (fa_c (me_s (me_l (me_l (List.mem_of_getElem? (i := 17) rfl)))) (fa_c (me_s (me_l (me_l (List.mem_of_getElem? (i := 18) rfl)))) (fa_c (me_s (me_l (me_l (List.mem_of_getElem? (i := 7) rfl)))) (fa_c (me_s (me_l (me_l (List.mem_of_getElem? (i := 19) rfl)))) (fa_c (me_s (me_l (me_l (List.mem_of_getElem? (i := 2) rfl)))) (fa_c (me_s (me_l (me_l (List.mem_of_getElem? (i := 1) rfl)))) (fa_c (me_s (me_l (me_l (List.mem_of_getElem? (i := 20) rfl)))) (fa_c (me_s (me_l (me_l (List.mem_of_getElem? (i := 21) rfl)))) (fa_c (me_s (me_l (me_l (List.mem_of_getElem? (i := 22) rfl)))) (fa_c (me_s (me_l (me_l (List.mem_of_getElem? (i := 23) rfl)))) (fa_c (me_s (me_l (me_r (me_l (List.mem_of_getElem? (i := 0) rfl))))) (fa_c (me_s (me_l (me_l (List.mem_of_getElem? (i := 14) rfl)))) (fa_c (me_s (me_l (me_r (me_l (List.mem_of_getElem? (i := 1) rfl))))) (fa_c (me_s (me_l (me_r (me_l (List.mem_of_getElem? (i := 2) rfl))))) (fa_c (me_s (me_l (me_r (me_l (List.mem_of_getElem? (i := 3) rfl))))) (fa_c (me_s (me_l (me_r (me_l (List.mem_of_getElem? (i := 4) rfl))))) (fa_c (me_s (me_l (me_r (me_l (List.mem_of_getElem? (i := 5) rfl))))) (fa_c (me_s (me_l (me_r (me_l (List.mem_of_getElem? (i := 6) rfl))))) (fa_c (me_s (me_l (me_r (me_l (List.mem_of_getElem? (i := 7) rfl))))) (fa_c (me_s (me_l (me_r (me_l (List.mem_of_getElem? (i := 8) rfl))))) (fa_c (me_s (me_l (me_r (me_l (List.mem_of_getElem? (i := 9) rfl))))) (fa_c (me_s (me_l (me_r (me_l (List.mem_of_getElem? (i := 10) rfl))))) (fa_c (me_s (me_l (me_r (me_l (List.mem_of_getElem? (i := 11) rfl))))) fa_n)))))))))))))))))))))))) (fa_c (me_s (me_l (me_r (me_l (List.mem_of_getElem? (i := 12) rfl))))) fa_n)) (fun w h => (me_s (me_r h))))) (by decide +kernel)
set_option maxRecDepth 20000 in
theorem gX12_atom_X12_next : GoodIn wsX12_atom (wsV RX12 301 RX12 yX12_next wsX12_next) := goodIn_app (goodIn_sub (fa_c (me_s (me_l (me_l (List.mem_of_getElem? (i := 11) rfl)))) (fa_c (me_s (me_l (me_l (List.mem_of_getElem? (i := 12) rfl)))) (fa_c (me_s (me_l (me_l (List.mem_of_getElem? (i := 13) rfl)))) (fa_c (me_s (me_l (me_l (List.mem_of_getElem? (i := 14) rfl)))) fa_n)))) (by decide +kernel)) ggX12_atom_X12_next
theorem dX12_atom_181 : decode cX12_atom 181 = .ok (.invokevirtual 301, 3) := by decide +kernel
theorem dX12_atom_184 : decode cX12_atom 184 = .ok (.aload_n 0, 1) := by decide +kernel
theorem dX12_atom_185 : decode cX12_atom 185 = .ok (.aload_n 0, 1) := by decide +kernel
theorem dX12_atom_186 : decode cX12_atom 186 = .ok (.iconst 1, 1) := by decide +kernel
theorem dX12_atom_187 : decode cX12_atom 187 = .ok (.iload_n 2, 1) := by decide +kernel
theorem dX12_atom_188 : decode cX12_atom 188 = .ok (.iconst 0, 1) := by decide +kernel
theorem dX12_atom_189 : decode cX12_atom 189 = .ok (.invokevirtual 366, 3) := by decide +kernel
theorem dX12_atom_192 : decode cX12_atom 192 = .ok (.invokevirtual 369, 3) := by decide +kernel
theorem dX12_atom_195 : decode cX12_atom 195 = .ok (.goto 116, 3) := by decide +kernel
theorem dX12_atom_17 : decode cX12_atom 17 = .ok (.aload_n 0, 1) := by decide +kernel
theorem dX12_atom_18 : decode cX12_atom 18 = .ok (.getfield 278, 3) := by decide +kernel
theorem dX12_atom_21 : decode cX12_atom 21 = .ok (.istore_n 2, 1) := by decide +kernel
theorem dX12_atom_22 : decode cX12_atom 22 = .ok (.aload_n 0, 1) := by decide +kernel
theorem dX12_atom_23 : decode cX12_atom 23 = .ok (.invokevirtual 301, 3) := by decide +kernel
theorem dX12_atom_26 : decode cX12_atom 26 = .ok (.aload_n 0, 1) := by decide +kernel
theorem dX12_atom_27 : decode cX12_atom 27 = .ok (.aload_n 0, 1) := by decide +kernel
theorem dX12_atom_28 : decode cX12_atom 28 = .ok (.iconst 0, 1) := by decide +kernel
theorem dX12_atom_29 : decode cX12_atom 29 = .ok (.iload_n 2, 1) := by decide +kernel
theorem dX12_atom_30 : decode cX12_atom 30 = .ok (.iconst 0, 1) := by decide +kernel
theorem dX12_atom_31 : decode cX12_atom 31 = .ok (.invokevirtual 366, 3) := by decide +kernel
theorem dX12_atom_34 : decode cX12_atom 34 = .ok (.invokevirtual 369, 3) := by decide +kernel
theorem dX12_atom_37 : decode cX12_atom 37 = .ok (.goto 274, 3) := by decide +kernel
theorem dX12_chain_0 : decode cX12_chain 0 = .ok (.aload_n 0, 1) := by decide +kernel
theorem dX12_chain_1 : decode cX12_chain 1 = .ok (.getfield 94, 3) := by decide +kernel
theorem dX12_chain_4 : decode cX12_chain 4 = .ok (.iload_n 1, 1) := by decide +kernel
theorem dX12_chain_5 : decode cX12_chain 5 = .ok (.iaload, 1) := by decide +kernel
theorem dX12_chain_6 : decode cX12_chain 6 = .ok (.ifCond .ne 24, 3) := by decide +kernel
theorem dX12_chain_30 : decode cX12_chain 30 = .ok (.aload_n 0, 1) := by decide +kernel
theorem dX12_chain_31 : decode cX12_chain 31 = .ok (.getfield 97, 3) := by decide +kernel
theorem dX12_chain_34 : decode cX12_chain 34 = .ok (.iload_n 1, 1) := by decide +kernel
theorem dX12_chain_35 : decode cX12_chain 35 = .ok (.aload_n 0, 1) := by decide +kernel
theorem dX12_chain_36 : decode cX12_chain 36 = .ok (.getfield 97, 3) := by decide +kernel
theorem dX12_chain_39 : decode cX12_chain 39 = .ok (.iload_n 1, 1) := by decide +kernel
theorem dX12_chain_40 : decode cX12_chain 40 = .ok (.iaload, 1) := by decide +kernel
theorem dX12_chain_41 : decode cX12_chain 41 = .ok (.ifCond .ge 10, 3) := by decide +kernel
theorem dX12_chain_51 : decode cX12_chain 51 = .ok (.aload_n 0, 1) := by decide +kernel
theorem dX12_chain_52 : decode cX12_chain 52 = .ok (.iload_n 2, 1) := by decide +kernel
theorem dX12_chain_53 : decode cX12_chain 53 = .ok (.ifCond .eq 8, 3) := by decide +kernel
theorem dX12_chain_56 : decode cX12_chain 56 = .ok (.bipush 13, 2) := by decide +kernel
theorem dX12_chain_58 : decode cX12_chain 58 = .ok (.goto 5, 3) := by decide +kernel
theorem dX12_chain_63 : decode cX12_chain 63 = .ok (.aload_n 0, 1) := by decide +kernel
theorem dX12_chain_64 : decode cX12_chain 64 = .ok (.getfield 97, 3) := by decide +kernel
theorem dX12_chain_67 : decode cX12_chain 67 = .ok (.iload_n 1, 1) := by decide +kernel
theorem dX12_chain_68 : decode cX12_chain 68 = .ok (.iaload, 1) := by decide +kernel
theorem dX12_chain_69 : decode cX12_chain 69 = .ok (.aload_n 0, 1) := by decide +kernel
theorem dX12_chain_70 : decode cX12_chain 70 = .ok (.getfield 343, 3) := by decide +kernel
set_option maxRecDepth 20000 in
theorem ggX12_chain_X12_node : GoodIn wsX12_chain wsX12_node := goodIn_sub (fa_c (me_s (me_l (me_l (List.mem_of_getElem? (i := 16) rfl)))) (fa_a (fa_c (me_s (me_l (me_l (List.mem_of_getElem? (i := 17) rfl)))) (fa_c (me_s (me_l (me_l (List.mem_of_getElem? (i := 18) rfl)))) (fa_c (me_s (me_l (me_l (List.mem_of_getElem? (i := 19) rfl)))) (fa_c (me_s (me_l (me_l (List.mem_of_getElem? (i := 20) rfl)))) fa_n)))) (fun w h => (me_s (me_r h))))) (by decide +kernel)
set_option maxRecDepth 20000 in
theorem gX12_chain_X12_node : GoodIn wsX12_chain (wsV RX12 366 RX12 yX12_node wsX12_node) := goodIn_app (goodIn_sub (fa_c (me_s (me_l (me_l (List.mem_of_getElem? (i := 13) rfl)))) (fa_c (me_s (me_l (me_l (List.mem_of_getElem? (i := 14) rfl)))) (fa_c (me_s (me_l (me_l (List.mem_of_getElem? (i := 15) rfl)))) (fa_c (me_s (me_l (me_l (List.mem_of_getElem? (i := 8) rfl)))) fa_n)))) (by decide +kernel)) ggX12_chain_X12_node
theorem dX12_chain_73 : decode cX12_chain 73 = .ok (.invokevirtual 366, 3) := by decide +kernel
theorem dX12_chain_76 : decode cX12_chain 76 = .ok (.iastore, 1) := by decide +kernel
theorem dX12_chain_77 : decode cX12_chain 77 = .ok (.aload_n 0, 1) := by decide +kernel
theorem dX12_chain_78 : decode cX12_chain 78 = .ok (.iload_n 2, 1) := by decide +kernel
theorem dX12_chain_79 : decode cX12_chain 79 = .ok (.ifCond .eq 9, 3) := by decide +kernel
theorem dX12_chain_82 : decode cX12_chain 82 = .ok (.ldc2_w 390, 3) := by decide +kernel
theorem dX12_chain_85 : decode cX12_chain 85 = .ok (.goto 6, 3) := by decide +kernel
set_option maxRecDepth 20000 in
theorem ggX12_chain_X12_isWord : GoodIn wsX12_chain wsX12_isWord := goodIn_sub (fa_c (me_s (me_l (me_r (me_l (List.mem_of_getElem? (i := 0) rfl))))) (fa_a (fa_c (me_s (me_l (me_r (me_l (List.mem_of_getElem? (i := 1) rfl))))) (fa_c (me_s (me_l (me_r (me_l (List.mem_of_getElem? (i := 2) rfl))))) fa_n)) (fun w h => (me_s (me_r h))))) (by decide +kernel)
set_option maxRecDepth 20000 in
theorem gX12_chain_X12_isWord : GoodIn wsX12_chain (wsV RX12 377 RX12 yX12_isWord wsX12_isWord) := goodIn_app (goodIn_sub (fa_c (me_s (me_l (me_l (List.mem_of_getElem? (i := 21) rfl)))) (fa_c (me_s (me_l (me_l (List.mem_of_getElem? (i := 22) rfl)))) (fa_c (me_s (me_l (me_l (List.mem_of_getElem? (i := 23) rfl)))) (fa_c (me_s (me_l (me_l (List.mem_of_getElem? (i := 8) rfl)))) fa_n)))) (by decide +kernel)) ggX12_chain_X12_isWord
theorem dX12_chain_91 : decode cX12_chain 91 = .ok (.invokevirtual 377, 3) := by decide +kernel
theorem dX12_chain_94 : decode cX12_chain 94 = .ok (.ifCond .eq 23, 3) := by decide +kernel
theorem dX12_chain_97 : decode cX12_chain 97 = .ok (.aload_n 0, 1) := by decide +kernel
set_option maxRecDepth 20000 in
theorem ggX12_chain_X12_next : GoodIn wsX12_chain wsX12_next := goodIn_sub (fa_c (me_s (me_l (me_r (me_l (List.mem_of_getElem? (i := 6) rfl))))) (fa_a (fa_a (fa_c (me_s (me_l (me_r (me_l (List.mem_of_getElem? (i := 7) rfl))))) (fa_c (me_s (me_l (me_r (me_l (List.mem_of_getElem? (i := 8) rfl))))) (fa_c (me_s (me_l (me_r (me_l (List.mem_of_getElem? (i := 9) rfl))))) (fa_c (me_s (me_l (me_r (me_l (List.mem_of_getElem? (i := 2) rfl))))) (fa_c (me_s (me_l (me_r (me_l (List.mem_of_getElem? (i := 10) rfl))))) (fa_c (me_s (me_l (me_r (me_l (List.mem_of_getElem? (i := 11) rfl))))) (fa_c (me_s (me_l (me_r (me_l (List.mem_of_getElem? (i := 1) rfl))))) (fa_c (me_s (me_l (me_r (me_l (List.mem_of_getElem? (i := 12) rfl))))) (fa_c (me_s (me_l (me_r (me_l (List.mem_of_getElem? (i := 13) rfl))))) (fa_c (me_s (me_l (me_r (me_l (List.mem_of_getElem? (i := 14) rfl))))) (fa_c (me_s (me_l (me_r (me_l (List.mem_of_getElem? (i := 15) rfl))))) (fa_c (me_s (me_l (me_r (me_l (List.mem_of_getElem? (i := 16) rfl))))) (fa_c (me_s (me_l (me_l (List.mem_of_getElem? (i := 8) rfl)))) (fa_c (me_s (me_l (me_r (me_l (List.mem_of_getElem? (i := 17) rfl))))) (fa_c (me_s (me_l (me_r (me_l (List.mem_of_getElem? (i := 18) rfl))))) (fa_c (me_s (me_l (me_r (me_l (List.mem_of_getElem? (i := 19) rfl))))) (fa_c (me_s (me_l (me_r (me_l (List.mem_of_getElem? (i := 20) rfl))))) (fa_c (me_s (me_l (me_r (me_l (List.mem_of_getElem? (i := 21) rfl))))) (fa_c (me_s (me_l (me_r (me_l (List.mem_of_getElem? (i := 22) rfl))))) (fa_c (me_s (me_l (me_r (me_l (List.mem_of_getElem? (i := 23) rfl))))) (fa_c (me_s (me_l (me_r (me_r (List.mem_of_getElem? (i := 0) rfl))))) (fa_c (me_s (me_l (me_r (me_r (List.mem_of_getElem? (i := 1) rfl))))) (fa_c (me_s (me_l (me_r (me_r (List.mem_of_getElem? (i := 2) rfl))))) (fa_c (me_s (me_l (me_r (me_r (List.mem_of_getElem? (i := 3) rfl))))) fa_n)))))))))))))))))))))))) (fa_c (me_s (me_l (me_r (me_r (List.mem_of_getElem? (i := 4) rfl))))) fa_n)) (fun w h => (me_s (me_r h))))) (by decide +kernel)
set_option maxRecDepth 20000 in
theorem gX12_chain_X12_next : GoodIn wsX12_chain (wsV RX12 301 RX12 yX12_next wsX12_next) := goodIn_app (goodIn_sub (fa_c (me_s (me_l (me_r (me_l (List.mem_of_getElem? (i := 3) rfl))))) (fa_c (me_s (me_l (me_r (me_l (List.mem_of_getElem? (i := 4) rfl))))) (fa_c (me_s (me_l (me_r (me_l (List.mem_of_getElem? (i := 5) rfl))))) (fa_c (me_s (me_l (me_l (List.mem_of_getElem? (i := 8) rfl)))) fa_n)))) (by decide +kernel)) ggX12_chain_X12_next
theorem dX12_chain_98 : decode cX12_chain 98 = .ok (.invokevirtual 301, 3) := by decide +kernel
theorem dX12_chain_101 : decode cX12_chain 101 = .ok (.aload_n 0, 1) := by decide +kernel
theorem dX12_chain_102 : decode cX12_chain 102 = .ok (.iload_n 2, 1) := by decide +kernel
theorem dX12_chain_103 : decode cX12_chain 103 = .ok (.ifCond .eq 7, 3) := by decide +kernel
theorem dX12_chain_106 : decode cX12_chain 106 = .ok (.iconst 4, 1) := by decide +kernel
theorem dX12_chain_107 : decode cX12_chain 107 = .ok (.goto 4, 3) := by decide +kernel
set_option maxRecDepth 20000 in
theorem ggX12_chain_X12_begin : GoodIn wsX12_chain wsX12_begin := goodIn_sub (fa_c (me_s (me_l (me_l (List.mem_of_getElem? (i := 9) rfl)))) (fa_a (fa_c (me_s (me_l (me_l (List.mem_of_getElem? (i := 10) rfl)))) (fa_c (me_s (me_l (me_l (List.mem_of_getElem? (i := 11) rfl)))) (fa_c (me_s (me_l (me_l (List.mem_of_getElem? (i := 0) rfl)))) (fa_c (me_s (me_l (me_l (List.mem_of_getElem? (i := 1) rfl)))) (fa_c (me_s (me_l (me_l (List.mem_of_getElem? (i := 12) rfl)))) fa_n))))) (fun w h => (me_s (me_r h))))) (by decide +kernel)
set_option maxRecDepth 20000 in
theorem gX12_chain_X12_begin : GoodIn wsX12_chain (wsV RX12 349 RX12 yX12_begin wsX12_begin) := goodIn_app (goodIn_sub (fa_c (me_s (me_l (me_l (List.mem_of_getElem? (i := 5) rfl)))) (fa_c (me_s (me_l (me_l (List.mem_of_getElem? (i := 6) rfl)))) (fa_c (me_s (me_l (me_l (List.mem_of_getElem? (i := 7) rfl)))) (fa_c (me_s (me_l (me_l (List.mem_of_getElem? (i := 8) rfl)))) fa_n)))) (by decide +kernel)) ggX12_chain_X12_begin
theorem dX12_chain_111 : decode cX12_chain 111 = .ok (.invokevirtual 349, 3) := by decide +kernel
theorem dX12_chain_114 : decode cX12_chain 114 = .ok (.goto 13, 3) := by decide +kernel
theorem dX12_chain_127 : decode cX12_chain 127 = .ok (.return_, 1) := by decide +kernel
theorem dX12_chain_117 : decode cX12_chain 117 = .ok (.aload_n 0, 1) := by decide +kernel
theorem dX12_chain_118 : decode cX12_chain 118 = .ok (.aload_n 0, 1) := by decide +kernel
theorem dX12_chain_119 : decode cX12_chain 119 = .ok (.getfield 97, 3) := by decide +kernel
theorem dX12_chain_122 : decode cX12_chain 122 = .ok (.iload_n 1, 1) := by decide +kernel
theorem dX12_chain_123 : decode cX12_chain 123 = .ok (.iaload, 1) := by decide +kernel
set_option maxRecDepth 20000 in
theorem ggX12_chain_X12_ends : GoodIn wsX12_chain wsX12_ends := goodIn_sub (fa_c (me_s (me_l (me_r (me_r (List.mem_of_getElem? (i := 8) rfl))))) (fa_a (fa_c (me_s (me_l (me_l (List.mem_of_getElem? (i := 2) rfl)))) (fa_c (me_s (me_l (me_l (List.mem_of_getElem? (i := 11) rfl)))) fa_n)) (fun w h => (me_s (me_r h))))) (by decide +kernel)
set_option maxRecDepth 20000 in
theorem gX12_chain_X12_ends : GoodIn wsX12_chain (wsV RX12 369 RX12 yX12_ends wsX12_ends) := goodIn_app (goodIn_sub (fa_c (me_s (me_l (me_r (me_r (List.mem_of_getElem? (i := 5) rfl))))) (fa_c (me_s (me_l (me_r (me_r (List.mem_of_getElem? (i := 6) rfl))))) (fa_c (me_s (me_l (me_r (me_r (List.mem_of_getElem? (i := 7) rfl))))) (fa_c (me_s (me_l (me_l (List.mem_of_getElem? (i := 8) rfl)))) fa_n)))) (by decide +kernel)) ggX12_chain_X12_ends
theorem dX12_chain_124 : decode cX12_chain 124 = .ok (.invokevirtual 369, 3) := by decide +kernel
theorem dX12_chain_44 : decode cX12_chain 44 = .ok (.aload_n 0, 1) := by decide +kernel
theorem dX12_chain_45 : decode cX12_chain 45 = .ok (.getfield 343, 3) := by decide +kernel
theorem dX12_chain_48 : decode cX12_chain 48 = .ok (.goto 28, 3) := by decide +kernel
theorem dX12_chain_9 : decode cX12_chain 9 = .ok (.aload_n 0, 1) := by decide +kernel
theorem dX12_chain_10 : decode cX12_chain 10 = .ok (.getfield 94, 3) := by decide +kernel
theorem dX12_chain_13 : decode cX12_chain 13 = .ok (.iload_n 1, 1) := by decide +kernel
theorem dX12_chain_14 : decode cX12_chain 14 = .ok (.iconst 1, 1) := by decide +kernel
theorem dX12_chain_15 : decode cX12_chain 15 = .ok (.iastore, 1) := by decide +kernel
theorem dX12_chain_16 : decode cX12_chain 16 = .ok (.aload_n 0, 1) := by decide +kernel
theorem dX12_chain_17 : decode cX12_chain 17 = .ok (.iload_n 2, 1) := by decide +kernel
theorem dX12_chain_18 : decode cX12_chain 18 = .ok (.ifCond .eq 7, 3) := by decide +kernel
theorem dX12_chain_21 : decode cX12_chain 21 = .ok (.iconst 4, 1) := by decide +kernel
theorem dX12_chain_22 : decode cX12_chain 22 = .ok (.goto 4, 3) := by decide +kernel
theorem dX12_chain_26 : decode cX12_chain 26 = .ok (.invokevirtual 349, 3) := by decide +kernel
theorem dX12_chain_29 : decode cX12_chain 29 = .ok (.return_, 1) := by decide +kernel
theorem dX12_chain_61 : decode cX12_chain 61 = .ok (.bipush 12, 2) := by decide +kernel
theorem dX12_chain_88 : decode cX12_chain 88 = .ok (.ldc2_w 392, 3) := by decide +kernel
theorem dX12_chain_110 : decode cX12_chain 110 = .ok (.iconst 5, 1) := by decide +kernel
theorem dX12_chain_25 : decode cX12_chain 25 = .ok (.iconst 5, 1) := by decide +kernel
theorem dX12_test_0 : decode cX12_test 0 = .ok (.aload_n 0, 1) := by decide +kernel
theorem dX12_test_1 : decode cX12_test 1 = .ok (.getfield 94, 3) := by decide +kernel
theorem dX12_test_4 : decode cX12_test 4 = .ok (.iload_n 1, 1) := by decide +kernel
theorem dX12_test_5 : decode cX12_test 5 = .ok (.iaload, 1) := by decide +kernel
theorem dX12_test_6 : decode cX12_test 6 = .ok (.ifCond .ne 75, 3) := by decide +kernel
theorem dX12_test_81 : decode cX12_test 81 = .ok (.aload_n 0, 1) := by decide +kernel
theorem dX12_test_82 : decode cX12_test 82 = .ok (.getfield 94, 3) := by decide +kernel
theorem dX12_test_85 : decode cX12_test 85 = .ok (.iload_n 1, 1) := by decide +kernel
theorem dX12_test_86 : decode cX12_test 86 = .ok (.iaload, 1) := by decide +kernel
theorem dX12_test_87 : decode cX12_test 87 = .ok (.iconst 1, 1) := by decide +kernel
theorem dX12_test_88 : decode cX12_test 88 = .ok (.if_icmp .ne 31, 3) := by decide +kernel
theorem dX12_test_119 : decode cX12_test 119 = .ok (.aload_n 0, 1) := by decide +kernel
theorem dX12_test_120 : decode cX12_test 120 = .ok (.getfield 94, 3) := by decide +kernel
theorem dX12_test_123 : decode cX12_test 123 = .ok (.iload_n 1, 1) := by decide +kernel
theorem dX12_test_124 : decode cX12_test 124 = .ok (.iaload, 1) := by decide +kernel
theorem dX12_test_125 : decode cX12_test 125 = .ok (.iconst 2, 1) := by decide +kernel
theorem dX12_test_126 : decode cX12_test 126 = .ok (.if_icmp .ne 37, 3) := by decide +kernel
theorem dX12_test_163 : decode cX12_test 163 = .ok (.aload_n 0, 1) := by decide +kernel
theorem dX12_test_164 : decode cX12_test 164 = .ok (.getfield 94, 3) := by decide +kernel
theorem dX12_test_167 : decode cX12_test 167 = .ok (.iload_n 1, 1) := by decide +kernel
theorem dX12_test_168 : decode cX12_test 168 = .ok (.iaload, 1) := by decide +kernel
theorem dX12_test_169 : decode cX12_test 169 = .ok (.iconst 3, 1) := by decide +kernel
theorem dX12_test_170 : decode cX12_test 170 = .ok (.if_icmp .ne 95, 3) := by decide +kernel
theorem dX12_test_265 : decode cX12_test 265 = .ok (.aload_n 0, 1) := by decide +kernel
theorem dX12_test_266 : decode cX12_test 266 = .ok (.aload_n 0, 1) := by decide +kernel
theorem dX12_test_267 : decode cX12_test 267 = .ok (.aload_n 0, 1) := by decide +kernel
theorem dX12_test_268 : decode cX12_test 268 = .ok (.getfield 100, 3) := by decide +kernel
theorem dX12_test_271 : decode cX12_test 271 = .ok (.iload_n 1, 1) := by decide +kernel
theorem dX12_test_272 : decode cX12_test 272 = .ok (.iaload, 1) := by decide +kernel
theorem dX12_test_273 : decode cX12_test 273 = .ok (.aload_n 0, 1) := by decide +kernel
theorem dX12_test_274 : decode cX12_test 274 = .ok (.getfield 97, 3) := by decide +kernel
theorem dX12_test_277 : decode cX12_test 277 = .ok (.iload_n 1, 1) := by decide +kernel
theorem dX12_test_278 : decode cX12_test 278 = .ok (.iaload, 1) := by decide +kernel
theorem dX12_test_279 : decode cX12_test 279 = .ok (.aload_n 0, 1) := by decide +kernel
theorem dX12_test_280 : decode cX12_test 280 = .ok (.getfield 343, 3) := by decide +kernel
set_option maxRecDepth 20000 in
theorem ggX12_test_X12_node : GoodIn wsX12_test wsX12_node := goodIn_sub (fa_c (me_s (me_l (me_r (me_r (me_l (List.mem_of_getElem? (i := 14) rfl)))))) (fa_a (fa_c (me_s (me_l (me_r (me_r (me_l (List.mem_of_getElem? (i := 15) rfl)))))) (fa_c (me_s (me_l (me_r (me_r (me_l (List.mem_of_getElem? (i := 16) rfl)))))) (fa_c (me_s (me_l (me_r (me_r (me_l (List.mem_of_getElem? (i := 17) rfl)))))) (fa_c (me_s (me_l (me_r (me_r (me_l (List.mem_of_getElem? (i := 18) rfl)))))) fa_n)))) (fun w h => (me_s (me_r h))))) (by decide +kernel)
set_option maxRecDepth 20000 in
theorem gX12_test_X12_node : GoodIn wsX12_test (wsV RX12 366 RX12 yX12_node wsX12_node) := goodIn_app (goodIn_sub (fa_c (me_s (me_l (me_r (me_r (me_l (List.mem_of_getElem? (i := 11) rfl)))))) (fa_c (me_s (me_l (me_r (me_r (me_l (List.mem_of_getElem? (i := 12) rfl)))))) (fa_c (me_s (me_l (me_r (me_r (me_l (List.mem_of_getElem? (i := 13) rfl)))))) (fa_c (me_s (me_l (me_l (List.mem_of_getElem? (i := 10) rfl)))) fa_n)))) (by decide +kernel)) ggX12_test_X12_node
theorem dX12_test_283 : decode cX12_test 283 = .ok (.invokevirtual 366, 3) := by decide +kernel
set_option maxRecDepth 20000 in
theorem ggX12_test_X12_ends : GoodIn wsX12_test wsX12_ends := goodIn_sub (fa_c (me_s (me_l (me_r (me_r (me_l (List.mem_of_getElem? (i := 22) rfl)))))) (fa_a (fa_c (me_s (me_l (me_l (List.mem_of_getElem? (i := 3) rfl)))) (fa_c (me_s (me_l (me_r (me_r (me_l (List.mem_of_getElem? (i := 6) rfl)))))) fa_n)) (fun w h => (me_s (me_r h))))) (by decide +kernel)
set_option maxRecDepth 20000 in
theorem gX12_test_X12_ends : GoodIn wsX12_test (wsV RX12 369 RX12 yX12_ends wsX12_ends) := goodIn_app (goodIn_sub (fa_c (me_s (me_l (me_r (me_r (me_l (List.mem_of_getElem? (i := 19) rfl)))))) (fa_c (me_s (me_l (me_r (me_r (me_l (List.mem_of_getElem? (i := 20) rfl)))))) (fa_c (me_s (me_l (me_r (me_r (me_l (List.mem_of_getElem? (i := 21) rfl)))))) (fa_c (me_s (me_l (me_l (List.mem_of_getElem? (i := 10) rfl)))) fa_n)))) (by decide +kernel)) ggX12_test_X12_ends
theorem dX12_test_286 : decode cX12_test 286 = .ok (.invokevirtual 369, 3) := by decide +kernel
theorem dX12_test_289 : decode cX12_test 289 = .ok (.return_, 1) := by decide +kernel
theorem dX12_test_173 : decode cX12_test 173 = .ok (.aload_n 0, 1) := by decide +kernel
theorem dX12_test_174 : decode cX12_test 174 = .ok (.getfield 97, 3) := by decide +kernel
theorem dX12_test_177 : decode cX12_test 177 = .ok (.iload_n 1, 1) := by decide +kernel
theorem dX12_test_178 : decode cX12_test 178 = .ok (.aload_n 0, 1) := by decide +kernel
theorem dX12_test_179 : decode cX12_test 179 = .ok (.getfield 343, 3) := by decide +kernel
theorem dX12_test_182 : decode cX12_test 182 = .ok (.iastore, 1) := by decide +kernel
theorem dX12_test_183 : decode cX12_test 183 = .ok (.aload_n 0, 1) := by decide +kernel
theorem dX12_test_184 : decode cX12_test 184 = .ok (.getfield 100, 3) := by decide +kernel
theorem dX12_test_187 : decode cX12_test 187 = .ok (.iload_n 1, 1) := by decide +kernel
theorem dX12_test_188 : decode cX12_test 188 = .ok (.aload_n 0, 1) := by decide +kernel
theorem dX12_test_189 : decode cX12_test 189 = .ok (.bipush 60, 2) := by decide +kernel
set_option maxRecDepth 20000 in
theorem ggX12_test_X12_isSign : GoodIn wsX12_test wsX12_isSign := goodIn_sub (fa_c (me_s (me_l (me_r (me_r (me_l (List.mem_of_getElem? (i := 10) rfl)))))) (fa_a (fa_c (me_s (me_l (me_l (List.mem_of_getElem? (i := 12) rfl)))) (fa_c (me_s (me_l (me_r (me_l (List.mem_of_getElem? (i := 6) rfl))))) fa_n)) (fun w h => (me_s (me_r h))))) (by decide +kernel)
set_option maxRecDepth 20000 in
theorem gX12_test_X12_isSign : GoodIn wsX12_test (wsV RX12 298 RX12 yX12_isSign wsX12_isSign) := goodIn_app (goodIn_sub (fa_c (me_s (me_l (me_r (me_r (me_l (List.mem_of_getElem? (i := 7) rfl)))))) (fa_c (me_s (me_l (me_r (me_r (me_l (List.mem_of_getElem? (i := 8) rfl)))))) (fa_c (me_s (me_l (me_r (me_r (me_l (List.mem_of_getElem? (i := 9) rfl)))))) (fa_c (me_s (me_l (me_l (List.mem_of_getElem? (i := 10) rfl)))) fa_n)))) (by decide +kernel)) ggX12_test_X12_isSign
theorem dX12_test_191 : decode cX12_test 191 = .ok (.invokevirtual 298, 3) := by decide +kernel
theorem dX12_test_194 : decode cX12_test 194 = .ok (.ifCond .eq 8, 3) := by decide +kernel
theorem dX12_test_197 : decode cX12_test 197 = .ok (.bipush 8, 2) := by decide +kernel
theorem dX12_test_199 : decode cX12_test 199 = .ok (.goto 32, 3) := by decide +kernel
theorem dX12_test_231 : decode cX12_test 231 = .ok (.iastore, 1) := by decide +kernel
theorem dX12_test_232 : decode cX12_test 232 = .ok (.aload_n 0, 1) := by decide +kernel
theorem dX12_test_233 : decode cX12_test 233 = .ok (.getfield 100, 3) := by decide +kernel
theorem dX12_test_236 : decode cX12_test 236 = .ok (.iload_n 1, 1) := by decide +kernel
theorem dX12_test_237 : decode cX12_test 237 = .ok (.iaload, 1) := by decide +kernel
theorem dX12_test_238 : decode cX12_test 238 = .ok (.ifCond .ne 8, 3) := by decide +kernel
theorem dX12_test_246 : decode cX12_test 246 = .ok (.aload_n 0, 1) := by decide +kernel
set_option maxRecDepth 20000 in
theorem ggX12_test_X12_next : GoodIn wsX12_test wsX12_next := goodIn_sub (fa_c (me_s (me_l (me_r (me_l (List.mem_of_getElem? (i := 3) rfl))))) (fa_a (fa_a (fa_c (me_s (me_l (me_r (me_l (List.mem_of_getElem? (i := 4) rfl))))) (fa_c (me_s (me_l (me_l (List.mem_of_getElem? (i := 22) rfl)))) (fa_c (me_s (me_l (me_r (me_l (List.mem_of_getElem? (i := 5) rfl))))) (fa_c (me_s (me_l (me_l (List.mem_of_getElem? (i := 13) rfl)))) (fa_c (me_s (me_l (me_r (me_l (List.mem_of_getElem? (i := 6) rfl))))) (fa_c (me_s (me_l (me_r (me_l (List.mem_of_getElem? (i := 7) rfl))))) (fa_c (me_s (me_l (me_l (List.mem_of_getElem? (i := 12) rfl)))) (fa_c (me_s (me_l (me_r (me_l (List.mem_of_getElem? (i := 8) rfl))))) (fa_c (me_s (me_l (me_r (me_l (List.mem_of_getElem? (i := 9) rfl))))) (fa_c (me_s (me_l (me_r (me_l (List.mem_of_getElem? (i := 10) rfl))))) (fa_c (me_s (me_l (me_r (me_l (List.mem_of_getElem? (i := 11) rfl))))) (fa_c (me_s (me_l (me_r (me_l (List.mem_of_getElem? (i := 12) rfl))))) (fa_c (me_s (me_l (me_l (List.mem_of_getElem? (i := 10) rfl)))) (fa_c (me_s (me_l (me_r (me_l (List.mem_of_getElem? (i := 13) rfl))))) (fa_c (me_s (me_l (me_r (me_l (List.mem_of_getElem? (i := 14) rfl))))) (fa_c (me_s (me_l (me_r (me_l (List.mem_of_getElem? (i := 15) rfl))))) (fa_c (me_s (me_l (me_r (me_l (List.mem_of_getElem? (i := 16) rfl))))) (fa_c (me_s (me_l (me_r (me_l (List.mem_of_getElem? (i := 17) rfl))))) (fa_c (me_s (me_l (me_r (me_l (List.mem_of_getElem? (i := 18) rfl))))) (fa_c (me_s (me_l (me_r (me_l (List.mem_of_getElem? (i := 19) rfl))))) (fa_c (me_s (me_l (me_r (me_l (List.mem_of_getElem? (i := 20) rfl))))) (fa_c (me_s (me_l (me_r (me_l (List.mem_of_getElem? (i := 21) rfl))))) (fa_c (me_s (me_l (me_r (me_l (List.mem_of_getElem? (i := 22) rfl))))) (fa_c (me_s (me_l (me_r (me_l (List.mem_of_getElem? (i := 23) rfl))))) fa_n)))))))))))))))))))))))) (fa_c (me_s (me_l (me_r (me_r (me_l (List.mem_of_getElem? (i := 0) rfl)))))) fa_n)) (fun w h => (me_s (me_r h))))) (by decide +kernel)
set_option maxRecDepth 20000 in
theorem gX12_test_X12_next : GoodIn wsX12_test (wsV RX12 301 RX12 yX12_next wsX12_next) := goodIn_app (goodIn_sub (fa_c (me_s (me_l (me_r (me_l (List.mem_of_getElem? (i := 0) rfl))))) (fa_c (me_s (me_l (me_r (me_l (List.mem_of_getElem? (i := 1) rfl))))) (fa_c (me_s (me_l (me_r (me_l (List.mem_of_getElem? (i := 2) rfl))))) (fa_c (me_s (me_l (me_l (List.mem_of_getElem? (i := 10) rfl)))) fa_n)))) (by decide +kernel)) ggX12_test_X12_next
theorem dX12_test_247 : decode cX12_test 247 = .ok (.invokevirtual 301, 3) := by decide +kernel
theorem dX12_test_250 : decode cX12_test 250 = .ok (.aload_n 0, 1) := by decide +kernel
theorem dX12_test_251 : decode cX12_test 251 = .ok (.getfield 94, 3) := by decide +kernel
theorem dX12_test_254 : decode cX12_test 254 = .ok (.iload_n 1, 1) := by decide +kernel
theorem dX12_test_255 : decode cX12_test 255 = .ok (.iconst 4, 1) := by decide +kernel
theorem dX12_test_256 : decode cX12_test 256 = .ok (.iastore, 1) := by decide +kernel
theorem dX12_test_257 : decode cX12_test 257 = .ok (.aload_n 0, 1) := by decide +kernel
theorem dX12_test_258 : decode cX12_test 258 = .ok (.iconst 0, 1) := by decide +kernel
set_option maxRecDepth 20000 in
theorem ggX12_test_X12_begin : GoodIn wsX12_test wsX12_begin := goodIn_sub (fa_c (me_s (me_l (me_r (me_r (me_l (List.mem_of_getElem? (i := 4) rfl)))))) (fa_a (fa_c (me_s (me_l (me_r (me_r (me_l (List.mem_of_getElem? (i := 5) rfl)))))) (fa_c (me_s (me_l (me_r (me_r (me_l (List.mem_of_getElem? (i := 6) rfl)))))) (fa_c (me_s (me_l (me_l (List.mem_of_getElem? (i := 0) rfl)))) (fa_c (me_s (me_l (me_l (List.mem_of_getElem? (i := 5) rfl)))) (fa_c (me_s (me_l (me_l (List.mem_of_getElem? (i := 6) rfl)))) fa_n))))) (fun w h => (me_s (me_r h))))) (by decide +kernel)
set_option maxRecDepth 20000 in
theorem gX12_test_X12_begin : GoodIn wsX12_test (wsV RX12 349 RX12 yX12_begin wsX12_begin) := goodIn_app (goodIn_sub (fa_c (me_s (me_l (me_r (me_r (me_l (List.mem_of_getElem? (i := 1) rfl)))))) (fa_c (me_s (me_l (me_r (me_r (me_l (List.mem_of_getElem? (i := 2) rfl)))))) (fa_c (me_s (me_l (me_r (me_r (me_l (List.mem_of_getElem? (i := 3) rfl)))))) (fa_c (me_s (me_l (me_l (List.mem_of_getElem? (i := 10) rfl)))) fa_n)))) (by decide +kernel)) ggX12_test_X12_begin
theorem dX12_test_259 : decode cX12_test 259 = .ok (.invokevirtual 349, 3) := by decide +kernel
theorem dX12_test_262 : decode cX12_test 262 = .ok (.goto 27, 3) := by decide +kernel
theorem dX12_test_202 : decode cX12_test 202 = .ok (.aload_n 0, 1) := by decide +kernel
theorem dX12_test_203 : decode cX12_test 203 = .ok (.bipush 62, 2) := by decide +kernel
theorem dX12_test_205 : decode cX12_test 205 = .ok (.invokevirtual 298, 3) := by decide +kernel
theorem dX12_test_208 : decode cX12_test 208 = .ok (.ifCond .eq 8, 3) := by decide +kernel
theorem dX12_test_211 : decode cX12_test 211 = .ok (.bipush 9, 2) := by decide +kernel
theorem dX12_test_213 : decode cX12_test 213 = .ok (.goto 18, 3) := by decide +kernel
theorem dX12_test_216 : decode cX12_test 216 = .ok (.aload_n 0, 1) := by decide +kernel
theorem dX12_test_217 : decode cX12_test 217 = .ok (.bipush 61, 2) := by decide +kernel
theorem dX12_test_219 : decode cX12_test 219 = .ok (.invokevirtual 298, 3) := by decide +kernel
theorem dX12_test_222 : decode cX12_test 222 = .ok (.ifCond .eq 8, 3) := by decide +kernel
theorem dX12_test_225 : decode cX12_test 225 = .ok (.bipush 10, 2) := by decide +kernel
theorem dX12_test_227 : decode cX12_test 227 = .ok (.goto 4, 3) := by decide +kernel
theorem dX12_test_230 : decode cX12_test 230 = .ok (.iconst 0, 1) := by decide +kernel
theorem dX12_test_241 : decode cX12_test 241 = .ok (.aload_n 0, 1) := by decide +kernel
set_option maxRecDepth 20000 in
theorem ggX12_test_X12_errs : GoodIn wsX12_test wsX12_errs := goodIn_sub (fa_c (me_s (me_l (me_l (List.mem_of_getElem? (i := 21) rfl)))) (fa_a (fa_c (me_s (me_l (me_l (List.mem_of_getElem? (i := 4) rfl)))) (fa_c (me_s (me_l (me_l (List.mem_of_getElem? (i := 22) rfl)))) (fa_c (me_s (me_l (me_l (List.mem_of_getElem? (i := 23) rfl)))) fa_n))) (fun w h => (me_s (me_r h))))) (by decide +kernel)
set_option maxRecDepth 20000 in
theorem gX12_test_X12_errs : GoodIn wsX12_test (wsV RX12 304 RX12 yX12_errs wsX12_errs) := goodIn_app (goodIn_sub (fa_c (me_s (me_l (me_l (List.mem_of_getElem? (i := 18) rfl)))) (fa_c (me_s (me_l (me_l (List.mem_of_getElem? (i := 19) rfl)))) (fa_c (me_s (me_l (me_l (List.mem_of_getElem? (i := 20) rfl)))) (fa_c (me_s (me_l (me_l (List.mem_of_getElem? (i := 10) rfl)))) fa_n)))) (by decide +kernel)) ggX12_test_X12_errs
theorem dX12_test_242 : decode cX12_test 242 = .ok (.invokevirtual 304, 3) := by decide +kernel
theorem dX12_test_245 : decode cX12_test 245 = .ok (.return_, 1) := by decide +kernel
theorem dX12_test_129 : decode cX12_test 129 = .ok (.aload_n 0, 1) := by decide +kernel
theorem dX12_test_130 : decode cX12_test 130 = .ok (.bipush 125, 2) := by decide +kernel
set_option maxRecDepth 20000 in
theorem ggX12_test_X12_must : GoodIn wsX12_test wsX12_must := goodIn_sub (fa_c (me_s (me_l (me_r (me_r (me_r (List.mem_of_getElem? (i := 2) rfl)))))) (fa_a (fa_a (fa_c (me_s (me_l (me_r (me_r (me_l (List.mem_of_getElem? (i := 7) rfl)))))) (fa_c (me_s (me_l (me_r (me_r (me_l (List.mem_of_getElem? (i := 8) rfl)))))) (fa_c (me_s (me_l (me_r (me_r (me_l (List.mem_of_getElem? (i := 9) rfl)))))) (fa_c (me_s (me_l (me_l (List.mem_of_getElem? (i := 10) rfl)))) (fa_c (me_s (me_l (me_r (me_r (me_l (List.mem_of_getElem? (i := 10) rfl)))))) (fa_c (me_s (me_l (me_l (List.mem_of_getElem? (i := 12) rfl)))) (fa_c (me_s (me_l (me_r (me_l (List.mem_of_getElem? (i := 6) rfl))))) (fa_c (me_s (me_l (me_r (me_l (List.mem_of_getElem? (i := 0) rfl))))) (fa_c (me_s (me_l (me_r (me_l (List.mem_of_getElem? (i := 1) rfl))))) (fa_c (me_s (me_l (me_r (me_l (List.mem_of_getElem? (i := 2) rfl))))) (fa_c (me_s (me_l (me_r (me_l (List.mem_of_getElem? (i := 3) rfl))))) (fa_c (me_s (me_l (me_r (me_l (List.mem_of_getElem? (i := 4) rfl))))) (fa_c (me_s (me_l (me_l (List.mem_of_getElem? (i := 22) rfl)))) (fa_c (me_s (me_l (me_r (me_l (List.mem_of_getElem? (i := 5) rfl))))) (fa_c (me_s (me_l (me_l (List.mem_of_getElem? (i := 13) rfl)))) (fa_c (me_s (me_l (me_r (me_l (List.mem_of_getElem? (i := 7) rfl))))) (fa_c (me_s (me_l (me_r (me_l (List.mem_of_getElem? (i := 8) rfl))))) (fa_c (me_s (me_l (me_r (me_l (List.mem_of_getElem? (i := 9) rfl))))) (fa_c (me_s (me_l (me_r (me_l (List.mem_of_getElem? (i := 10) rfl))))) (fa_c (me_s (me_l (me_r (me_l (List.mem_of_getElem? (i := 11) rfl))))) (fa_c (me_s (me_l (me_r (me_l (List.mem_of_getElem? (i := 12) rfl))))) (fa_c (me_s (me_l (me_r (me_l (List.mem_of_getElem? (i := 13) rfl))))) (fa_c (me_s (me_l (me_r (me_l (List.mem_of_getElem? (i := 14) rfl))))) (fa_c (me_s (me_l (me_r (me_l (List.mem_of_getElem? (i := 15) rfl))))) fa_n)))))))))))))))))))))))) (fa_c (me_s (me_l (me_r (me_l (List.mem_of_getElem? (i := 16) rfl))))) (fa_c (me_s (me_l (me_r (me_l (List.mem_of_getElem? (i := 17) rfl))))) (fa_c (me_s (me_l (me_r (me_l (List.mem_of_getElem? (i := 18) rfl))))) (fa_c (me_s (me_l (me_r (me_l (List.mem_of_getElem? (i := 19) rfl))))) (fa_c (me_s (me_l (me_r (me_l (List.mem_of_getElem? (i := 20) rfl))))) (fa_c (me_s (me_l (me_r (me_l (List.mem_of_getElem? (i := 21) rfl))))) (fa_c (me_s (me_l (me_r (me_l (List.mem_of_getElem? (i := 22) rfl))))) (fa_c (me_s (me_l (me_r (me_l (List.mem_of_getElem? (i := 23) rfl))))) (fa_c (me_s (me_l (me_r (me_r (me_l (List.mem_of_getElem? (i := 0) rfl)))))) (fa_c (me_s (me_l (me_l (List.mem_of_getElem? (i := 18) rfl)))) (fa_c (me_s (me_l (me_l (List.mem_of_getElem? (i := 19) rfl)))) (fa_c (me_s (me_l (me_l (List.mem_of_getElem? (i := 20) rfl)))) (fa_c (me_s (me_l (me_l (List.mem_of_getElem? (i := 21) rfl)))) (fa_c (me_s (me_l (me_l (List.mem_of_getElem? (i := 4) rfl)))) (fa_c (me_s (me_l (me_l (List.mem_of_getElem? (i := 23) rfl)))) fa_n)))))))))))))))) (fun w h => (me_s (me_r h))))) (by decide +kernel)
set_option maxRecDepth 20000 in
theorem gX12_test_X12_must : GoodIn wsX12_test (wsV RX12 383 RX12 yX12_must wsX12_must) := goodIn_app (goodIn_sub (fa_c (me_s (me_l (me_r (me_r (me_l (List.mem_of_getElem? (i := 23) rfl)))))) (fa_c (me_s (me_l (me_r (me_r (me_r (List.mem_of_getElem? (i := 0) rfl)))))) (fa_c (me_s (me_l (me_r (me_r (me_r (List.mem_of_getElem? (i := 1) rfl)))))) (fa_c (me_s (me_l (me_l (List.mem_of_getElem? (i := 10) rfl)))) fa_n)))) (by decide +kernel)) ggX12_test_X12_must
theorem dX12_test_132 : decode cX12_test 132 = .ok (.invokevirtual 383, 3) := by decide +kernel
theorem dX12_test_135 : decode cX12_test 135 = .ok (.aload_n 0, 1) := by decide +kernel
theorem dX12_test_136 : decode cX12_test 136 = .ok (.dup, 1) := by decide +kernel
theorem dX12_test_137 : decode cX12_test 137 = .ok (.getfield 346, 3) := by decide +kernel
theorem dX12_test_140 : decode cX12_test 140 = .ok (.iconst 1, 1) := by decide +kernel
theorem dX12_test_141 : decode cX12_test 141 = .ok (.isub, 1) := by decide +kernel
theorem dX12_test_142 : decode cX12_test 142 = .ok (.putfield 346, 3) := by decide +kernel
theorem dX12_test_145 : decode cX12_test 145 = .ok (.aload_n 0, 1) := by decide +kernel
theorem dX12_test_146 : decode cX12_test 146 = .ok (.getfield 294, 3) := by decide +kernel
theorem dX12_test_149 : decode cX12_test 149 = .ok (.ifCond .ne 140, 3) := by decide +kernel
theorem dX12_test_152 : decode cX12_test 152 = .ok (.aload_n 0, 1) := by decide +kernel
theorem dX12_test_153 : decode cX12_test 153 = .ok (.aload_n 0, 1) := by decide +kernel
theorem dX12_test_154 : decode cX12_test 154 = .ok (.getfield 343, 3) := by decide +kernel
theorem dX12_test_157 : decode cX12_test 157 = .ok (.invokevirtual 369, 3) := by decide +kernel
theorem dX12_test_160 : decode cX12_test 160 = .ok (.goto 129, 3) := by decide +kernel
theorem dX12_test_91 : decode cX12_test 91 = .ok (.aload_n 0, 1) := by decide +kernel
theorem dX12_test_92 : decode cX12_test 92 = .ok (.dup, 1) := by decide +kernel
theorem dX12_test_93 : decode cX12_test 93 = .ok (.getfield 346, 3) := by decide +kernel
theorem dX12_test_96 : decode cX12_test 96 = .ok (.iconst 1, 1) := by decide +kernel
theorem dX12_test_97 : decode cX12_test 97 = .ok (.isub, 1) := by decide +kernel
theorem dX12_test_98 : decode cX12_test 98 = .ok (.putfield 346, 3) := by decide +kernel
theorem dX12_test_101 : decode cX12_test 101 = .ok (.aload_n 0, 1) := by decide +kernel
theorem dX12_test_102 : decode cX12_test 102 = .ok (.aload_n 0, 1) := by decide +kernel
theorem dX12_test_103 : decode cX12_test 103 = .ok (.bipush 11, 2) := by decide +kernel
theorem dX12_test_105 : decode cX12_test 105 = .ok (.aload_n 0, 1) := by decide +kernel
theorem dX12_test_106 : decode cX12_test 106 = .ok (.getfield 343, 3) := by decide +kernel
theorem dX12_test_109 : decode cX12_test 109 = .ok (.iconst 0, 1) := by decide +kernel
theorem dX12_test_110 : decode cX12_test 110 = .ok (.invokevirtual 366, 3) := by decide +kernel
theorem dX12_test_113 : decode cX12_test 113 = .ok (.invokevirtual 369, 3) := by decide +kernel
theorem dX12_test_116 : decode cX12_test 116 = .ok (.goto 173, 3) := by decide +kernel
theorem dX12_test_9 : decode cX12_test 9 = .ok (.aload_n 0, 1) := by decide +kernel
theorem dX12_test_10 : decode cX12_test 10 = .ok (.ldc2_w 394, 3) := by decide +kernel
set_option maxRecDepth 20000 in
theorem ggX12_test_X12_isWord : GoodIn wsX12_test wsX12_isWord := goodIn_sub (fa_c (me_s (me_l (me_l (List.mem_of_getElem? (i := 11) rfl)))) (fa_a (fa_c (me_s (me_l (me_l (List.mem_of_getElem? (i := 12) rfl)))) (fa_c (me_s (me_l (me_l (List.mem_of_getElem? (i := 13) rfl)))) fa_n)) (fun w h => (me_s (me_r h))))) (by decide +kernel)
set_option maxRecDepth 20000 in
theorem gX12_test_X12_isWord : GoodIn wsX12_test (wsV RX12 377 RX12 yX12_isWord wsX12_isWord) := goodIn_app (goodIn_sub (fa_c (me_s (me_l (me_l (List.mem_of_getElem? (i := 7) rfl)))) (fa_c (me_s (me_l (me_l (List.mem_of_getElem? (i := 8) rfl)))) (fa_c (me_s (me_l (me_l (List.mem_of_getElem? (i := 9) rfl)))) (fa_c (me_s (me_l (me_l (List.mem_of_getElem? (i := 10) rfl)))) fa_n)))) (by decide +kernel)) ggX12_test_X12_isWord
theorem dX12_test_13 : decode cX12_test 13 = .ok (.invokevirtual 377, 3) := by decide +kernel
theorem dX12_test_16 : decode cX12_test 16 = .ok (.ifCond .eq 22, 3) := by decide +kernel
theorem dX12_test_19 : decode cX12_test 19 = .ok (.aload_n 0, 1) := by decide +kernel
set_option maxRecDepth 20000 in
theorem ggX12_test_X12_opens : GoodIn wsX12_test wsX12_opens := goodIn_sub (fa_c (me_s (me_l (me_l (List.mem_of_getElem? (i := 17) rfl)))) (fa_a (fa_a (fa_c (me_s (me_l (me_l (List.mem_of_getElem? (i := 2) rfl)))) (fa_c (me_s (me_l (me_l (List.mem_of_getElem? (i := 18) rfl)))) (fa_c (me_s (me_l (me_l (List.mem_of_getElem? (i := 19) rfl)))) (fa_c (me_s (me_l (me_l (List.mem_of_getElem? (i := 20) rfl)))) (fa_c (me_s (me_l (me_l (List.mem_of_getElem? (i := 10) rfl)))) (fa_c (me_s (me_l (me_l (List.mem_of_getElem? (i := 21) rfl)))) (fa_c (me_s (me_l (me_l (List.mem_of_getElem? (i := 4) rfl)))) (fa_c (me_s (me_l (me_l (List.mem_of_getElem? (i := 22) rfl)))) (fa_c (me_s (me_l (me_l (List.mem_of_getElem? (i := 23) rfl)))) (fa_c (me_s (me_l (me_r (me_l (List.mem_of_getElem? (i := 0) rfl))))) (fa_c (me_s (me_l (me_r (me_l (List.mem_of_getElem? (i := 1) rfl))))) (fa_c (me_s (me_l (me_r (me_l (List.mem_of_getElem? (i := 2) rfl))))) (fa_c (me_s (me_l (me_r (me_l (List.mem_of_getElem? (i := 3) rfl))))) (fa_c (me_s (me_l (me_r (me_l (List.mem_of_getElem? (i := 4) rfl))))) (fa_c (me_s (me_l (me_r (me_l (List.mem_of_getElem? (i := 5) rfl))))) (fa_c (me_s (me_l (me_l (List.mem_of_getElem? (i := 13) rfl)))) (fa_c (me_s (me_l (me_r (me_l (List.mem_of_getElem? (i := 6) rfl))))) (fa_c (me_s (me_l (me_r (me_l (List.mem_of_getElem? (i := 7) rfl))))) (fa_c (me_s (me_l (me_l (List.mem_of_getElem? (i := 12) rfl)))) (fa_c (me_s (me_l (me_r (me_l (List.mem_of_getElem? (i := 8) rfl))))) (fa_c (me_s (me_l (me_r (me_l (List.mem_of_getElem? (i := 9) rfl))))) (fa_c (me_s (me_l (me_r (me_l (List.mem_of_getElem? (i := 10) rfl))))) (fa_c (me_s (me_l (me_r (me_l (List.mem_of_getElem? (i := 11) rfl))))) (fa_c (me_s (me_l (me_r (me_l (List.mem_of_getElem? (i := 12) rfl))))) fa_n)))))))))))))))))))))))) (fa_c (me_s (me_l (me_r (me_l (List.mem_of_getElem? (i := 13) rfl))))) (fa_c (me_s (me_l (me_r (me_l (List.mem_of_getElem? (i := 14) rfl))))) (fa_c (me_s (me_l (me_r (me_l (List.mem_of_getElem? (i := 15) rfl))))) (fa_c (me_s (me_l (me_r (me_l (List.mem_of_getElem? (i := 16) rfl))))) (fa_c (me_s (me_l (me_r (me_l (List.mem_of_getElem? (i := 17) rfl))))) (fa_c (me_s (me_l (me_r (me_l (List.mem_of_getElem? (i := 18) rfl))))) (fa_c (me_s (me_l (me_r (me_l (List.mem_of_getElem? (i := 19) rfl))))) (fa_c (me_s (me_l (me_r (me_l (List.mem_of_getElem? (i := 20) rfl))))) (fa_c (me_s (me_l (me_r (me_l (List.mem_of_getElem? (i := 21) rfl))))) (fa_c (me_s (me_l (me_r (me_l (List.mem_of_getElem? (i := 22) rfl))))) (fa_c (me_s (me_l (me_r (me_l (List.mem_of_getElem? (i := 23) rfl))))) (fa_c (me_s (me_l (me_r (me_r (me_l (List.mem_of_getElem? (i := 0) rfl)))))) fa_n))))))))))))) (fun w h => (me_s (me_r h))))) (by decide +kernel)
set_option maxRecDepth 20000 in
theorem gX12_test_X12_opens : GoodIn wsX12_test (wsV RX12 372 RX12 yX12_opens wsX12_opens) := goodIn_app (goodIn_sub (fa_c (me_s (me_l (me_l (List.mem_of_getElem? (i := 14) rfl)))) (fa_c (me_s (me_l (me_l (List.mem_of_getElem? (i := 15) rfl)))) (fa_c (me_s (me_l (me_l (List.mem_of_getElem? (i := 16) rfl)))) (fa_c (me_s (me_l (me_l (List.mem_of_getElem? (i := 10) rfl)))) fa_n)))) (by decide +kernel)) ggX12_test_X12_opens
theorem dX12_test_20 : decode cX12_test 20 = .ok (.invokevirtual 372, 3) := by decide +kernel
theorem dX12_test_23 : decode cX12_test 23 = .ok (.aload_n 0, 1) := by decide +kernel
theorem dX12_test_24 : decode cX12_test 24 = .ok (.getfield 94, 3) := by decide +kernel
theorem dX12_test_27 : decode cX12_test 27 = .ok (.iload_n 1, 1) := by decide +kernel
theorem dX12_test_28 : decode cX12_test 28 = .ok (.iconst 1, 1) := by decide +kernel
theorem dX12_test_29 : decode cX12_test 29 = .ok (.iastore, 1) := by decide +kernel
theorem dX12_test_30 : decode cX12_test 30 = .ok (.aload_n 0, 1) := by decide +kernel
theorem dX12_test_31 : decode cX12_test 31 = .ok (.iconst 5, 1) := by decide +kernel
theorem dX12_test_32 : decode cX12_test 32 = .ok (.invokevirtual 349, 3) := by decide +kernel
theorem dX12_test_35 : decode cX12_test 35 = .ok (.goto 254, 3) := by decide +kernel
theorem dX12_test_38 : decode cX12_test 38 = .ok (.aload_n 0, 1) := by decide +kernel
theorem dX12_test_39 : decode cX12_test 39 = .ok (.bipush 123, 2) := by decide +kernel
theorem dX12_test_41 : decode cX12_test 41 = .ok (.invokevirtual 298, 3) := by decide +kernel
theorem dX12_test_44 : decode cX12_test 44 = .ok (.ifCond .eq 22, 3) := by decide +kernel
theorem dX12_test_47 : decode cX12_test 47 = .ok (.aload_n 0, 1) := by decide +kernel
theorem dX12_test_48 : decode cX12_test 48 = .ok (.invokevirtual 372, 3) := by decide +kernel
theorem dX12_test_51 : decode cX12_test 51 = .ok (.aload_n 0, 1) := by decide +kernel
theorem dX12_test_52 : decode cX12_test 52 = .ok (.getfield 94, 3) := by decide +kernel
theorem dX12_test_55 : decode cX12_test 55 = .ok (.iload_n 1, 1) := by decide +kernel
theorem dX12_test_56 : decode cX12_test 56 = .ok (.iconst 2, 1) := by decide +kernel
theorem dX12_test_57 : decode cX12_test 57 = .ok (.iastore, 1) := by decide +kernel
theorem dX12_test_58 : decode cX12_test 58 = .ok (.aload_n 0, 1) := by decide +kernel
theorem dX12_test_59 : decode cX12_test 59 = .ok (.iconst 3, 1) := by decide +kernel
theorem dX12_test_60 : decode cX12_test 60 = .ok (.invokevirtual 349, 3) := by decide +kernel
theorem dX12_test_63 : decode cX12_test 63 = .ok (.goto 226, 3) := by decide +kernel
theorem dX12_test_66 : decode cX12_test 66 = .ok (.aload_n 0, 1) := by decide +kernel
theorem dX12_test_67 : decode cX12_test 67 = .ok (.getfield 94, 3) := by decide +kernel
theorem dX12_test_70 : decode cX12_test 70 = .ok (.iload_n 1, 1) := by decide +kernel
theorem dX12_test_71 : decode cX12_test 71 = .ok (.iconst 3, 1) := by decide +kernel
theorem dX12_test_72 : decode cX12_test 72 = .ok (.iastore, 1) := by decide +kernel
theorem dX12_test_73 : decode cX12_test 73 = .ok (.aload_n 0, 1) := by decide +kernel
theorem dX12_test_74 : decode cX12_test 74 = .ok (.iconst 0, 1) := by decide +kernel
theorem dX12_test_75 : decode cX12_test 75 = .ok (.invokevirtual 349, 3) := by decide +kernel
theorem dX12_test_78 : decode cX12_test 78 = .ok (.goto 211, 3) := by decide +kernel
theorem z_l13 : (13 : Int32).toInt = 13 := by decide
theorem zj_X12_sums_X12 : ∀ w ∈ wsX120, w ∈ wsX12_sums := fun w h => (List.mem_cons_of_mem _ (List.mem_append_right _ h))
theorem zj_X12_atom_X12 : ∀ w ∈ wsX120, w ∈ wsX12_atom := fun w h => (List.mem_cons_of_mem _ (List.mem_append_right _ h))
theorem zj_X12_chain_X12 : ∀ w ∈ wsX120, w ∈ wsX12_chain := fun w h => (List.mem_cons_of_mem _ (List.mem_append_right _ h))
theorem zj_X12_test_X12 : ∀ w ∈ wsX120, w ∈ wsX12_test := fun w h => (List.mem_cons_of_mem _ (List.mem_append_right _ h))