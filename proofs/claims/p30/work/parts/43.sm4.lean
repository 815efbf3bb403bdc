theorem dX12_deals_0 : decode cX12_deals 0 = .ok (.iconst 0, 1) := z_dd_3 (by decide +kernel)
theorem dX12_deals_1 : decode cX12_deals 1 = .ok (.istore_n 3, 1) := z_dd_62 (by decide +kernel)
theorem dX12_deals_2 : decode cX12_deals 2 = .ok (.iconst 0, 1) := z_dd_3 (by decide +kernel)
theorem dX12_deals_3 : decode cX12_deals 3 = .ok (.istore 4, 2) := z_dd_54 (by decide +kernel)
theorem dX12_deals_5 : decode cX12_deals 5 = .ok (.iload 4, 2) := z_dd_21 (by decide +kernel)
theorem dX12_deals_7 : decode cX12_deals 7 = .ok (.aload_n 0, 1) := z_dd_42 (by decide +kernel)
theorem dX12_deals_8 : decode cX12_deals 8 = .ok (.getfield 229, 3) := z_dd_180 (by decide +kernel)
theorem dX12_deals_11 : decode cX12_deals 11 = .ok (.if_icmp .ge 45, 3) := z_dd_162 (by decide +kernel)
theorem dX12_deals_56 : decode cX12_deals 56 = .ok (.iload_n 1, 1) := z_dd_27 (by decide +kernel)
theorem dX12_deals_57 : decode cX12_deals 57 = .ok (.ifCond .ne 4, 3) := z_dd_154 (by decide +kernel)
theorem dX12_deals_61 : decode cX12_deals 61 = .ok (.iconst 0, 1) := z_dd_3 (by decide +kernel)
theorem dX12_deals_62 : decode cX12_deals 62 = .ok (.istore 4, 2) := z_dd_54 (by decide +kernel)
theorem dX12_deals_64 : decode cX12_deals 64 = .ok (.iload 4, 2) := z_dd_21 (by decide +kernel)
theorem dX12_deals_66 : decode cX12_deals 66 = .ok (.aload_n 0, 1) := z_dd_42 (by decide +kernel)
theorem dX12_deals_67 : decode cX12_deals 67 = .ok (.getfield 229, 3) := z_dd_180 (by decide +kernel)
theorem dX12_deals_70 : decode cX12_deals 70 = .ok (.if_icmp .ge 127, 3) := z_dd_162 (by decide +kernel)
theorem dX12_deals_197 : decode cX12_deals 197 = .ok (.return_, 1) := z_dd_177 (by decide +kernel)
theorem dX12_deals_73 : decode cX12_deals 73 = .ok (.iload 4, 2) := z_dd_21 (by decide +kernel)
theorem dX12_deals_75 : decode cX12_deals 75 = .ok (.istore 5, 2) := z_dd_54 (by decide +kernel)
theorem dX12_deals_77 : decode cX12_deals 77 = .ok (.iload_n 1, 1) := z_dd_27 (by decide +kernel)
theorem dX12_deals_78 : decode cX12_deals 78 = .ok (.iconst 2, 1) := z_dd_5 (by decide +kernel)
theorem dX12_deals_79 : decode cX12_deals 79 = .ok (.if_icmp .ne 99, 3) := z_dd_160 (by decide +kernel)
theorem dX12_deals_178 : decode cX12_deals 178 = .ok (.aload_n 0, 1) := z_dd_42 (by decide +kernel)
theorem dX12_deals_179 : decode cX12_deals 179 = .ok (.getfield 223, 3) := z_dd_180 (by decide +kernel)
theorem dX12_deals_182 : decode cX12_deals 182 = .ok (.iload 5, 2) := z_dd_21 (by decide +kernel)
theorem dX12_deals_184 : decode cX12_deals 184 = .ok (.iload_n 3, 1) := z_dd_29 (by decide +kernel)
theorem dX12_deals_185 : decode cX12_deals 185 = .ok (.aload_n 0, 1) := z_dd_42 (by decide +kernel)
theorem dX12_deals_186 : decode cX12_deals 186 = .ok (.getfield 229, 3) := z_dd_180 (by decide +kernel)
theorem dX12_deals_189 : decode cX12_deals 189 = .ok (.idiv, 1) := z_dd_108 (by decide +kernel)
theorem dX12_deals_190 : decode cX12_deals 190 = .ok (.iastore, 1) := z_dd_79 (by decide +kernel)
theorem dX12_deals_191 : decode cX12_deals 191 = .ok (.iinc 4 1, 3) := z_dd_132 (by decide +kernel)
theorem dX12_deals_194 : decode cX12_deals 194 = .ok (.goto (-130), 3) := z_dd_167 (by decide +kernel)
theorem dX12_deals_82 : decode cX12_deals 82 = .ok (.iconst (-1), 1) := z_dd_2 (by decide +kernel)
theorem dX12_deals_83 : decode cX12_deals 83 = .ok (.istore 5, 2) := z_dd_54 (by decide +kernel)
theorem dX12_deals_85 : decode cX12_deals 85 = .ok (.iconst 0, 1) := z_dd_3 (by decide +kernel)
theorem dX12_deals_86 : decode cX12_deals 86 = .ok (.istore 6, 2) := z_dd_54 (by decide +kernel)
theorem dX12_deals_88 : decode cX12_deals 88 = .ok (.iload 6, 2) := z_dd_21 (by decide +kernel)
theorem dX12_deals_90 : decode cX12_deals 90 = .ok (.aload_n 0, 1) := z_dd_42 (by decide +kernel)
theorem dX12_deals_91 : decode cX12_deals 91 = .ok (.getfield 229, 3) := z_dd_180 (by decide +kernel)
theorem dX12_deals_94 : decode cX12_deals 94 = .ok (.if_icmp .ge 45, 3) := z_dd_162 (by decide +kernel)
theorem dX12_deals_139 : decode cX12_deals 139 = .ok (.aload_n 0, 1) := z_dd_42 (by decide +kernel)
theorem dX12_deals_140 : decode cX12_deals 140 = .ok (.getfield 226, 3) := z_dd_180 (by decide +kernel)
theorem dX12_deals_143 : decode cX12_deals 143 = .ok (.iload 5, 2) := z_dd_21 (by decide +kernel)
theorem dX12_deals_145 : decode cX12_deals 145 = .ok (.iconst 1, 1) := z_dd_4 (by decide +kernel)
theorem dX12_deals_146 : decode cX12_deals 146 = .ok (.bastore, 1) := z_dd_84 (by decide +kernel)
theorem dX12_deals_147 : decode cX12_deals 147 = .ok (.aload_n 0, 1) := z_dd_42 (by decide +kernel)
theorem dX12_deals_148 : decode cX12_deals 148 = .ok (.getfield 223, 3) := z_dd_180 (by decide +kernel)
theorem dX12_deals_151 : decode cX12_deals 151 = .ok (.iload 5, 2) := z_dd_21 (by decide +kernel)
theorem dX12_deals_153 : decode cX12_deals 153 = .ok (.aload_n 0, 1) := z_dd_42 (by decide +kernel)
theorem dX12_deals_154 : decode cX12_deals 154 = .ok (.getfield 22, 3) := z_dd_180 (by decide +kernel)
theorem dX12_deals_157 : decode cX12_deals 157 = .ok (.iload 5, 2) := z_dd_21 (by decide +kernel)
theorem dX12_deals_159 : decode cX12_deals 159 = .ok (.iaload, 1) := z_dd_46 (by decide +kernel)
theorem dX12_deals_160 : decode cX12_deals 160 = .ok (.iload_n 3, 1) := z_dd_29 (by decide +kernel)
set_option maxRecDepth 20000 in
theorem ggX12_deals_X12_min : GoodIn wsX12_deals wsX12_min := goodIn_sub (fa_c (me_s (me_l (me_r (me_r (List.mem_of_getElem? (i := 18) rfl))))) fa_n) (by decide +kernel)
set_option maxRecDepth 20000 in
theorem gX12_deals_X12_min : GoodIn wsX12_deals (va_wsS RX12 287 yX12_min wsX12_min) := goodIn_app (goodIn_sub (fa_c (me_s (me_l (me_r (me_r (List.mem_of_getElem? (i := 16) rfl))))) (fa_c (me_s (me_l (me_r (me_r (List.mem_of_getElem? (i := 17) rfl))))) (fa_c (me_s (me_l (me_l (List.mem_of_getElem? (i := 9) rfl)))) fa_n))) (by decide +kernel)) ggX12_deals_X12_min
theorem dX12_deals_161 : decode cX12_deals 161 = .ok (.invokestatic 287, 3) := z_dd_184 (by decide +kernel)
theorem dX12_deals_164 : decode cX12_deals 164 = .ok (.iastore, 1) := z_dd_79 (by decide +kernel)
theorem dX12_deals_165 : decode cX12_deals 165 = .ok (.iload_n 3, 1) := z_dd_29 (by decide +kernel)
theorem dX12_deals_166 : decode cX12_deals 166 = .ok (.aload_n 0, 1) := z_dd_42 (by decide +kernel)
theorem dX12_deals_167 : decode cX12_deals 167 = .ok (.getfield 223, 3) := z_dd_180 (by decide +kernel)
theorem dX12_deals_170 : decode cX12_deals 170 = .ok (.iload 5, 2) := z_dd_21 (by decide +kernel)
theorem dX12_deals_172 : decode cX12_deals 172 = .ok (.iaload, 1) := z_dd_46 (by decide +kernel)
theorem dX12_deals_173 : decode cX12_deals 173 = .ok (.isub, 1) := z_dd_100 (by decide +kernel)
theorem dX12_deals_174 : decode cX12_deals 174 = .ok (.istore_n 3, 1) := z_dd_62 (by decide +kernel)
theorem dX12_deals_175 : decode cX12_deals 175 = .ok (.goto 16, 3) := z_dd_167 (by decide +kernel)
theorem dX12_deals_97 : decode cX12_deals 97 = .ok (.aload_n 0, 1) := z_dd_42 (by decide +kernel)
theorem dX12_deals_98 : decode cX12_deals 98 = .ok (.getfield 226, 3) := z_dd_180 (by decide +kernel)
theorem dX12_deals_101 : decode cX12_deals 101 = .ok (.iload 6, 2) := z_dd_21 (by decide +kernel)
theorem dX12_deals_103 : decode cX12_deals 103 = .ok (.baload, 1) := z_dd_51 (by decide +kernel)
theorem dX12_deals_104 : decode cX12_deals 104 = .ok (.ifCond .ne 29, 3) := z_dd_154 (by decide +kernel)
theorem dX12_deals_133 : decode cX12_deals 133 = .ok (.iinc 6 1, 3) := z_dd_132 (by decide +kernel)
theorem dX12_deals_136 : decode cX12_deals 136 = .ok (.goto (-48), 3) := z_dd_167 (by decide +kernel)
theorem dX12_deals_107 : decode cX12_deals 107 = .ok (.iload 5, 2) := z_dd_21 (by decide +kernel)
theorem dX12_deals_109 : decode cX12_deals 109 = .ok (.ifCond .lt 20, 3) := z_dd_155 (by decide +kernel)
theorem dX12_deals_129 : decode cX12_deals 129 = .ok (.iload 6, 2) := z_dd_21 (by decide +kernel)
theorem dX12_deals_131 : decode cX12_deals 131 = .ok (.istore 5, 2) := z_dd_54 (by decide +kernel)
theorem dX12_deals_112 : decode cX12_deals 112 = .ok (.aload_n 0, 1) := z_dd_42 (by decide +kernel)
theorem dX12_deals_113 : decode cX12_deals 113 = .ok (.getfield 19, 3) := z_dd_180 (by decide +kernel)
theorem dX12_deals_116 : decode cX12_deals 116 = .ok (.iload 6, 2) := z_dd_21 (by decide +kernel)
theorem dX12_deals_118 : decode cX12_deals 118 = .ok (.iaload, 1) := z_dd_46 (by decide +kernel)
theorem dX12_deals_119 : decode cX12_deals 119 = .ok (.aload_n 0, 1) := z_dd_42 (by decide +kernel)
theorem dX12_deals_120 : decode cX12_deals 120 = .ok (.getfield 19, 3) := z_dd_180 (by decide +kernel)
theorem dX12_deals_123 : decode cX12_deals 123 = .ok (.iload 5, 2) := z_dd_21 (by decide +kernel)
theorem dX12_deals_125 : decode cX12_deals 125 = .ok (.iaload, 1) := z_dd_46 (by decide +kernel)
theorem dX12_deals_126 : decode cX12_deals 126 = .ok (.if_icmp .le 7, 3) := z_dd_164 (by decide +kernel)
theorem dX12_deals_60 : decode cX12_deals 60 = .ok (.return_, 1) := z_dd_177 (by decide +kernel)
theorem dX12_deals_14 : decode cX12_deals 14 = .ok (.aload_n 0, 1) := z_dd_42 (by decide +kernel)
theorem dX12_deals_15 : decode cX12_deals 15 = .ok (.getfield 223, 3) := z_dd_180 (by decide +kernel)
theorem dX12_deals_18 : decode cX12_deals 18 = .ok (.iload 4, 2) := z_dd_21 (by decide +kernel)
theorem dX12_deals_20 : decode cX12_deals 20 = .ok (.aload_n 0, 1) := z_dd_42 (by decide +kernel)
theorem dX12_deals_21 : decode cX12_deals 21 = .ok (.iload 4, 2) := z_dd_21 (by decide +kernel)
theorem dX12_deals_23 : decode cX12_deals 23 = .ok (.iload_n 2, 1) := z_dd_28 (by decide +kernel)
theorem dX12_deals_24 : decode cX12_deals 24 = .ok (.aload_n 0, 1) := z_dd_42 (by decide +kernel)
theorem dX12_deals_25 : decode cX12_deals 25 = .ok (.getfield 232, 3) := z_dd_180 (by decide +kernel)
set_option maxRecDepth 20000 in
theorem ggX12_deals_X12_unitsOf : GoodIn wsX12_deals wsX12_unitsOf := goodIn_sub (fa_c (me_s (me_l (me_l (List.mem_of_getElem? (i := 10) rfl)))) (fa_a (fa_a (fa_c (me_s (me_l (me_l (List.mem_of_getElem? (i := 11) rfl)))) (fa_c (me_s (me_l (me_l (List.mem_of_getElem? (i := 12) rfl)))) (fa_c (me_s (me_l (me_l (List.mem_of_getElem? (i := 13) rfl)))) (fa_c (me_s (me_l (me_l (List.mem_of_getElem? (i := 14) rfl)))) (fa_c (me_s (me_l (me_l (List.mem_of_getElem? (i := 15) rfl)))) (fa_c (me_s (me_l (me_l (List.mem_of_getElem? (i := 16) rfl)))) (fa_c (me_s (me_l (me_l (List.mem_of_getElem? (i := 9) rfl)))) (fa_c (me_s (me_l (me_l (List.mem_of_getElem? (i := 17) rfl)))) (fa_c (me_s (me_l (me_l (List.mem_of_getElem? (i := 18) rfl)))) (fa_c (me_s (me_l (me_l (List.mem_of_getElem? (i := 19) rfl)))) (fa_c (me_s (me_l (me_l (List.mem_of_getElem? (i := 20) rfl)))) (fa_c (me_s (me_l (me_l (List.mem_of_getElem? (i := 21) rfl)))) (fa_c (me_s (me_l (me_l (List.mem_of_getElem? (i := 22) rfl)))) (fa_c (me_s (me_l (me_l (List.mem_of_getElem? (i := 23) rfl)))) (fa_c (me_s (me_l (me_r (me_l (List.mem_of_getElem? (i := 0) rfl))))) (fa_c (me_s (me_l (me_r (me_l (List.mem_of_getElem? (i := 1) rfl))))) (fa_c (me_s (me_l (me_r (me_l (List.mem_of_getElem? (i := 2) rfl))))) (fa_c (me_s (me_l (me_r (me_l (List.mem_of_getElem? (i := 3) rfl))))) (fa_c (me_s (me_l (me_r (me_l (List.mem_of_getElem? (i := 4) rfl))))) (fa_c (me_s (me_l (me_r (me_l (List.mem_of_getElem? (i := 5) rfl))))) (fa_c (me_s (me_l (me_r (me_l (List.mem_of_getElem? (i := 6) rfl))))) (fa_c (me_s (me_l (me_r (me_l (List.mem_of_getElem? (i := 7) rfl))))) (fa_c (me_s (me_l (me_r (me_l (List.mem_of_getElem? (i := 8) rfl))))) (fa_c (me_s (me_l (me_r (me_l (List.mem_of_getElem? (i := 9) rfl))))) fa_n)))))))))))))))))))))))) (fa_a (fa_c (me_s (me_l (me_r (me_l (List.mem_of_getElem? (i := 10) rfl))))) (fa_c (me_s (me_l (me_r (me_l (List.mem_of_getElem? (i := 11) rfl))))) (fa_c (me_s (me_l (me_r (me_l (List.mem_of_getElem? (i := 12) rfl))))) (fa_c (me_s (me_l (me_r (me_l (List.mem_of_getElem? (i := 13) rfl))))) (fa_c (me_s (me_l (me_r (me_l (List.mem_of_getElem? (i := 14) rfl))))) (fa_c (me_s (me_l (me_r (me_l (List.mem_of_getElem? (i := 15) rfl))))) (fa_c (me_s (me_l (me_r (me_l (List.mem_of_getElem? (i := 16) rfl))))) (fa_c (me_s (me_l (me_r (me_l (List.mem_of_getElem? (i := 17) rfl))))) (fa_c (me_s (me_l (me_r (me_l (List.mem_of_getElem? (i := 18) rfl))))) (fa_c (me_s (me_l (me_r (me_l (List.mem_of_getElem? (i := 19) rfl))))) (fa_c (me_s (me_l (me_r (me_l (List.mem_of_getElem? (i := 20) rfl))))) (fa_c (me_s (me_l (me_r (me_l (List.mem_of_getElem? (i := 21) rfl))))) (fa_c (me_s (me_l (me_r (me_l (List.mem_of_getElem? (i := 22) rfl))))) (fa_c (me_s (me_l (me_r (me_l (List.mem_of_getElem? (i := 23) rfl))))) (fa_c (me_s (me_l (me_r (me_r (List.mem_of_getElem? (i := 0) rfl))))) (fa_c (me_s (me_l (me_r (me_r (List.mem_of_getElem? (i := 1) rfl))))) (fa_c (me_s (me_l (me_r (me_r (List.mem_of_getElem? (i := 2) rfl))))) (fa_c (me_s (me_l (me_r (me_r (List.mem_of_getElem? (i := 3) rfl))))) (fa_c (me_s (me_l (me_r (me_r (List.mem_of_getElem? (i := 4) rfl))))) (fa_c (me_s (me_l (me_r (me_r (List.mem_of_getElem? (i := 5) rfl))))) (fa_c (me_s (me_l (me_r (me_r (List.mem_of_getElem? (i := 6) rfl))))) (fa_c (me_s (me_l (me_r (me_r (List.mem_of_getElem? (i := 7) rfl))))) (fa_c (me_s (me_l (me_r (me_r (List.mem_of_getElem? (i := 8) rfl))))) (fa_c (me_s (me_l (me_r (me_r (List.mem_of_getElem? (i := 9) rfl))))) fa_n)))))))))))))))))))))))) (fa_c (me_s (me_l (me_r (me_r (List.mem_of_getElem? (i := 10) rfl))))) (fa_c (me_s (me_l (me_r (me_r (List.mem_of_getElem? (i := 11) rfl))))) (fa_c (me_s (me_l (me_r (me_r (List.mem_of_getElem? (i := 12) rfl))))) (fa_c (me_s (me_l (me_r (me_r (List.mem_of_getElem? (i := 13) rfl))))) (fa_c (me_s (me_l (me_r (me_r (List.mem_of_getElem? (i := 14) rfl))))) (fa_c (me_s (me_l (me_r (me_r (List.mem_of_getElem? (i := 15) rfl))))) fa_n)))))))) (fun w h => (me_s (me_r h))))) (by decide +kernel)
set_option maxRecDepth 20000 in
theorem gX12_deals_X12_unitsOf : GoodIn wsX12_deals (wsV RX12 446 RX12 yX12_unitsOf wsX12_unitsOf) := goodIn_app (goodIn_sub (fa_c (me_s (me_l (me_l (List.mem_of_getElem? (i := 6) rfl)))) (fa_c (me_s (me_l (me_l (List.mem_of_getElem? (i := 7) rfl)))) (fa_c (me_s (me_l (me_l (List.mem_of_getElem? (i := 8) rfl)))) (fa_c (me_s (me_l (me_l (List.mem_of_getElem? (i := 9) rfl)))) fa_n)))) (by decide +kernel)) ggX12_deals_X12_unitsOf
theorem dX12_deals_28 : decode cX12_deals 28 = .ok (.invokevirtual 446, 3) := z_dd_182 (by decide +kernel)
theorem dX12_deals_31 : decode cX12_deals 31 = .ok (.iastore, 1) := z_dd_79 (by decide +kernel)
theorem dX12_deals_32 : decode cX12_deals 32 = .ok (.iload_n 3, 1) := z_dd_29 (by decide +kernel)
theorem dX12_deals_33 : decode cX12_deals 33 = .ok (.aload_n 0, 1) := z_dd_42 (by decide +kernel)
theorem dX12_deals_34 : decode cX12_deals 34 = .ok (.getfield 223, 3) := z_dd_180 (by decide +kernel)
theorem dX12_deals_37 : decode cX12_deals 37 = .ok (.iload 4, 2) := z_dd_21 (by decide +kernel)
theorem dX12_deals_39 : decode cX12_deals 39 = .ok (.iaload, 1) := z_dd_46 (by decide +kernel)
theorem dX12_deals_40 : decode cX12_deals 40 = .ok (.iadd, 1) := z_dd_96 (by decide +kernel)
theorem dX12_deals_41 : decode cX12_deals 41 = .ok (.istore_n 3, 1) := z_dd_62 (by decide +kernel)
theorem dX12_deals_42 : decode cX12_deals 42 = .ok (.aload_n 0, 1) := z_dd_42 (by decide +kernel)
theorem dX12_deals_43 : decode cX12_deals 43 = .ok (.getfield 226, 3) := z_dd_180 (by decide +kernel)
theorem dX12_deals_46 : decode cX12_deals 46 = .ok (.iload 4, 2) := z_dd_21 (by decide +kernel)
theorem dX12_deals_48 : decode cX12_deals 48 = .ok (.iconst 0, 1) := z_dd_3 (by decide +kernel)
theorem dX12_deals_49 : decode cX12_deals 49 = .ok (.bastore, 1) := z_dd_84 (by decide +kernel)
theorem dX12_deals_50 : decode cX12_deals 50 = .ok (.iinc 4 1, 3) := z_dd_132 (by decide +kernel)
theorem dX12_deals_53 : decode cX12_deals 53 = .ok (.goto (-48), 3) := z_dd_167 (by decide +kernel)
theorem dX12_other_24 : decode cX12_other 24 = .ok (.iload 4, 2) := z_dd_21 (by decide +kernel)
theorem dX12_other_26 : decode cX12_other 26 = .ok (.iconst 0, 1) := z_dd_3 (by decide +kernel)
theorem dX12_other_27 : decode cX12_other 27 = .ok (.iconst 1, 1) := z_dd_4 (by decide +kernel)
theorem dX12_other_28 : decode cX12_other 28 = .ok (.invokestatic 235, 3) := z_dd_184 (by decide +kernel)
theorem dX12_other_31 : decode cX12_other 31 = .ok (.ifCond .ne 5, 3) := z_dd_154 (by decide +kernel)
theorem dX12_other_36 : decode cX12_other 36 = .ok (.aload_n 0, 1) := z_dd_42 (by decide +kernel)
theorem dX12_other_37 : decode cX12_other 37 = .ok (.iload_n 1, 1) := z_dd_27 (by decide +kernel)
theorem dX12_other_38 : decode cX12_other 38 = .ok (.iload_n 2, 1) := z_dd_28 (by decide +kernel)
set_option maxRecDepth 20000 in
theorem ggX12_other_X12_deals : GoodIn wsX12_other wsX12_deals := goodIn_sub (fa_c (me_s (me_l (me_l (List.mem_of_getElem? (i := 17) rfl)))) (fa_a (fa_a (fa_c (me_s (me_l (me_l (List.mem_of_getElem? (i := 13) rfl)))) (fa_c (me_s (me_l (me_l (List.mem_of_getElem? (i := 0) rfl)))) (fa_c (me_s (me_l (me_l (List.mem_of_getElem? (i := 18) rfl)))) (fa_c (me_s (me_l (me_l (List.mem_of_getElem? (i := 19) rfl)))) (fa_c (me_s (me_l (me_l (List.mem_of_getElem? (i := 20) rfl)))) (fa_c (me_s (me_l (me_l (List.mem_of_getElem? (i := 1) rfl)))) (fa_c (me_s (me_l (me_l (List.mem_of_getElem? (i := 21) rfl)))) (fa_c (me_s (me_l (me_l (List.mem_of_getElem? (i := 22) rfl)))) (fa_c (me_s (me_l (me_l (List.mem_of_getElem? (i := 23) rfl)))) (fa_c (me_s (me_l (me_l (List.mem_of_getElem? (i := 4) rfl)))) (fa_c (me_s (me_l (me_r (me_l (List.mem_of_getElem? (i := 0) rfl))))) (fa_c (me_s (me_l (me_r (me_l (List.mem_of_getElem? (i := 1) rfl))))) (fa_c (me_s (me_l (me_r (me_l (List.mem_of_getElem? (i := 2) rfl))))) (fa_c (me_s (me_l (me_r (me_l (List.mem_of_getElem? (i := 3) rfl))))) (fa_c (me_s (me_l (me_r (me_l (List.mem_of_getElem? (i := 4) rfl))))) (fa_c (me_s (me_l (me_r (me_l (List.mem_of_getElem? (i := 5) rfl))))) (fa_c (me_s (me_l (me_r (me_l (List.mem_of_getElem? (i := 6) rfl))))) (fa_c (me_s (me_l (me_r (me_l (List.mem_of_getElem? (i := 7) rfl))))) (fa_c (me_s (me_l (me_r (me_l (List.mem_of_getElem? (i := 8) rfl))))) (fa_c (me_s (me_l (me_r (me_l (List.mem_of_getElem? (i := 9) rfl))))) (fa_c (me_s (me_l (me_r (me_l (List.mem_of_getElem? (i := 10) rfl))))) (fa_c (me_s (me_l (me_r (me_l (List.mem_of_getElem? (i := 11) rfl))))) (fa_c (me_s (me_l (me_r (me_l (List.mem_of_getElem? (i := 12) rfl))))) (fa_c (me_s (me_l (me_r (me_l (List.mem_of_getElem? (i := 13) rfl))))) fa_n)))))))))))))))))))))))) (fa_a (fa_c (me_s (me_l (me_r (me_l (List.mem_of_getElem? (i := 14) rfl))))) (fa_c (me_s (me_l (me_r (me_l (List.mem_of_getElem? (i := 15) rfl))))) (fa_c (me_s (me_l (me_r (me_l (List.mem_of_getElem? (i := 16) rfl))))) (fa_c (me_s (me_l (me_r (me_l (List.mem_of_getElem? (i := 17) rfl))))) (fa_c (me_s (me_l (me_r (me_l (List.mem_of_getElem? (i := 18) rfl))))) (fa_c (me_s (me_l (me_r (me_l (List.mem_of_getElem? (i := 19) rfl))))) (fa_c (me_s (me_l (me_r (me_l (List.mem_of_getElem? (i := 20) rfl))))) (fa_c (me_s (me_l (me_r (me_l (List.mem_of_getElem? (i := 21) rfl))))) (fa_c (me_s (me_l (me_r (me_l (List.mem_of_getElem? (i := 22) rfl))))) (fa_c (me_s (me_l (me_r (me_l (List.mem_of_getElem? (i := 23) rfl))))) (fa_c (me_s (me_l (me_r (me_r (me_l (List.mem_of_getElem? (i := 0) rfl)))))) (fa_c (me_s (me_l (me_r (me_r (me_l (List.mem_of_getElem? (i := 1) rfl)))))) (fa_c (me_s (me_l (me_r (me_r (me_l (List.mem_of_getElem? (i := 2) rfl)))))) (fa_c (me_s (me_l (me_r (me_r (me_l (List.mem_of_getElem? (i := 3) rfl)))))) (fa_c (me_s (me_l (me_r (me_r (me_l (List.mem_of_getElem? (i := 4) rfl)))))) (fa_c (me_s (me_l (me_r (me_r (me_l (List.mem_of_getElem? (i := 5) rfl)))))) (fa_c (me_s (me_l (me_r (me_r (me_l (List.mem_of_getElem? (i := 6) rfl)))))) (fa_c (me_s (me_l (me_r (me_r (me_l (List.mem_of_getElem? (i := 7) rfl)))))) (fa_c (me_s (me_l (me_r (me_r (me_l (List.mem_of_getElem? (i := 8) rfl)))))) (fa_c (me_s (me_l (me_r (me_r (me_l (List.mem_of_getElem? (i := 9) rfl)))))) (fa_c (me_s (me_l (me_r (me_r (me_l (List.mem_of_getElem? (i := 10) rfl)))))) (fa_c (me_s (me_l (me_r (me_r (me_l (List.mem_of_getElem? (i := 11) rfl)))))) (fa_c (me_s (me_l (me_r (me_r (me_l (List.mem_of_getElem? (i := 12) rfl)))))) (fa_c (me_s (me_l (me_r (me_r (me_l (List.mem_of_getElem? (i := 13) rfl)))))) fa_n)))))))))))))))))))))))) (fa_c (me_s (me_l (me_r (me_r (me_l (List.mem_of_getElem? (i := 14) rfl)))))) (fa_c (me_s (me_l (me_r (me_r (me_l (List.mem_of_getElem? (i := 15) rfl)))))) (fa_c (me_s (me_l (me_r (me_r (me_l (List.mem_of_getElem? (i := 16) rfl)))))) (fa_c (me_s (me_l (me_r (me_r (me_l (List.mem_of_getElem? (i := 17) rfl)))))) (fa_c (me_s (me_l (me_r (me_r (me_l (List.mem_of_getElem? (i := 18) rfl)))))) (fa_c (me_s (me_l (me_r (me_r (me_l (List.mem_of_getElem? (i := 19) rfl)))))) (fa_c (me_s (me_l (me_r (me_r (me_l (List.mem_of_getElem? (i := 20) rfl)))))) (fa_c (me_s (me_l (me_r (me_r (me_l (List.mem_of_getElem? (i := 21) rfl)))))) (fa_c (me_s (me_l (me_r (me_r (me_l (List.mem_of_getElem? (i := 22) rfl)))))) (fa_c (me_s (me_l (me_r (me_r (me_l (List.mem_of_getElem? (i := 23) rfl)))))) (fa_c (me_s (me_l (me_r (me_r (me_r (List.mem_of_getElem? (i := 0) rfl)))))) (fa_c (me_s (me_l (me_r (me_r (me_r (List.mem_of_getElem? (i := 1) rfl)))))) (fa_c (me_s (me_l (me_r (me_r (me_r (List.mem_of_getElem? (i := 2) rfl)))))) (fa_c (me_s (me_l (me_r (me_r (me_r (List.mem_of_getElem? (i := 3) rfl)))))) (fa_c (me_s (me_l (me_r (me_r (me_r (List.mem_of_getElem? (i := 4) rfl)))))) (fa_c (me_s (me_l (me_r (me_r (me_r (List.mem_of_getElem? (i := 5) rfl)))))) (fa_c (me_s (me_l (me_r (me_r (me_r (List.mem_of_getElem? (i := 6) rfl)))))) (fa_c (me_s (me_l (me_r (me_r (me_r (List.mem_of_getElem? (i := 7) rfl)))))) (fa_c (me_s (me_l (me_r (me_r (me_r (List.mem_of_getElem? (i := 8) rfl)))))) fa_n))))))))))))))))))))) (fun w h => (me_s (me_r h))))) (by decide +kernel)
set_option maxRecDepth 20000 in
theorem gX12_other_X12_deals : GoodIn wsX12_other (wsV RX12 521 RX12 yX12_deals wsX12_deals) := goodIn_app (goodIn_sub (fa_c (me_s (me_l (me_l (List.mem_of_getElem? (i := 14) rfl)))) (fa_c (me_s (me_l (me_l (List.mem_of_getElem? (i := 15) rfl)))) (fa_c (me_s (me_l (me_l (List.mem_of_getElem? (i := 16) rfl)))) (fa_c (me_s (me_l (me_l (List.mem_of_getElem? (i := 4) rfl)))) fa_n)))) (by decide +kernel)) ggX12_other_X12_deals
theorem dX12_other_39 : decode cX12_other 39 = .ok (.invokevirtual 521, 3) := z_dd_182 (by decide +kernel)
theorem dX12_other_42 : decode cX12_other 42 = .ok (.iload 4, 2) := z_dd_21 (by decide +kernel)
theorem dX12_other_44 : decode cX12_other 44 = .ok (.ifCond .ne 12, 3) := z_dd_154 (by decide +kernel)
theorem dX12_other_56 : decode cX12_other 56 = .ok (.aload_n 0, 1) := z_dd_42 (by decide +kernel)
theorem dX12_other_57 : decode cX12_other 57 = .ok (.getfield 223, 3) := z_dd_180 (by decide +kernel)
theorem dX12_other_60 : decode cX12_other 60 = .ok (.iload_n 3, 1) := z_dd_29 (by decide +kernel)
theorem dX12_other_61 : decode cX12_other 61 = .ok (.iaload, 1) := z_dd_46 (by decide +kernel)
theorem dX12_other_62 : decode cX12_other 62 = .ok (.aload_n 0, 1) := z_dd_42 (by decide +kernel)
theorem dX12_other_63 : decode cX12_other 63 = .ok (.getfield 22, 3) := z_dd_180 (by decide +kernel)
theorem dX12_other_66 : decode cX12_other 66 = .ok (.iload_n 3, 1) := z_dd_29 (by decide +kernel)
theorem dX12_other_67 : decode cX12_other 67 = .ok (.iaload, 1) := z_dd_46 (by decide +kernel)
theorem dX12_other_68 : decode cX12_other 68 = .ok (.if_icmp .lt 7, 3) := z_dd_161 (by decide +kernel)
theorem dX12_other_75 : decode cX12_other 75 = .ok (.iconst 0, 1) := z_dd_3 (by decide +kernel)
theorem dX12_other_76 : decode cX12_other 76 = .ok (.ireturn, 1) := z_dd_172 (by decide +kernel)
theorem dX12_other_71 : decode cX12_other 71 = .ok (.iconst 1, 1) := z_dd_4 (by decide +kernel)
theorem dX12_other_72 : decode cX12_other 72 = .ok (.goto 4, 3) := z_dd_167 (by decide +kernel)
theorem dX12_other_47 : decode cX12_other 47 = .ok (.aload_n 0, 1) := z_dd_42 (by decide +kernel)
theorem dX12_other_48 : decode cX12_other 48 = .ok (.getfield 223, 3) := z_dd_180 (by decide +kernel)
theorem dX12_other_51 : decode cX12_other 51 = .ok (.iload_n 3, 1) := z_dd_29 (by decide +kernel)
theorem dX12_other_52 : decode cX12_other 52 = .ok (.iaload, 1) := z_dd_46 (by decide +kernel)
theorem dX12_other_53 : decode cX12_other 53 = .ok (.goto 23, 3) := z_dd_167 (by decide +kernel)
theorem dX12_stays_0 : decode cX12_stays 0 = .ok (.iload_n 1, 1) := z_dd_27 (by decide +kernel)
theorem dX12_stays_1 : decode cX12_stays 1 = .ok (.iconst 0, 1) := z_dd_3 (by decide +kernel)
theorem dX12_stays_2 : decode cX12_stays 2 = .ok (.iconst 2, 1) := z_dd_5 (by decide +kernel)
set_option maxRecDepth 20000 in
theorem ggX12_stays_X12_within : GoodIn wsX12_stays wsX12_within := goodIn_sub (fa_c (me_s (me_l (me_l (List.mem_of_getElem? (i := 6) rfl)))) fa_n) (by decide +kernel)
set_option maxRecDepth 20000 in
theorem gX12_stays_X12_within : GoodIn wsX12_stays (va_wsS RX12 235 yX12_within wsX12_within) := goodIn_app (goodIn_sub (fa_c (me_s (me_l (me_l (List.mem_of_getElem? (i := 3) rfl)))) (fa_c (me_s (me_l (me_l (List.mem_of_getElem? (i := 4) rfl)))) (fa_c (me_s (me_l (me_l (List.mem_of_getElem? (i := 5) rfl)))) fa_n))) (by decide +kernel)) ggX12_stays_X12_within
theorem dX12_stays_3 : decode cX12_stays 3 = .ok (.invokestatic 235, 3) := z_dd_184 (by decide +kernel)
theorem dX12_stays_6 : decode cX12_stays 6 = .ok (.ifCond .eq 10, 3) := z_dd_153 (by decide +kernel)
theorem dX12_stays_9 : decode cX12_stays 9 = .ok (.iload_n 2, 1) := z_dd_28 (by decide +kernel)
set_option maxRecDepth 20000 in
theorem ggX12_stays_X12_isMonth : GoodIn wsX12_stays wsX12_isMonth := goodIn_sub (fa_c (me_s (me_l (me_l (List.mem_of_getElem? (i := 9) rfl)))) fa_n) (by decide +kernel)
set_option maxRecDepth 20000 in
theorem gX12_stays_X12_isMonth : GoodIn wsX12_stays (va_wsS RX12 405 yX12_isMonth wsX12_isMonth) := goodIn_app (goodIn_sub (fa_c (me_s (me_l (me_l (List.mem_of_getElem? (i := 7) rfl)))) (fa_c (me_s (me_l (me_l (List.mem_of_getElem? (i := 8) rfl)))) (fa_c (me_s (me_l (me_l (List.mem_of_getElem? (i := 5) rfl)))) fa_n))) (by decide +kernel)) ggX12_stays_X12_isMonth
theorem dX12_stays_10 : decode cX12_stays 10 = .ok (.invokestatic 405, 3) := z_dd_184 (by decide +kernel)
theorem dX12_stays_13 : decode cX12_stays 13 = .ok (.ifCond .ne 5, 3) := z_dd_154 (by decide +kernel)
theorem dX12_stays_18 : decode cX12_stays 18 = .ok (.aload_n 0, 1) := z_dd_42 (by decide +kernel)
theorem dX12_stays_19 : decode cX12_stays 19 = .ok (.iload_n 1, 1) := z_dd_27 (by decide +kernel)
theorem dX12_stays_20 : decode cX12_stays 20 = .ok (.iload_n 2, 1) := z_dd_28 (by decide +kernel)
set_option maxRecDepth 20000 in
theorem ggX12_stays_X12_deals : GoodIn wsX12_stays wsX12_deals := goodIn_sub (fa_c (me_s (me_l (me_l (List.mem_of_getElem? (i := 13) rfl)))) (fa_a (fa_a (fa_c (me_s (me_l (me_l (List.mem_of_getElem? (i := 0) rfl)))) (fa_c (me_s (me_l (me_l (List.mem_of_getElem? (i := 1) rfl)))) (fa_c (me_s (me_l (me_l (List.mem_of_getElem? (i := 14) rfl)))) (fa_c (me_s (me_l (me_l (List.mem_of_getElem? (i := 15) rfl)))) (fa_c (me_s (me_l (me_l (List.mem_of_getElem? (i := 16) rfl)))) (fa_c (me_s (me_l (me_l (List.mem_of_getElem? (i := 2) rfl)))) (fa_c (me_s (me_l (me_l (List.mem_of_getElem? (i := 17) rfl)))) (fa_c (me_s (me_l (me_l (List.mem_of_getElem? (i := 18) rfl)))) (fa_c (me_s (me_l (me_l (List.mem_of_getElem? (i := 19) rfl)))) (fa_c (me_s (me_l (me_l (List.mem_of_getElem? (i := 5) rfl)))) (fa_c (me_s (me_l (me_l (List.mem_of_getElem? (i := 20) rfl)))) (fa_c (me_s (me_l (me_l (List.mem_of_getElem? (i := 21) rfl)))) (fa_c (me_s (me_l (me_l (List.mem_of_getElem? (i := 22) rfl)))) (fa_c (me_s (me_l (me_l (List.mem_of_getElem? (i := 23) rfl)))) (fa_c (me_s (me_l (me_r (me_l (List.mem_of_getElem? (i := 0) rfl))))) (fa_c (me_s (me_l (me_r (me_l (List.mem_of_getElem? (i := 1) rfl))))) (fa_c (me_s (me_l (me_r (me_l (List.mem_of_getElem? (i := 2) rfl))))) (fa_c (me_s (me_l (me_r (me_l (List.mem_of_getElem? (i := 3) rfl))))) (fa_c (me_s (me_l (me_r (me_l (List.mem_of_getElem? (i := 4) rfl))))) (fa_c (me_s (me_l (me_r (me_l (List.mem_of_getElem? (i := 5) rfl))))) (fa_c (me_s (me_l (me_r (me_l (List.mem_of_getElem? (i := 6) rfl))))) (fa_c (me_s (me_l (me_r (me_l (List.mem_of_getElem? (i := 7) rfl))))) (fa_c (me_s (me_l (me_r (me_l (List.mem_of_getElem? (i := 8) rfl))))) (fa_c (me_s (me_l (me_r (me_l (List.mem_of_getElem? (i := 9) rfl))))) fa_n)))))))))))))))))))))))) (fa_a (fa_c (me_s (me_l (me_r (me_l (List.mem_of_getElem? (i := 10) rfl))))) (fa_c (me_s (me_l (me_r (me_l (List.mem_of_getElem? (i := 11) rfl))))) (fa_c (me_s (me_l (me_r (me_l (List.mem_of_getElem? (i := 12) rfl))))) (fa_c (me_s (me_l (me_r (me_l (List.mem_of_getElem? (i := 13) rfl))))) (fa_c (me_s (me_l (me_r (me_l (List.mem_of_getElem? (i := 14) rfl))))) (fa_c (me_s (me_l (me_r (me_l (List.mem_of_getElem? (i := 15) rfl))))) (fa_c (me_s (me_l (me_r (me_l (List.mem_of_getElem? (i := 16) rfl))))) (fa_c (me_s (me_l (me_r (me_l (List.mem_of_getElem? (i := 17) rfl))))) (fa_c (me_s (me_l (me_r (me_l (List.mem_of_getElem? (i := 18) rfl))))) (fa_c (me_s (me_l (me_r (me_l (List.mem_of_getElem? (i := 19) rfl))))) (fa_c (me_s (me_l (me_r (me_l (List.mem_of_getElem? (i := 20) rfl))))) (fa_c (me_s (me_l (me_r (me_l (List.mem_of_getElem? (i := 21) rfl))))) (fa_c (me_s (me_l (me_r (me_l (List.mem_of_getElem? (i := 22) rfl))))) (fa_c (me_s (me_l (me_r (me_l (List.mem_of_getElem? (i := 23) rfl))))) (fa_c (me_s (me_l (me_r (me_r (me_l (List.mem_of_getElem? (i := 0) rfl)))))) (fa_c (me_s (me_l (me_r (me_r (me_l (List.mem_of_getElem? (i := 1) rfl)))))) (fa_c (me_s (me_l (me_r (me_r (me_l (List.mem_of_getElem? (i := 2) rfl)))))) (fa_c (me_s (me_l (me_r (me_r (me_l (List.mem_of_getElem? (i := 3) rfl)))))) (fa_c (me_s (me_l (me_r (me_r (me_l (List.mem_of_getElem? (i := 4) rfl)))))) (fa_c (me_s (me_l (me_r (me_r (me_l (List.mem_of_getElem? (i := 5) rfl)))))) (fa_c (me_s (me_l (me_r (me_r (me_l (List.mem_of_getElem? (i := 6) rfl)))))) (fa_c (me_s (me_l (me_r (me_r (me_l (List.mem_of_getElem? (i := 7) rfl)))))) (fa_c (me_s (me_l (me_r (me_r (me_l (List.mem_of_getElem? (i := 8) rfl)))))) (fa_c (me_s (me_l (me_r (me_r (me_l (List.mem_of_getElem? (i := 9) rfl)))))) fa_n)))))))))))))))))))))))) (fa_c (me_s (me_l (me_r (me_r (me_l (List.mem_of_getElem? (i := 10) rfl)))))) (fa_c (me_s (me_l (me_r (me_r (me_l (List.mem_of_getElem? (i := 11) rfl)))))) (fa_c (me_s (me_l (me_r (me_r (me_l (List.mem_of_getElem? (i := 12) rfl)))))) (fa_c (me_s (me_l (me_r (me_r (me_l (List.mem_of_getElem? (i := 13) rfl)))))) (fa_c (me_s (me_l (me_r (me_r (me_l (List.mem_of_getElem? (i := 14) rfl)))))) (fa_c (me_s (me_l (me_r (me_r (me_l (List.mem_of_getElem? (i := 15) rfl)))))) (fa_c (me_s (me_l (me_r (me_r (me_l (List.mem_of_getElem? (i := 16) rfl)))))) (fa_c (me_s (me_l (me_r (me_r (me_l (List.mem_of_getElem? (i := 17) rfl)))))) (fa_c (me_s (me_l (me_r (me_r (me_l (List.mem_of_getElem? (i := 18) rfl)))))) (fa_c (me_s (me_l (me_r (me_r (me_l (List.mem_of_getElem? (i := 19) rfl)))))) (fa_c (me_s (me_l (me_r (me_r (me_l (List.mem_of_getElem? (i := 20) rfl)))))) (fa_c (me_s (me_l (me_r (me_r (me_l (List.mem_of_getElem? (i := 21) rfl)))))) (fa_c (me_s (me_l (me_r (me_r (me_l (List.mem_of_getElem? (i := 22) rfl)))))) (fa_c (me_s (me_l (me_r (me_r (me_l (List.mem_of_getElem? (i := 23) rfl)))))) (fa_c (me_s (me_l (me_r (me_r (me_r (List.mem_of_getElem? (i := 0) rfl)))))) (fa_c (me_s (me_l (me_r (me_r (me_r (List.mem_of_getElem? (i := 1) rfl)))))) (fa_c (me_s (me_l (me_r (me_r (me_r (List.mem_of_getElem? (i := 2) rfl)))))) (fa_c (me_s (me_l (me_r (me_r (me_r (List.mem_of_getElem? (i := 3) rfl)))))) (fa_c (me_s (me_l (me_r (me_r (me_r (List.mem_of_getElem? (i := 4) rfl)))))) fa_n))))))))))))))))))))) (fun w h => (me_s (me_r h))))) (by decide +kernel)
set_option maxRecDepth 20000 in
theorem gX12_stays_X12_deals : GoodIn wsX12_stays (wsV RX12 521 RX12 yX12_deals wsX12_deals) := goodIn_app (goodIn_sub (fa_c (me_s (me_l (me_l (List.mem_of_getElem? (i := 10) rfl)))) (fa_c (me_s (me_l (me_l (List.mem_of_getElem? (i := 11) rfl)))) (fa_c (me_s (me_l (me_l (List.mem_of_getElem? (i := 12) rfl)))) (fa_c (me_s (me_l (me_l (List.mem_of_getElem? (i := 5) rfl)))) fa_n)))) (by decide +kernel)) ggX12_stays_X12_deals
theorem dX12_stays_21 : decode cX12_stays 21 = .ok (.invokevirtual 521, 3) := z_dd_182 (by decide +kernel)
theorem dX12_stays_24 : decode cX12_stays 24 = .ok (.iconst 0, 1) := z_dd_3 (by decide +kernel)
theorem dX12_stays_25 : decode cX12_stays 25 = .ok (.istore_n 3, 1) := z_dd_62 (by decide +kernel)
theorem dX12_stays_26 : decode cX12_stays 26 = .ok (.iconst 0, 1) := z_dd_3 (by decide +kernel)
theorem dX12_stays_27 : decode cX12_stays 27 = .ok (.istore 4, 2) := z_dd_54 (by decide +kernel)
theorem dX12_stays_29 : decode cX12_stays 29 = .ok (.iload 4, 2) := z_dd_21 (by decide +kernel)
theorem dX12_stays_31 : decode cX12_stays 31 = .ok (.aload_n 0, 1) := z_dd_42 (by decide +kernel)
theorem dX12_stays_32 : decode cX12_stays 32 = .ok (.getfield 229, 3) := z_dd_180 (by decide +kernel)
theorem dX12_stays_35 : decode cX12_stays 35 = .ok (.if_icmp .ge 29, 3) := z_dd_162 (by decide +kernel)
theorem dX12_stays_64 : decode cX12_stays 64 = .ok (.iload_n 3, 1) := z_dd_29 (by decide +kernel)
theorem dX12_stays_65 : decode cX12_stays 65 = .ok (.ireturn, 1) := z_dd_172 (by decide +kernel)
theorem dX12_stays_38 : decode cX12_stays 38 = .ok (.aload_n 0, 1) := z_dd_42 (by decide +kernel)
theorem dX12_stays_39 : decode cX12_stays 39 = .ok (.getfield 223, 3) := z_dd_180 (by decide +kernel)
theorem dX12_stays_42 : decode cX12_stays 42 = .ok (.iload 4, 2) := z_dd_21 (by decide +kernel)
theorem dX12_stays_44 : decode cX12_stays 44 = .ok (.iaload, 1) := z_dd_46 (by decide +kernel)
theorem dX12_stays_45 : decode cX12_stays 45 = .ok (.aload_n 0, 1) := z_dd_42 (by decide +kernel)
theorem dX12_stays_46 : decode cX12_stays 46 = .ok (.getfield 22, 3) := z_dd_180 (by decide +kernel)
theorem dX12_stays_49 : decode cX12_stays 49 = .ok (.iload 4, 2) := z_dd_21 (by decide +kernel)
theorem dX12_stays_51 : decode cX12_stays 51 = .ok (.iaload, 1) := z_dd_46 (by decide +kernel)
theorem dX12_stays_52 : decode cX12_stays 52 = .ok (.if_icmp .lt 6, 3) := z_dd_161 (by decide +kernel)
theorem dX12_stays_58 : decode cX12_stays 58 = .ok (.iinc 4 1, 3) := z_dd_132 (by decide +kernel)
theorem dX12_stays_61 : decode cX12_stays 61 = .ok (.goto (-32), 3) := z_dd_167 (by decide +kernel)
theorem dX12_stays_55 : decode cX12_stays 55 = .ok (.iinc 3 1, 3) := z_dd_132 (by decide +kernel)
theorem dX12_stays_16 : decode cX12_stays 16 = .ok (.iconst (-1), 1) := z_dd_2 (by decide +kernel)
theorem dX12_stays_17 : decode cX12_stays 17 = .ok (.ireturn, 1) := z_dd_172 (by decide +kernel)

/-- how many of the first n places hold something -/
noncomputable def z_ct (I : z_I) (c : Nat) : Nat → Nat
  | 0 => 0
  | n + 1 => z_ct I c n + (if I c n = 0 then 0 else 1)
theorem z_ct_0 {I : z_I} {c : Nat} : ∀ n : Nat, (∀ j, j < n → I c j = 0) → z_ct I c n = 0
  | 0, _ => rfl
  | n + 1, h => by
    show z_ct I c n + (if I c n = 0 then 0 else 1) = 0
    rw [z_ct_0 n (fun j hj => h j (by omega)), if_pos (h n (by omega))]
theorem z_ct_1 {I : z_I} {c : Nat} : ∀ n : Nat, (∀ j, j < n → I c j ≠ 0) → z_ct I c n = n
  | 0, _ => rfl
  | n + 1, h => by
    show z_ct I c n + (if I c n = 0 then 0 else 1) = n + 1
    rw [z_ct_1 n (fun j hj => h j (by omega)), if_neg (h n (by omega))]
theorem z_ct_c {I K : z_I} {c : Nat} : ∀ n : Nat, (∀ j, j < n → K c j = I c j) → z_ct K c n = z_ct I c n
  | 0, _ => rfl
  | n + 1, h => by
    show z_ct K c n + (if K c n = 0 then 0 else 1) = z_ct I c n + (if I c n = 0 then 0 else 1)
    rw [z_ct_c n (fun j hj => h j (by omega)), h n (by omega)]
theorem z_ct_u {I K : z_I} {c b : Nat} (h0 : I c b = 0) (h1 : ¬ K c b = 0) : ∀ n : Nat, b < n → (∀ j, j < n → j ≠ b → K c j = I c j) → z_ct K c n = z_ct I c n + 1
  | 0, hb, _ => absurd hb (by omega)
  | n + 1, hb, h => by
    show z_ct K c n + (if K c n = 0 then 0 else 1) = z_ct I c n + (if I c n = 0 then 0 else 1) + 1
    by_cases q : b = n
    · rw [← q, if_neg h1, if_pos h0, z_ct_c b (fun j hj => h j (by omega) (by omega))]
    · rw [z_ct_u h0 h1 n (by omega) (fun j hj hq => h j (by omega) hq), h n (by omega) (fun e => q e.symm)]
      omega
theorem z_ct_b {I : z_I} {c : Nat} {b h n : Int} {t : Int} (ht : (z_ct I c n.toNat : Int) = t) (hlt : t < n) (hn : n ≤ h) (hall : b < 0 → ∀ j : Nat, (j : Int) < h → I c j ≠ 0) : 0 ≤ b := by
  refine Int.not_lt.mp fun q => ?_
  have := z_ct_1 n.toNat (fun j hj => hall q j (by omega))
  omega
noncomputable def L_X12_deals : z_L := [(69, 999), (70, 999), (24, 999), (30, 999)]
theorem zj_X12_deals_X12 : ∀ w ∈ wsX120, w ∈ wsX12_deals := fun w h => (List.mem_cons_of_mem _ (List.mem_append_right _ h))
set_option maxHeartbeats 8000000 in
set_option maxRecDepth 100000 in
theorem sx_X12_deals (l : Launch) (G : z_G) (ad : Nat → Nat) (I : z_I) (J : z_J) (hma : z_ima I) (hmb : z_imb I) (hAtf : z_rg 11 0 288 I) (hAtm : z_rg 12 0 24 I) (hNd : z_Nd I) (hAsf : z_rg 19 0 6200 I) (hAst : z_rg 20 0 6200 I) (hAsc : z_rg 18 (-1) 6199 I) (hEx : z_Ex I) (a1 : Int32) (a2 : Int32) : z_Mv l yX12_deals wsX12_deals { frames := 6, cells := 0, slots := 0, locals := 133 } [.ref (ad 0), .int a1, .int a2] G (shM, ad, I, J, PM ad) (fun u1 => ∃ (I1 : z_I) (J1 : z_J), u1 = (shM, ad, I1, J1, PM ad) ∧ z_ima I1 ∧ z_imb I1 ∧ z_rg 11 0 288 I1 ∧ z_rg 12 0 24 I1 ∧ z_Nd I1 ∧ z_rg 19 0 6200 I1 ∧ z_rg 20 0 6200 I1 ∧ z_rg 18 (-1) 6199 I1 ∧ z_Ex I1 ∧ z_fr L_X12_deals I1 I) 0 0 := by
  intro sz
  refine z_headQ (cc := cX12_deals) (maxL := 7) (ret := none) (by decide) rfl (Nat.le_of_ble_eq_true rfl) ?_
  intro p e s m below meth c0 ls hIn hK hsz hW hl
  obtain ⟨hx, hb, hr, hml, hown, hts, hlocks, hname⟩ := hIn
  subst hsz
  have hown : s.vm.findClass RX12 = some m.cls := hown
  have hA : ∀ q : Nat, s.heap.size ≤ q → z_A (shM, ad, I, J, PM ad) s.heap.size q := fun q h => Or.inr h
  generalize hAe : z_A (shM, ad, I, J, PM ad) s.heap.size = A at *
  have hS : va_S A s.heap s.heap [] := va_S.rf
  have hl : lv_has ls 7 [(0, .ref (ad 0)), (1, .int a1), (2, .int a2)] := hl
  refine lv_iconst (v := 0) hx hb dX12_deals_0 (by decide) ?_
  refine lv_istore_n (lv' := [(3, .int 0), (0, .ref (ad 0)), (1, .int a1), (2, .int a2)]) hx hb dX12_deals_1 rfl hl (by decide) rfl (fun ls hl => ?_)
  refine lv_iconst (v := 0) hx hb dX12_deals_2 (by decide) ?_
  refine lv_istore (lv' := [(4, .int 0), (3, .int 0), (0, .ref (ad 0)), (1, .int a1), (2, .int a2)]) hx hb dX12_deals_3 hl (by decide) rfl (fun ls hl => ?_)
  have lp1 : ∀ (f : Nat) (y2 : Int32) (y3 : Int32) (I4 : z_I) (J5 : z_J) (H : Heap) (locs : List Loc) (ls : Array Slot), (2147483647 < y2.toInt + (f : Int)) → (0 ≤ y2.toInt) → (z_ima I4) → (z_imb I4) → (z_rg 11 0 288 I4) → (z_rg 12 0 24 I4) → (z_Nd I4) → (z_rg 19 0 6200 I4) → (z_rg 20 0 6200 I4) → (z_rg 18 (-1) 6199 I4) → (z_Ex I4) → ((I4 0 1).toInt = (I 0 1).toInt) → (∀ j : Nat, (j : Int) < y2.toInt → I4 70 j = 0) → (z_fr L_X12_deals I4 I) → z_W G A (shM, ad, I4, J5, PM ad) H → va_S A s.heap H locs → lv_has ls 7 [(4, .int y2), (3, .int y3), (0, .ref (ad 0)), (1, .int a1), (2, .int a2)] → W p l e (headSpec wsX12_deals { frames := 6, cells := 0, slots := 0, locals := 133 }).room s m ([.ref (ad 0), .int a1, .int a2] : List Value).toArray below meth c0 H locs 0 0 (MQ below (va_Qv (fun (u1 : z_U) => ∃ (I1 : z_I) (J1 : z_J), u1 = (shM, ad, I1, J1, PM ad) ∧ z_ima I1 ∧ z_imb I1 ∧ z_rg 11 0 288 I1 ∧ z_rg 12 0 24 I1 ∧ z_Nd I1 ∧ z_rg 19 0 6200 I1 ∧ z_rg 20 0 6200 I1 ∧ z_rg 18 (-1) 6199 I1 ∧ z_Ex I1 ∧ z_fr L_X12_deals I1 I) (z_B G A) A) ([.ref (ad 0), .int a1, .int a2] : List Value).toArray s 0 0 A) (F0 m 5 ls []) := by
    intro f
    induction f with
    | zero => intro y2 y3 I4 J5 H locs ls lp1m lp1l4 lp1ma lp1mb lp1Atf lp1Atm lp1Nd lp1Asf lp1Ast lp1Asc lp1Ex lp1H lp1Z lp1fr hW hS hl; exact absurd lp1m (by have := Int32.toInt_lt y2; have := Int32.le_toInt y2; omega)
    | succ f lp1ih =>
      intro y2 y3 I4 J5 H locs ls lp1m lp1l4 lp1ma lp1mb lp1Atf lp1Atm lp1Nd lp1Asf lp1Ast lp1Asc lp1Ex lp1H lp1Z lp1fr hW hS hl
      refine lv_iload hx hb dX12_deals_5 (lv_at hl 0 rfl) ?_
      refine lv_aload_n hx hb dX12_deals_7 rfl (lv_at hl 2 rfl) ?_
      have r6 : 0 ≤ (I4 0 1).toInt ∧ (I4 0 1).toInt ≤ 30 := lp1ma.2.1
      refine z_get (T := TX12) (N := 96) (ci := 12) (i := 0) (v := .int (I4 0 1)) hx hb hts zj_X12_deals_X12 hown hK hW rfl rfl 1 (by decide) (hts (.fieldLink RX12 229 "PetrolBoardModel" "holders" "I") (me_s (me_l (me_l (List.mem_of_getElem? (i := 0) rfl))))) (fun _ h => h) rfl dX12_deals_8 ?_
      refine lv_icmp_ge (tgt := 56) hx hb dX12_deals_11 (by decide) (fun c7 => ?_) (fun c7 => ?_)
      · have g8 := z_f_ge rfl rfl c7
        have b9 := Int32.toInt_lt y2
        refine lv_iload_n hx hb dX12_deals_56 rfl (lv_at hl 3 rfl) ?_
        refine lv_if_ne (tgt := 61) hx hb dX12_deals_57 (by decide) (fun c10 => ?_) (fun c10 => ?_)
        · have g11 := z_f_ne rfl z_l0 c10
          have b12 := Int32.toInt_lt a1
          refine lv_iconst (v := 0) hx hb dX12_deals_61 (by decide) ?_
          refine lv_istore (lv' := [(4, .int 0), (3, .int y3), (0, .ref (ad 0)), (1, .int a1), (2, .int a2)]) hx hb dX12_deals_62 hl (by decide) rfl (fun ls hl => ?_)
          have lp13 : ∀ (f : Nat) (y14 : Int32) (y15 : Int32) (I16 : z_I) (J17 : z_J) (H : Heap) (locs : List Loc) (ls : Array Slot), (2147483647 < y14.toInt + (f : Int)) → (0 ≤ y14.toInt) → (z_ima I16) → (z_imb I16) → (z_rg 11 0 288 I16) → (z_rg 12 0 24 I16) → (z_Nd I16) → (z_rg 19 0 6200 I16) → (z_rg 20 0 6200 I16) → (z_rg 18 (-1) 6199 I16) → (z_Ex I16) → ((I16 0 1).toInt = (I 0 1).toInt) → (a1.toInt = 2 → (z_ct I16 70 (I 0 1).toInt.toNat : Int) = y14.toInt) → (z_fr L_X12_deals I16 I) → z_W G A (shM, ad, I16, J17, PM ad) H → va_S A s.heap H locs → lv_has ls 7 [(4, .int y14), (3, .int y15), (0, .ref (ad 0)), (1, .int a1), (2, .int a2)] → W p l e (headSpec wsX12_deals { frames := 6, cells := 0, slots := 0, locals := 133 }).room s m ([.ref (ad 0), .int a1, .int a2] : List Value).toArray below meth c0 H locs 0 0 (MQ below (va_Qv (fun (u1 : z_U) => ∃ (I1 : z_I) (J1 : z_J), u1 = (shM, ad, I1, J1, PM ad) ∧ z_ima I1 ∧ z_imb I1 ∧ z_rg 11 0 288 I1 ∧ z_rg 12 0 24 I1 ∧ z_Nd I1 ∧ z_rg 19 0 6200 I1 ∧ z_rg 20 0 6200 I1 ∧ z_rg 18 (-1) 6199 I1 ∧ z_Ex I1 ∧ z_fr L_X12_deals I1 I) (z_B G A) A) ([.ref (ad 0), .int a1, .int a2] : List Value).toArray s 0 0 A) (F0 m 64 ls []) := by
            intro f
            induction f with
            | zero => intro y14 y15 I16 J17 H locs ls lp13m lp13l4 lp13ma lp13mb lp13Atf lp13Atm lp13Nd lp13Asf lp13Ast lp13Asc lp13Ex lp13H lp13C lp13fr hW hS hl; exact absurd lp13m (by have := Int32.toInt_lt y14; have := Int32.le_toInt y14; omega)
            | succ f lp13ih =>
              intro y14 y15 I16 J17 H locs ls lp13m lp13l4 lp13ma lp13mb lp13Atf lp13Atm lp13Nd lp13Asf lp13Ast lp13Asc lp13Ex lp13H lp13C lp13fr hW hS hl
              refine lv_iload hx hb dX12_deals_64 (lv_at hl 0 rfl) ?_
              refine lv_aload_n hx hb dX12_deals_66 rfl (lv_at hl 2 rfl) ?_
              have r18 : 0 ≤ (I16 0 1).toInt ∧ (I16 0 1).toInt ≤ 30 := lp13ma.2.1
              refine z_get (T := TX12) (N := 96) (ci := 12) (i := 0) (v := .int (I16 0 1)) hx hb hts zj_X12_deals_X12 hown hK hW rfl rfl 1 (by decide) (hts (.fieldLink RX12 229 "PetrolBoardModel" "holders" "I") (me_s (me_l (me_l (List.mem_of_getElem? (i := 0) rfl))))) (fun _ h => h) rfl dX12_deals_67 ?_
              refine lv_icmp_ge (tgt := 197) hx hb dX12_deals_70 (by decide) (fun c19 => ?_) (fun c19 => ?_)
              · have g20 := z_f_ge rfl rfl c19
                have b21 := Int32.toInt_lt y14
                exact z_vret hx hb hr hK hS (Nat.le_of_ble_eq_true rfl) (Nat.le_of_ble_eq_true rfl) hlocks dX12_deals_197 (shM, ad, I16, J17, PM ad) hW ⟨I16, J17, rfl, ⟨(by show 0 ≤ (I16 0 0).toInt ∧ (I16 0 0).toInt ≤ 719; exact lp13ma.1), (by show 0 ≤ (I16 0 1).toInt ∧ (I16 0 1).toInt ≤ 30; exact lp13ma.2.1), (by show 0 ≤ (I16 0 2).toInt ∧ (I16 0 2).toInt ≤ 200; exact lp13ma.2.2)⟩, ⟨(by show 0 ≤ (I16 0 13).toInt ∧ (I16 0 13).toInt ≤ 12; exact lp13mb.1), (by show 0 ≤ (I16 0 14).toInt ∧ (I16 0 14).toInt ≤ 288; exact lp13mb.2)⟩, lp13Atf, lp13Atm, lp13Nd, lp13Asf, lp13Ast, lp13Asc, lp13Ex, lp13fr⟩
              · have g22 := z_f_nge rfl rfl c19
                have b23 := Int32.toInt_lt y14
                refine lv_iload hx hb dX12_deals_73 (lv_at hl 0 rfl) ?_
                refine lv_istore (lv' := [(5, .int y14), (4, .int y14), (3, .int y15), (0, .ref (ad 0)), (1, .int a1), (2, .int a2)]) hx hb dX12_deals_75 hl (by decide) rfl (fun ls hl => ?_)
                refine lv_iload_n hx hb dX12_deals_77 rfl (lv_at hl 4 rfl) ?_
                refine lv_iconst (v := 2) hx hb dX12_deals_78 (by decide) ?_
                refine lv_icmp_ne (tgt := 178) hx hb dX12_deals_79 (by decide) (fun c24 => ?_) (fun c24 => ?_)
                · have g25 := z_f_ne rfl z_l2 c24
                  have b26 := Int32.toInt_lt a1
                  refine lv_aload_n hx hb dX12_deals_178 rfl (lv_at hl 3 rfl) ?_
                  refine z_get (T := TX12) (N := 96) (ci := 12) (i := 0) (v := .ref (ad 69)) hx hb hts zj_X12_deals_X12 hown hK hW rfl rfl 94 (by decide) (hts (.fieldLink RX12 223 "PetrolBoardModel" "deal" "[I") (me_s (me_l (me_l (List.mem_of_getElem? (i := 1) rfl))))) (fun _ h => h) rfl dX12_deals_179 ?_
                  refine lv_iload hx hb dX12_deals_182 (lv_at hl 0 rfl) ?_
                  refine lv_iload_n hx hb dX12_deals_184 rfl (lv_at hl 2 rfl) ?_
                  refine lv_aload_n hx hb dX12_deals_185 rfl (lv_at hl 3 rfl) ?_
                  refine z_get (T := TX12) (N := 96) (ci := 12) (i := 0) (v := .int (I16 0 1)) hx hb hts zj_X12_deals_X12 hown hK hW rfl rfl 1 (by decide) (hts (.fieldLink RX12 229 "PetrolBoardModel" "holders" "I") (me_s (me_l (me_l (List.mem_of_getElem? (i := 0) rfl))))) (fun _ h => h) rfl dX12_deals_186 ?_
                  refine lv_idiv hx hb dX12_deals_189 (z_nz rfl (by omega)) ?_
                  refine lv_topi (fun x27 ex27 => ?_)
                  refine z_iast (i := 69) hx hb hK hW hS rfl (z_ix rfl (by omega) (by omega)) dX12_deals_190 (fun H locs hz1 hW hS => ?_)
                  obtain ⟨I28, eI28⟩ : ∃ K : z_I, K = z_up I16 69 y14.toNatClampNeg x27 := ⟨_, rfl⟩
                  rw [← eI28] at hW
                  have f29 := z_fr_a lp13fr (show z_wa L_X12_deals 69 = true by decide) eI28
                  have a30 := z_rg_n lp13Atf (by decide) eI28
                  have a31 := z_rg_n lp13Atm (by decide) eI28
                  have a32 := z_Nd_n lp13Nd (by decide) eI28
                  have a33 := z_rg_n lp13Asf (by decide) eI28
                  have a34 := z_rg_n lp13Ast (by decide) eI28
                  have a35 := z_rg_n lp13Asc (by decide) eI28
                  have a36 := z_Ex_n lp13Ex (by decide) eI28
                  obtain ⟨x37, ex37⟩ : ∃ y : Int32, y = y14 + 1 := ⟨_, rfl⟩
                  have tx37 : x37.toInt = y14.toInt + 1 := z_tadd ex37 rfl z_l1 (by omega) (by omega)
                  refine lv_iinc (v := x37) (lv' := [(4, .int x37), (5, .int y14), (3, .int y15), (0, .ref (ad 0)), (1, .int a1), (2, .int a2)]) hx hb dX12_deals_191 hl (k := 1) rfl (by rw [ex37]; rfl) (by decide) rfl (fun ls hl => ?_)
                  refine lv_goto (tgt := 64) hx hb dX12_deals_194 (by decide) ?_
                  exact lp13ih x37 y15 I28 J17 _ _ _ (by omega) (by omega) ⟨(by show 0 ≤ (I28 0 0).toInt ∧ (I28 0 0).toInt ≤ 719; rw [eI28, z_up_n (by decide)]; exact lp13ma.1), (by show 0 ≤ (I28 0 1).toInt ∧ (I28 0 1).toInt ≤ 30; rw [eI28, z_up_n (by decide)]; exact lp13ma.2.1), (by show 0 ≤ (I28 0 2).toInt ∧ (I28 0 2).toInt ≤ 200; rw [eI28, z_up_n (by decide)]; exact lp13ma.2.2)⟩ ⟨(by show 0 ≤ (I28 0 13).toInt ∧ (I28 0 13).toInt ≤ 12; rw [eI28, z_up_n (by decide)]; exact lp13mb.1), (by show 0 ≤ (I28 0 14).toInt ∧ (I28 0 14).toInt ≤ 288; rw [eI28, z_up_n (by decide)]; exact lp13mb.2)⟩ a30 a31 a32 a33 a34 a35 a36 (congrArg Int32.toInt (f29 0 1 (by decide))) (fun q => absurd q (by omega)) f29 hW hS (lv_sub hl [0, 2, 3, 4, 5] rfl)
                · have g38 := z_f_eq rfl z_l2 c24
                  have b39 := Int32.toInt_lt a1
                  refine lv_iconst (v := (-1)) hx hb dX12_deals_82 (by decide) ?_
                  refine lv_istore (lv' := [(5, .int (-1)), (4, .int y14), (3, .int y15), (0, .ref (ad 0)), (1, .int a1), (2, .int a2)]) hx hb dX12_deals_83 hl (by decide) rfl (fun ls hl => ?_)
                  refine lv_iconst (v := 0) hx hb dX12_deals_85 (by decide) ?_
                  refine lv_istore (lv' := [(6, .int 0), (5, .int (-1)), (4, .int y14), (3, .int y15), (0, .ref (ad 0)), (1, .int a1), (2, .int a2)]) hx hb dX12_deals_86 hl (by decide) rfl (fun ls hl => ?_)
                  have lp40 : ∀ (f : Nat) (y41 : Int32) (y42 : Int32) (H : Heap) (locs : List Loc) (ls : Array Slot), (2147483647 < y41.toInt + (f : Int)) → (0 ≤ y41.toInt) → ((-1) ≤ y42.toInt) → (y42.toInt ≤ 29) → (y42.toInt < 0 → ∀ j : Nat, (j : Int) < y41.toInt → I16 70 j ≠ 0) → (0 ≤ y42.toInt → I16 70 (y42 : Int32).toNatClampNeg = 0 ∧ y42.toInt < (I 0 1).toInt) → z_W G A (shM, ad, I16, J17, PM ad) H → va_S A s.heap H locs → lv_has ls 7 [(6, .int y41), (5, .int y42), (4, .int y14), (3, .int y15), (0, .ref (ad 0)), (1, .int a1), (2, .int a2)] → W p l e (headSpec wsX12_deals { frames := 6, cells := 0, slots := 0, locals := 133 }).room s m ([.ref (ad 0), .int a1, .int a2] : List Value).toArray below meth c0 H locs 0 0 (MQ below (va_Qv (fun (u1 : z_U) => ∃ (I1 : z_I) (J1 : z_J), u1 = (shM, ad, I1, J1, PM ad) ∧ z_ima I1 ∧ z_imb I1 ∧ z_rg 11 0 288 I1 ∧ z_rg 12 0 24 I1 ∧ z_Nd I1 ∧ z_rg 19 0 6200 I1 ∧ z_rg 20 0 6200 I1 ∧ z_rg 18 (-1) 6199 I1 ∧ z_Ex I1 ∧ z_fr L_X12_deals I1 I) (z_B G A) A) ([.ref (ad 0), .int a1, .int a2] : List Value).toArray s 0 0 A) (F0 m 88 ls []) := by
                    intro f
                    induction f with
                    | zero => intro y41 y42 H locs ls lp40m lp40l6 lp40l5 lp40u5 lp40A lp40B hW hS hl; exact absurd lp40m (by have := Int32.toInt_lt y41; have := Int32.le_toInt y41; omega)
                    | succ f lp40ih =>
                      intro y41 y42 H locs ls lp40m lp40l6 lp40l5 lp40u5 lp40A lp40B hW hS hl
                      refine lv_iload hx hb dX12_deals_88 (lv_at hl 0 rfl) ?_
                      refine lv_aload_n hx hb dX12_deals_90 rfl (lv_at hl 4 rfl) ?_
                      refine z_get (T := TX12) (N := 96) (ci := 12) (i := 0) (v := .int (I16 0 1)) hx hb hts zj_X12_deals_X12 hown hK hW rfl rfl 1 (by decide) (hts (.fieldLink RX12 229 "PetrolBoardModel" "holders" "I") (me_s (me_l (me_l (List.mem_of_getElem? (i := 0) rfl))))) (fun _ h => h) rfl dX12_deals_91 ?_
                      refine lv_icmp_ge (tgt := 139) hx hb dX12_deals_94 (by decide) (fun c43 => ?_) (fun c43 => ?_)
                      · have g44 := z_f_ge rfl rfl c43
                        have b45 := Int32.toInt_lt y41
                        have hb9 : 0 ≤ y42.toInt := z_ct_b (lp13C (by omega)) (by omega) (by omega) lp40A
                        have hb8 := lp40B hb9
                        refine lv_aload_n hx hb dX12_deals_139 rfl (lv_at hl 4 rfl) ?_
                        refine z_get (T := TX12) (N := 96) (ci := 12) (i := 0) (v := .ref (ad 70)) hx hb hts zj_X12_deals_X12 hown hK hW rfl rfl 95 (by decide) (hts (.fieldLink RX12 226 "PetrolBoardModel" "isDealt" "[Z") (me_s (me_l (me_l (List.mem_of_getElem? (i := 3) rfl))))) (fun _ h => h) rfl dX12_deals_140 ?_
                        refine lv_iload hx hb dX12_deals_143 (lv_at hl 1 rfl) ?_
                        refine lv_iconst (v := 1) hx hb dX12_deals_145 (by decide) ?_
                        refine z_zast (i := 70) hx hb hK hW hS rfl (z_ix rfl (by omega) (by omega)) dX12_deals_146 (fun H locs hz1 hW hS => ?_)
                        obtain ⟨I46, eI46⟩ : ∃ K : z_I, K = z_up I16 70 y42.toNatClampNeg (vp_nar .boolean 1) := ⟨_, rfl⟩
                        rw [← eI46] at hW
                        have f47 := z_fr_a lp13fr (show z_wa L_X12_deals 70 = true by decide) eI46
                        have a48 := z_rg_n lp13Atf (by decide) eI46
                        have a49 := z_rg_n lp13Atm (by decide) eI46
                        have a50 := z_Nd_n lp13Nd (by decide) eI46
                        have a51 := z_rg_n lp13Asf (by decide) eI46
                        have a52 := z_rg_n lp13Ast (by decide) eI46
                        have a53 := z_rg_n lp13Asc (by decide) eI46
                        have a54 := z_Ex_n lp13Ex (by decide) eI46
                        refine lv_aload_n hx hb dX12_deals_147 rfl (lv_at hl 4 rfl) ?_
                        refine z_get (T := TX12) (N := 96) (ci := 12) (i := 0) (v := .ref (ad 69)) hx hb hts zj_X12_deals_X12 hown hK hW rfl rfl 94 (by decide) (hts (.fieldLink RX12 223 "PetrolBoardModel" "deal" "[I") (me_s (me_l (me_l (List.mem_of_getElem? (i := 1) rfl))))) (fun _ h => h) rfl dX12_deals_148 ?_
                        refine lv_iload hx hb dX12_deals_151 (lv_at hl 1 rfl) ?_
                        refine lv_aload_n hx hb dX12_deals_153 rfl (lv_at hl 4 rfl) ?_
                        refine z_get (T := TX12) (N := 96) (ci := 12) (i := 0) (v := .ref (ad 5)) hx hb hts zj_X12_deals_X12 hown hK hW rfl rfl 7 (by decide) (hts (.fieldLink RX12 22 "PetrolBoardModel" "needOf" "[I") (me_s (me_l (me_l (List.mem_of_getElem? (i := 5) rfl))))) (fun _ h => h) rfl dX12_deals_154 ?_
                        refine lv_iload hx hb dX12_deals_157 (lv_at hl 1 rfl) ?_
                        refine z_iald (i := 5) hx hb hK hW rfl (z_ix rfl (by omega) (by omega)) dX12_deals_159 ?_
                        refine lv_topi (fun x55 ex55 => ?_)
                        refine lv_iload_n hx hb dX12_deals_160 rfl (lv_at hl 3 rfl) ?_
                        refine z_ci hW hS hA (va_runS (As := [.int x55, .int y15]) (rest := [.int y42, .ref (ad 69)]) ⟨hx, hb, hml, hown, hts⟩ (sx_X12_min l G ad I46 J17  x55 y15 _) (va_cwS 2 hts gX12_deals_X12_min rfl rfl rfl hy_X12_min.2 ⟨Nat.le_of_ble_eq_true rfl, Nat.le_of_ble_eq_true rfl⟩) (z_preS hK hW) rfl rfl hl.1 rfl (lv_room (Nat.le_of_ble_eq_true rfl)) dX12_deals_161 ⟨Nat.le_of_ble_eq_true rfl, Nat.le_of_ble_eq_true rfl⟩) (fun r u1 H locs hp hW hS => ?_)
                        obtain ⟨e9, hp⟩ := hp
                        rw [e9] at hW
                        refine lv_topi (fun x56 ex56 => ?_)
                        refine z_iast (i := 69) hx hb hK hW hS rfl (z_ix rfl (by omega) (by omega)) dX12_deals_164 (fun H locs hz1 hW hS => ?_)
                        obtain ⟨I57, eI57⟩ : ∃ K : z_I, K = z_up I46 69 y42.toNatClampNeg x56 := ⟨_, rfl⟩
                        rw [← eI57] at hW
                        have f58 := z_fr_a f47 (show z_wa L_X12_deals 69 = true by decide) eI57
                        have a59 := z_rg_n a48 (by decide) eI57
                        have a60 := z_rg_n a49 (by decide) eI57
                        have a61 := z_Nd_n a50 (by decide) eI57
                        have a62 := z_rg_n a51 (by decide) eI57
                        have a63 := z_rg_n a52 (by decide) eI57
                        have a64 := z_rg_n a53 (by decide) eI57
                        have a65 := z_Ex_n a54 (by decide) eI57
                        refine lv_iload_n hx hb dX12_deals_165 rfl (lv_at hl 3 rfl) ?_
                        refine lv_aload_n hx hb dX12_deals_166 rfl (lv_at hl 4 rfl) ?_
                        refine z_get (T := TX12) (N := 96) (ci := 12) (i := 0) (v := .ref (ad 69)) hx hb hts zj_X12_deals_X12 hown hK hW rfl rfl 94 (by decide) (hts (.fieldLink RX12 223 "PetrolBoardModel" "deal" "[I") (me_s (me_l (me_l (List.mem_of_getElem? (i := 1) rfl))))) (fun _ h => h) rfl dX12_deals_167 ?_
                        refine lv_iload hx hb dX12_deals_170 (lv_at hl 1 rfl) ?_
                        refine z_iald (i := 69) hx hb hK hW rfl (z_ix rfl (by omega) (by omega)) dX12_deals_172 ?_
                        refine lv_topi (fun x66 ex66 => ?_)
                        refine lv_isub hx hb dX12_deals_173 ?_
                        refine lv_topi (fun x67 ex67 => ?_)
                        refine lv_istore_n (lv' := [(3, .int x67), (6, .int y41), (5, .int y42), (4, .int y14), (0, .ref (ad 0)), (1, .int a1), (2, .int a2)]) hx hb dX12_deals_174 rfl hl (by decide) rfl (fun ls hl => ?_)
                        refine lv_goto (tgt := 191) hx hb dX12_deals_175 (by decide) ?_
                        obtain ⟨x68, ex68⟩ : ∃ y : Int32, y = y14 + 1 := ⟨_, rfl⟩
                        have tx68 : x68.toInt = y14.toInt + 1 := z_tadd ex68 rfl z_l1 (by omega) (by omega)
                        refine lv_iinc (v := x68) (lv' := [(4, .int x68), (3, .int x67), (6, .int y41), (5, .int y42), (0, .ref (ad 0)), (1, .int a1), (2, .int a2)]) hx hb dX12_deals_191 hl (k := 3) rfl (by rw [ex68]; rfl) (by decide) rfl (fun ls hl => ?_)
                        refine lv_goto (tgt := 64) hx hb dX12_deals_194 (by decide) ?_
                        exact lp13ih x68 x67 I57 J17 _ _ _ (by omega) (by omega) ⟨(by show 0 ≤ (I57 0 0).toInt ∧ (I57 0 0).toInt ≤ 719; rw [eI57, z_up_n (by decide), eI46, z_up_n (by decide)]; exact lp13ma.1), (by show 0 ≤ (I57 0 1).toInt ∧ (I57 0 1).toInt ≤ 30; rw [eI57, z_up_n (by decide), eI46, z_up_n (by decide)]; exact lp13ma.2.1), (by show 0 ≤ (I57 0 2).toInt ∧ (I57 0 2).toInt ≤ 200; rw [eI57, z_up_n (by decide), eI46, z_up_n (by decide)]; exact lp13ma.2.2)⟩ ⟨(by show 0 ≤ (I57 0 13).toInt ∧ (I57 0 13).toInt ≤ 12; rw [eI57, z_up_n (by decide), eI46, z_up_n (by decide)]; exact lp13mb.1), (by show 0 ≤ (I57 0 14).toInt ∧ (I57 0 14).toInt ≤ 288; rw [eI57, z_up_n (by decide), eI46, z_up_n (by decide)]; exact lp13mb.2)⟩ a59 a60 a61 a62 a63 a64 a65 (congrArg Int32.toInt (f58 0 1 (by decide))) (fun hw => by have hc9 := z_clt (x := y42) rfl hb9; rw [z_ct_u (I := I16) (K := I57) (c := 70) (b := (y42 : Int32).toNatClampNeg) (hb8.1) (by rw [eI57, z_up_n (by decide), eI46, z_up_s]; decide) (I 0 1).toInt.toNat (by omega) (fun j hj hq => by rw [eI57, z_up_n (by decide), eI46, z_up_k hq])]; have hc8 := lp13C hw; omega) f58 hW hS (lv_sub hl [0, 1, 4, 5, 6] rfl)
                      · have g69 := z_f_nge rfl rfl c43
                        have b70 := Int32.toInt_lt y41
                        refine lv_aload_n hx hb dX12_deals_97 rfl (lv_at hl 4 rfl) ?_
                        refine z_get (T := TX12) (N := 96) (ci := 12) (i := 0) (v := .ref (ad 70)) hx hb hts zj_X12_deals_X12 hown hK hW rfl rfl 95 (by decide) (hts (.fieldLink RX12 226 "PetrolBoardModel" "isDealt" "[Z") (me_s (me_l (me_l (List.mem_of_getElem? (i := 3) rfl))))) (fun _ h => h) rfl dX12_deals_98 ?_
                        refine lv_iload hx hb dX12_deals_101 (lv_at hl 0 rfl) ?_
                        refine z_zald (i := 70) hx hb hK hW rfl (z_ix rfl (by omega) (by omega)) dX12_deals_103 ?_
                        refine lv_topi (fun x71 ex71 => ?_)
                        refine lv_if_ne (tgt := 133) hx hb dX12_deals_104 (by decide) (fun c72 => ?_) (fun c72 => ?_)
                        · have g73 := z_f_ne rfl z_l0 c72
                          have b74 := Int32.toInt_lt x71
                          obtain ⟨x75, ex75⟩ : ∃ y : Int32, y = y41 + 1 := ⟨_, rfl⟩
                          have tx75 : x75.toInt = y41.toInt + 1 := z_tadd ex75 rfl z_l1 (by omega) (by omega)
                          refine lv_iinc (v := x75) (lv' := [(6, .int x75), (5, .int y42), (4, .int y14), (3, .int y15), (0, .ref (ad 0)), (1, .int a1), (2, .int a2)]) hx hb dX12_deals_133 hl (k := 0) rfl (by rw [ex75]; rfl) (by decide) rfl (fun ls hl => ?_)
                          refine lv_goto (tgt := 88) hx hb dX12_deals_136 (by decide) ?_
                          exact lp40ih x75 y42 _ _ _ (by omega) (by omega) (by omega) (by omega) (fun q j hj => by have hc9 := z_clt (x := y41) rfl (by omega); by_cases hjk : j = (y41 : Int32).toNatClampNeg; (· (rw [hjk, ← ex71]; exact fun h9 => absurd (show x71.toInt = 0 by rw [h9]; rfl) (by omega))); (· exact lp40A q j (by omega))) lp40B hW hS (lv_sub hl [0, 1, 2, 3, 4, 5, 6] rfl)
                        · have g76 := z_f_eq rfl z_l0 c72
                          have b77 := Int32.toInt_lt x71
                          refine lv_iload hx hb dX12_deals_107 (lv_at hl 1 rfl) ?_
                          refine lv_if_lt (tgt := 129) hx hb dX12_deals_109 (by decide) (fun c78 => ?_) (fun c78 => ?_)
                          · have g79 := z_f_lt rfl z_l0 c78
                            refine lv_iload hx hb dX12_deals_129 (lv_at hl 0 rfl) ?_
                            refine lv_istore (lv' := [(5, .int y41), (6, .int y41), (4, .int y14), (3, .int y15), (0, .ref (ad 0)), (1, .int a1), (2, .int a2)]) hx hb dX12_deals_131 hl (by decide) rfl (fun ls hl => ?_)
                            obtain ⟨x80, ex80⟩ : ∃ y : Int32, y = y41 + 1 := ⟨_, rfl⟩
                            have tx80 : x80.toInt = y41.toInt + 1 := z_tadd ex80 rfl z_l1 (by omega) (by omega)
                            refine lv_iinc (v := x80) (lv' := [(6, .int x80), (5, .int y41), (4, .int y14), (3, .int y15), (0, .ref (ad 0)), (1, .int a1), (2, .int a2)]) hx hb dX12_deals_133 hl (k := 1) rfl (by rw [ex80]; rfl) (by decide) rfl (fun ls hl => ?_)
                            refine lv_goto (tgt := 88) hx hb dX12_deals_136 (by decide) ?_
                            exact lp40ih x80 y41 _ _ _ (by omega) (by omega) (by omega) (by omega) (fun q => absurd q (by omega)) (fun _ => ⟨ex71.symm.trans (Int32.toInt_inj.mp (show x71.toInt = 0 by omega)), by omega⟩) hW hS (lv_sub hl [0, 1, 2, 3, 4, 5, 6] rfl)
                          · have g81 := z_f_nlt rfl z_l0 c78
                            refine lv_aload_n hx hb dX12_deals_112 rfl (lv_at hl 4 rfl) ?_
                            refine z_get (T := TX12) (N := 96) (ci := 12) (i := 0) (v := .ref (ad 4)) hx hb hts zj_X12_deals_X12 hown hK hW rfl rfl 6 (by decide) (hts (.fieldLink RX12 19 "PetrolBoardModel" "bidOf" "[I") (me_s (me_l (me_l (List.mem_of_getElem? (i := 4) rfl))))) (fun _ h => h) rfl dX12_deals_113 ?_
                            refine lv_iload hx hb dX12_deals_116 (lv_at hl 0 rfl) ?_
                            refine z_iald (i := 4) hx hb hK hW rfl (z_ix rfl (by omega) (by omega)) dX12_deals_118 ?_
                            refine lv_topi (fun x82 ex82 => ?_)
                            refine lv_aload_n hx hb dX12_deals_119 rfl (lv_at hl 4 rfl) ?_
                            refine z_get (T := TX12) (N := 96) (ci := 12) (i := 0) (v := .ref (ad 4)) hx hb hts zj_X12_deals_X12 hown hK hW rfl rfl 6 (by decide) (hts (.fieldLink RX12 19 "PetrolBoardModel" "bidOf" "[I") (me_s (me_l (me_l (List.mem_of_getElem? (i := 4) rfl))))) (fun _ h => h) rfl dX12_deals_120 ?_
                            refine lv_iload hx hb dX12_deals_123 (lv_at hl 1 rfl) ?_
                            refine z_iald (i := 4) hx hb hK hW rfl (z_ix rfl (by omega) (by omega)) dX12_deals_125 ?_
                            refine lv_topi (fun x83 ex83 => ?_)
                            refine lv_icmp_le (tgt := 133) hx hb dX12_deals_126 (by decide) (fun c84 => ?_) (fun c84 => ?_)
                            · have g85 := z_f_le rfl rfl c84
                              have b86 := Int32.toInt_lt x82
                              have b87 := Int32.toInt_lt x83
                              obtain ⟨x88, ex88⟩ : ∃ y : Int32, y = y41 + 1 := ⟨_, rfl⟩
                              have tx88 : x88.toInt = y41.toInt + 1 := z_tadd ex88 rfl z_l1 (by omega) (by omega)
                              refine lv_iinc (v := x88) (lv' := [(6, .int x88), (5, .int y42), (4, .int y14), (3, .int y15), (0, .ref (ad 0)), (1, .int a1), (2, .int a2)]) hx hb dX12_deals_133 hl (k := 0) rfl (by rw [ex88]; rfl) (by decide) rfl (fun ls hl => ?_)
                              refine lv_goto (tgt := 88) hx hb dX12_deals_136 (by decide) ?_
                              exact lp40ih x88 y42 _ _ _ (by omega) (by omega) (by omega) (by omega) (fun q => absurd q (by omega)) lp40B hW hS (lv_sub hl [0, 1, 2, 3, 4, 5, 6] rfl)
                            · have g89 := z_f_nle rfl rfl c84
                              have b90 := Int32.toInt_lt x82
                              have b91 := Int32.toInt_lt x83
                              refine lv_iload hx hb dX12_deals_129 (lv_at hl 0 rfl) ?_
                              refine lv_istore (lv' := [(5, .int y41), (6, .int y41), (4, .int y14), (3, .int y15), (0, .ref (ad 0)), (1, .int a1), (2, .int a2)]) hx hb dX12_deals_131 hl (by decide) rfl (fun ls hl => ?_)
                              obtain ⟨x92, ex92⟩ : ∃ y : Int32, y = y41 + 1 := ⟨_, rfl⟩
                              have tx92 : x92.toInt = y41.toInt + 1 := z_tadd ex92 rfl z_l1 (by omega) (by omega)
                              refine lv_iinc (v := x92) (lv' := [(6, .int x92), (5, .int y41), (4, .int y14), (3, .int y15), (0, .ref (ad 0)), (1, .int a1), (2, .int a2)]) hx hb dX12_deals_133 hl (k := 1) rfl (by rw [ex92]; rfl) (by decide) rfl (fun ls hl => ?_)
                              refine lv_goto (tgt := 88) hx hb dX12_deals_136 (by decide) ?_
                              exact lp40ih x92 y41 _ _ _ (by omega) (by omega) (by omega) (by omega) (fun q => absurd q (by omega)) (fun _ => ⟨ex71.symm.trans (Int32.toInt_inj.mp (show x71.toInt = 0 by omega)), by omega⟩) hW hS (lv_sub hl [0, 1, 2, 3, 4, 5, 6] rfl)
                  exact lp40 4294967296 (0) ((-1)) _ _ _ (z_m0u _) (by rw [z_l0]; omega) (by rw [z_lm1]; omega) (by rw [z_lm1]; omega) (fun _ j hj => absurd hj (by have : ((0 : Int32)).toInt = 0 := (by decide); omega)) (fun q => absurd q (by decide)) hW hS (lv_sub hl [0, 1, 2, 3, 4, 5, 6] rfl)
          exact lp13 4294967296 (0) y3 I4 J5 _ _ _ (z_m0u _) (by rw [z_l0]; omega) ⟨(by show 0 ≤ (I4 0 0).toInt ∧ (I4 0 0).toInt ≤ 719; exact lp1ma.1), (by show 0 ≤ (I4 0 1).toInt ∧ (I4 0 1).toInt ≤ 30; exact lp1ma.2.1), (by show 0 ≤ (I4 0 2).toInt ∧ (I4 0 2).toInt ≤ 200; exact lp1ma.2.2)⟩ ⟨(by show 0 ≤ (I4 0 13).toInt ∧ (I4 0 13).toInt ≤ 12; exact lp1mb.1), (by show 0 ≤ (I4 0 14).toInt ∧ (I4 0 14).toInt ≤ 288; exact lp1mb.2)⟩ lp1Atf lp1Atm lp1Nd lp1Asf lp1Ast lp1Asc lp1Ex (congrArg Int32.toInt (lp1fr 0 1 (by decide))) (fun _ => by rw [z_ct_0 (I := I4) (c := 70) (I 0 1).toInt.toNat (fun j hj => lp1Z j (by omega))]; decide) lp1fr hW hS (lv_sub hl [0, 1, 2, 3, 4] rfl)
        · have g93 := z_f_eq rfl z_l0 c10
          have b94 := Int32.toInt_lt a1
          exact z_vret hx hb hr hK hS (Nat.le_of_ble_eq_true rfl) (Nat.le_of_ble_eq_true rfl) hlocks dX12_deals_60 (shM, ad, I4, J5, PM ad) hW ⟨I4, J5, rfl, ⟨(by show 0 ≤ (I4 0 0).toInt ∧ (I4 0 0).toInt ≤ 719; exact lp1ma.1), (by show 0 ≤ (I4 0 1).toInt ∧ (I4 0 1).toInt ≤ 30; exact lp1ma.2.1), (by show 0 ≤ (I4 0 2).toInt ∧ (I4 0 2).toInt ≤ 200; exact lp1ma.2.2)⟩, ⟨(by show 0 ≤ (I4 0 13).toInt ∧ (I4 0 13).toInt ≤ 12; exact lp1mb.1), (by show 0 ≤ (I4 0 14).toInt ∧ (I4 0 14).toInt ≤ 288; exact lp1mb.2)⟩, lp1Atf, lp1Atm, lp1Nd, lp1Asf, lp1Ast, lp1Asc, lp1Ex, lp1fr⟩
      · have g95 := z_f_nge rfl rfl c7
        have b96 := Int32.toInt_lt y2
        refine lv_aload_n hx hb dX12_deals_14 rfl (lv_at hl 2 rfl) ?_
        refine z_get (T := TX12) (N := 96) (ci := 12) (i := 0) (v := .ref (ad 69)) hx hb hts zj_X12_deals_X12 hown hK hW rfl rfl 94 (by decide) (hts (.fieldLink RX12 223 "PetrolBoardModel" "deal" "[I") (me_s (me_l (me_l (List.mem_of_getElem? (i := 1) rfl))))) (fun _ h => h) rfl dX12_deals_15 ?_
        refine lv_iload hx hb dX12_deals_18 (lv_at hl 0 rfl) ?_
        refine lv_aload_n hx hb dX12_deals_20 rfl (lv_at hl 2 rfl) ?_
        refine lv_iload hx hb dX12_deals_21 (lv_at hl 0 rfl) ?_
        refine lv_iload_n hx hb dX12_deals_23 rfl (lv_at hl 4 rfl) ?_
        refine lv_aload_n hx hb dX12_deals_24 rfl (lv_at hl 2 rfl) ?_
        have r97 : 0 ≤ (I4 0 0).toInt ∧ (I4 0 0).toInt ≤ 719 := lp1ma.1
        refine z_get (T := TX12) (N := 96) (ci := 12) (i := 0) (v := .int (I4 0 0)) hx hb hts zj_X12_deals_X12 hown hK hW rfl rfl 0 (by decide) (hts (.fieldLink RX12 232 "PetrolBoardModel" "today" "I") (me_s (me_l (me_l (List.mem_of_getElem? (i := 2) rfl))))) (fun _ h => h) rfl dX12_deals_25 ?_
        refine z_ci hW hS hA (va_runV (As := [.int y2, .int a2, .int (I4 0 0)]) (rest := [.int y2, .ref (ad 69)]) ⟨hx, hb, hml, hown, hts⟩ (sx_X12_unitsOf l G ad I4 J5 ⟨(by show 0 ≤ (I4 0 0).toInt ∧ (I4 0 0).toInt ≤ 719; exact lp1ma.1), (by show 0 ≤ (I4 0 1).toInt ∧ (I4 0 1).toInt ≤ 30; exact lp1ma.2.1), (by show 0 ≤ (I4 0 2).toInt ∧ (I4 0 2).toInt ≤ 200; exact lp1ma.2.2)⟩ ⟨(by show 0 ≤ (I4 0 13).toInt ∧ (I4 0 13).toInt ≤ 12; exact lp1mb.1), (by show 0 ≤ (I4 0 14).toInt ∧ (I4 0 14).toInt ≤ 288; exact lp1mb.2)⟩ lp1Atf lp1Atm lp1Nd lp1Asf lp1Ast lp1Asc lp1Ex y2 a2 (I4 0 0) (by first | omega | decide) _) (cwV 3 hts gX12_deals_X12_unitsOf rfl rfl rfl hy_X12_unitsOf ⟨Nat.le_of_ble_eq_true rfl, Nat.le_of_ble_eq_true rfl⟩) (z_preV (i := 0) hK hW rfl rfl) rfl rfl hl.1 rfl (lv_room (Nat.le_of_ble_eq_true rfl)) dX12_deals_28 ⟨Nat.le_of_ble_eq_true rfl, Nat.le_of_ble_eq_true rfl⟩) (fun r u1 H locs hp hW hS => ?_)
        obtain ⟨I98, J100, e9, hI98ma, hI98mb, hI98Atf, hI98Atm, hI98Nd, hI98Asf, hI98Ast, hI98Asc, hI98Ex, fI98⟩ := hp
        rw [e9] at hW
        have f99 := z_fr_sub (L := L_X12_deals) lp1fr fI98 (by decide)
        have k101 : (I98 0 1).toInt = (I4 0 1).toInt := by rw [fI98 0 1 (by decide)]
        refine lv_topi (fun x102 ex102 => ?_)
        refine z_iast (i := 69) hx hb hK hW hS rfl (z_ix rfl (by omega) (by omega)) dX12_deals_31 (fun H locs hz1 hW hS => ?_)
        obtain ⟨I103, eI103⟩ : ∃ K : z_I, K = z_up I98 69 y2.toNatClampNeg x102 := ⟨_, rfl⟩
        rw [← eI103] at hW
        have f104 := z_fr_a f99 (show z_wa L_X12_deals 69 = true by decide) eI103
        have a105 := z_rg_n hI98Atf (by decide) eI103
        have a106 := z_rg_n hI98Atm (by decide) eI103
        have a107 := z_Nd_n hI98Nd (by decide) eI103
        have a108 := z_rg_n hI98Asf (by decide) eI103
        have a109 := z_rg_n hI98Ast (by decide) eI103
        have a110 := z_rg_n hI98Asc (by decide) eI103
        have a111 := z_Ex_n hI98Ex (by decide) eI103
        refine lv_iload_n hx hb dX12_deals_32 rfl (lv_at hl 1 rfl) ?_
        refine lv_aload_n hx hb dX12_deals_33 rfl (lv_at hl 2 rfl) ?_
        refine z_get (T := TX12) (N := 96) (ci := 12) (i := 0) (v := .ref (ad 69)) hx hb hts zj_X12_deals_X12 hown hK hW rfl rfl 94 (by decide) (hts (.fieldLink RX12 223 "PetrolBoardModel" "deal" "[I") (me_s (me_l (me_l (List.mem_of_getElem? (i := 1) rfl))))) (fun _ h => h) rfl dX12_deals_34 ?_
        refine lv_iload hx hb dX12_deals_37 (lv_at hl 0 rfl) ?_
        refine z_iald (i := 69) hx hb hK hW rfl (z_ix rfl (by omega) (by omega)) dX12_deals_39 ?_
        refine lv_topi (fun x112 ex112 => ?_)
        refine lv_iadd hx hb dX12_deals_40 ?_
        refine lv_topi (fun x113 ex113 => ?_)
        refine lv_istore_n (lv' := [(3, .int x113), (4, .int y2), (0, .ref (ad 0)), (1, .int a1), (2, .int a2)]) hx hb dX12_deals_41 rfl hl (by decide) rfl (fun ls hl => ?_)
        refine lv_aload_n hx hb dX12_deals_42 rfl (lv_at hl 2 rfl) ?_
        refine z_get (T := TX12) (N := 96) (ci := 12) (i := 0) (v := .ref (ad 70)) hx hb hts zj_X12_deals_X12 hown hK hW rfl rfl 95 (by decide) (hts (.fieldLink RX12 226 "PetrolBoardModel" "isDealt" "[Z") (me_s (me_l (me_l (List.mem_of_getElem? (i := 3) rfl))))) (fun _ h => h) rfl dX12_deals_43 ?_
        refine lv_iload hx hb dX12_deals_46 (lv_at hl 1 rfl) ?_
        refine lv_iconst (v := 0) hx hb dX12_deals_48 (by decide) ?_
        refine z_zast (i := 70) hx hb hK hW hS rfl (z_ix rfl (by omega) (by omega)) dX12_deals_49 (fun H locs hz1 hW hS => ?_)
        obtain ⟨I114, eI114⟩ : ∃ K : z_I, K = z_up I103 70 y2.toNatClampNeg (vp_nar .boolean 0) := ⟨_, rfl⟩
        rw [← eI114] at hW
        have f115 := z_fr_a f104 (show z_wa L_X12_deals 70 = true by decide) eI114
        have a116 := z_rg_n a105 (by decide) eI114
        have a117 := z_rg_n a106 (by decide) eI114
        have a118 := z_Nd_n a107 (by decide) eI114
        have a119 := z_rg_n a108 (by decide) eI114
        have a120 := z_rg_n a109 (by decide) eI114
        have a121 := z_rg_n a110 (by decide) eI114
        have a122 := z_Ex_n a111 (by decide) eI114
        obtain ⟨x123, ex123⟩ : ∃ y : Int32, y = y2 + 1 := ⟨_, rfl⟩
        have tx123 : x123.toInt = y2.toInt + 1 := z_tadd ex123 rfl z_l1 (by omega) (by omega)
        refine lv_iinc (v := x123) (lv' := [(4, .int x123), (3, .int x113), (0, .ref (ad 0)), (1, .int a1), (2, .int a2)]) hx hb dX12_deals_50 hl (k := 1) rfl (by rw [ex123]; rfl) (by decide) rfl (fun ls hl => ?_)
        refine lv_goto (tgt := 5) hx hb dX12_deals_53 (by decide) ?_
        exact lp1ih x123 x113 I114 J100 _ _ _ (by omega) (by omega) ⟨(by show 0 ≤ (I114 0 0).toInt ∧ (I114 0 0).toInt ≤ 719; rw [eI114, z_up_n (by decide), eI103, z_up_n (by decide)]; exact hI98ma.1), (by show 0 ≤ (I114 0 1).toInt ∧ (I114 0 1).toInt ≤ 30; rw [eI114, z_up_n (by decide), eI103, z_up_n (by decide)]; exact hI98ma.2.1), (by show 0 ≤ (I114 0 2).toInt ∧ (I114 0 2).toInt ≤ 200; rw [eI114, z_up_n (by decide), eI103, z_up_n (by decide)]; exact hI98ma.2.2)⟩ ⟨(by show 0 ≤ (I114 0 13).toInt ∧ (I114 0 13).toInt ≤ 12; rw [eI114, z_up_n (by decide), eI103, z_up_n (by decide)]; exact hI98mb.1), (by show 0 ≤ (I114 0 14).toInt ∧ (I114 0 14).toInt ≤ 288; rw [eI114, z_up_n (by decide), eI103, z_up_n (by decide)]; exact hI98mb.2)⟩ a116 a117 a118 a119 a120 a121 a122 (congrArg Int32.toInt (f115 0 1 (by decide))) (fun j hj => by by_cases hjk : j = (y2 : Int32).toNatClampNeg; (· (rw [eI114, hjk, z_up_s]; try decide)); (· (rw [eI114, z_up_k hjk, eI103, z_up_n (by decide), fI98 70 j (z_wr_c (by decide))]; have hc9 := z_clt (x := y2) rfl (by omega); exact lp1Z j (by omega)))) f115 hW hS (lv_sub hl [0, 1, 2, 3, 4] rfl)
  exact lp1 4294967296 (0) (0) I J _ _ _ (z_m0u _) (by rw [z_l0]; omega) ⟨(by show 0 ≤ (I 0 0).toInt ∧ (I 0 0).toInt ≤ 719; exact hma.1), (by show 0 ≤ (I 0 1).toInt ∧ (I 0 1).toInt ≤ 30; exact hma.2.1), (by show 0 ≤ (I 0 2).toInt ∧ (I 0 2).toInt ≤ 200; exact hma.2.2)⟩ ⟨(by show 0 ≤ (I 0 13).toInt ∧ (I 0 13).toInt ≤ 12; exact hmb.1), (by show 0 ≤ (I 0 14).toInt ∧ (I 0 14).toInt ≤ 288; exact hmb.2)⟩ hAtf hAtm hNd hAsf hAst hAsc hEx rfl (fun j hj => absurd hj (by have : ((0 : Int32)).toInt = 0 := (by decide); omega)) z_fr_0 hW hS (lv_sub hl [0, 1, 2, 3, 4] rfl)
noncomputable def L_X12_other : z_L := [(69, 999), (70, 999), (24, 999), (30, 999)]
theorem zj_X12_other_X12 : ∀ w ∈ wsX120, w ∈ wsX12_other := fun w h => (List.mem_cons_of_mem _ (List.mem_append_right _ h))
set_option maxHeartbeats 8000000 in
set_option maxRecDepth 100000 in
theorem sx_X12_other (l : Launch) (G : z_G) (ad : Nat → Nat) (I : z_I) (J : z_J) (hma : z_ima I) (hmb : z_imb I) (hAtf : z_rg 11 0 288 I) (hAtm : z_rg 12 0 24 I) (hNd : z_Nd I) (hAsf : z_rg 19 0 6200 I) (hAst : z_rg 20 0 6200 I) (hAsc : z_rg 18 (-1) 6199 I) (hEx : z_Ex I) (a1 : Int32) (a2 : Int32) (a3 : Int32) (a4 : Int32) : z_M l yX12_other wsX12_other { frames := 7, cells := 0, slots := 0, locals := 159 } [.ref (ad 0), .int a1, .int a2, .int a3, .int a4] G (shM, ad, I, J, PM ad) (fun r u1 => ∃ (I1 : z_I) (J1 : z_J), u1 = (shM, ad, I1, J1, PM ad) ∧ z_ima I1 ∧ z_imb I1 ∧ z_rg 11 0 288 I1 ∧ z_rg 12 0 24 I1 ∧ z_Nd I1 ∧ z_rg 19 0 6200 I1 ∧ z_rg 20 0 6200 I1 ∧ z_rg 18 (-1) 6199 I1 ∧ z_Ex I1 ∧ z_fr L_X12_other I1 I) 0 0 := by
  intro sz
  refine z_headQ (cc := cX12_other) (maxL := 5) (ret := (some .int)) (by decide) rfl (Nat.le_of_ble_eq_true rfl) ?_
  intro p e s m below meth c0 ls hIn hK hsz hW hl
  obtain ⟨hx, hb, hr, hml, hown, hts, hlocks, hname⟩ := hIn
  subst hsz
  have hown : s.vm.findClass RX12 = some m.cls := hown
  have hA : ∀ q : Nat, s.heap.size ≤ q → z_A (shM, ad, I, J, PM ad) s.heap.size q := fun q h => Or.inr h
  generalize hAe : z_A (shM, ad, I, J, PM ad) s.heap.size = A at *
  have hS : va_S A s.heap s.heap [] := va_S.rf
  have hl : lv_has ls 5 [(0, .ref (ad 0)), (1, .int a1), (2, .int a2), (3, .int a3), (4, .int a4)] := hl
  refine lv_iload_n hx hb dX12_other_0 rfl (lv_at hl 1 rfl) ?_
  refine lv_iconst (v := 0) hx hb dX12_other_1 (by decide) ?_
  refine lv_iconst (v := 2) hx hb dX12_other_2 (by decide) ?_
  refine z_ci hW hS hA (va_runS (As := [.int a1, .int 0, .int 2]) (rest := []) ⟨hx, hb, hml, hown, hts⟩ (sx_X12_within l G ad I J  a1 0 2 _) (va_cwS 3 hts gX12_other_X12_within rfl rfl rfl hy_X12_within.2 ⟨Nat.le_of_ble_eq_true rfl, Nat.le_of_ble_eq_true rfl⟩) (z_preS hK hW) rfl rfl hl.1 rfl (lv_room (Nat.le_of_ble_eq_true rfl)) dX12_other_3 ⟨Nat.le_of_ble_eq_true rfl, Nat.le_of_ble_eq_true rfl⟩) (fun r u1 H locs hp hW hS => ?_)
  obtain ⟨e9, hp⟩ := hp
  rw [e9] at hW
  rcases hp with ⟨rfl, h1, h2⟩ | rfl
  · have h1 := z_t_le z_l0 rfl h1
    have h2 := z_t_le rfl z_l2 h2
    refine lv_if_eq (tgt := 34) hx hb dX12_other_6 (by decide) (fun c3 => absurd c3 (by decide)) (fun c3 => ?_)
    refine lv_iload_n hx hb dX12_other_9 rfl (lv_at hl 2 rfl) ?_
    refine z_ci hW hS hA (va_runS (As := [.int a2]) (rest := []) ⟨hx, hb, hml, hown, hts⟩ (sx_X12_isMonth l G ad I J  a2 _) (va_cwS 1 hts gX12_other_X12_isMonth rfl rfl rfl hy_X12_isMonth.2 ⟨Nat.le_of_ble_eq_true rfl, Nat.le_of_ble_eq_true rfl⟩) (z_preS hK hW) rfl rfl hl.1 rfl (lv_room (Nat.le_of_ble_eq_true rfl)) dX12_other_10 ⟨Nat.le_of_ble_eq_true rfl, Nat.le_of_ble_eq_true rfl⟩) (fun r u1 H locs hp hW hS => ?_)
    obtain ⟨e9, hp⟩ := hp
    rw [e9] at hW
    rcases hp with ⟨rfl, h4, h5⟩ | rfl
    · refine lv_if_eq (tgt := 34) hx hb dX12_other_13 (by decide) (fun c6 => absurd c6 (by decide)) (fun c6 => ?_)
      refine lv_aload_n hx hb dX12_other_16 rfl (lv_at hl 0 rfl) ?_
      refine lv_iload_n hx hb dX12_other_17 rfl (lv_at hl 3 rfl) ?_
      refine z_ci hW hS hA (va_runV (As := [.int a3]) (rest := []) ⟨hx, hb, hml, hown, hts⟩ (sx_X12_isHolder l G ad I J ⟨(by show 0 ≤ (I 0 0).toInt ∧ (I 0 0).toInt ≤ 719; exact hma.1), (by show 0 ≤ (I 0 1).toInt ∧ (I 0 1).toInt ≤ 30; exact hma.2.1), (by show 0 ≤ (I 0 2).toInt ∧ (I 0 2).toInt ≤ 200; exact hma.2.2)⟩ a3 _) (cwV 1 hts gX12_other_X12_isHolder rfl rfl rfl hy_X12_isHolder ⟨Nat.le_of_ble_eq_true rfl, Nat.le_of_ble_eq_true rfl⟩) (z_preV (i := 0) hK hW rfl rfl) rfl rfl hl.1 rfl (lv_room (Nat.le_of_ble_eq_true rfl)) dX12_other_18 ⟨Nat.le_of_ble_eq_true rfl, Nat.le_of_ble_eq_true rfl⟩) (fun r u1 H locs hp hW hS => ?_)
      obtain ⟨e9, hp⟩ := hp
      rw [e9] at hW
      rcases hp with ⟨rfl, h7, h8⟩ | rfl
      · refine lv_if_eq (tgt := 34) hx hb dX12_other_21 (by decide) (fun c9 => absurd c9 (by decide)) (fun c9 => ?_)
        refine lv_iload hx hb dX12_other_24 (lv_at hl 4 rfl) ?_
        refine lv_iconst (v := 0) hx hb dX12_other_26 (by decide) ?_
        refine lv_iconst (v := 1) hx hb dX12_other_27 (by decide) ?_
        refine z_ci hW hS hA (va_runS (As := [.int a4, .int 0, .int 1]) (rest := []) ⟨hx, hb, hml, hown, hts⟩ (sx_X12_within l G ad I J  a4 0 1 _) (va_cwS 3 hts gX12_other_X12_within rfl rfl rfl hy_X12_within.2 ⟨Nat.le_of_ble_eq_true rfl, Nat.le_of_ble_eq_true rfl⟩) (z_preS hK hW) rfl rfl hl.1 rfl (lv_room (Nat.le_of_ble_eq_true rfl)) dX12_other_28 ⟨Nat.le_of_ble_eq_true rfl, Nat.le_of_ble_eq_true rfl⟩) (fun r u1 H locs hp hW hS => ?_)
        obtain ⟨e9, hp⟩ := hp
        rw [e9] at hW
        rcases hp with ⟨rfl, h11, h12⟩ | rfl
        · have h11 := z_t_le z_l0 rfl h11
          have h12 := z_t_le rfl z_l1 h12
          refine lv_if_ne (tgt := 36) hx hb dX12_other_31 (by decide) (fun c13 => ?_) (fun c13 => absurd c13 (by decide))
          refine lv_aload_n hx hb dX12_other_36 rfl (lv_at hl 0 rfl) ?_
          refine lv_iload_n hx hb dX12_other_37 rfl (lv_at hl 1 rfl) ?_
          refine lv_iload_n hx hb dX12_other_38 rfl (lv_at hl 2 rfl) ?_
          refine z_cv hW hS hA (va_runV (As := [.int a1, .int a2]) (rest := []) ⟨hx, hb, hml, hown, hts⟩ (sx_X12_deals l G ad I J ⟨(by show 0 ≤ (I 0 0).toInt ∧ (I 0 0).toInt ≤ 719; exact hma.1), (by show 0 ≤ (I 0 1).toInt ∧ (I 0 1).toInt ≤ 30; exact hma.2.1), (by show 0 ≤ (I 0 2).toInt ∧ (I 0 2).toInt ≤ 200; exact hma.2.2)⟩ ⟨(by show 0 ≤ (I 0 13).toInt ∧ (I 0 13).toInt ≤ 12; exact hmb.1), (by show 0 ≤ (I 0 14).toInt ∧ (I 0 14).toInt ≤ 288; exact hmb.2)⟩ hAtf hAtm hNd hAsf hAst hAsc hEx a1 a2 _) (cwV 2 hts gX12_other_X12_deals rfl rfl rfl hy_X12_deals ⟨Nat.le_of_ble_eq_true rfl, Nat.le_of_ble_eq_true rfl⟩) (z_preV (i := 0) hK hW rfl rfl) rfl rfl hl.1 rfl (lv_room (Nat.le_of_ble_eq_true rfl)) dX12_other_39 ⟨Nat.le_of_ble_eq_true rfl, Nat.le_of_ble_eq_true rfl⟩) (fun u1 H locs hp hW hS => ?_)
          obtain ⟨I14, J16, e9, hI14ma, hI14mb, hI14Atf, hI14Atm, hI14Nd, hI14Asf, hI14Ast, hI14Asc, hI14Ex, fI14⟩ := hp
          rw [e9] at hW
          have f15 := z_fr_sub (L := L_X12_other) z_fr_0 fI14 (by decide)
          refine lv_iload hx hb dX12_other_42 (lv_at hl 4 rfl) ?_
          refine lv_if_ne (tgt := 56) hx hb dX12_other_44 (by decide) (fun c17 => ?_) (fun c17 => ?_)
          · have g18 := z_f_ne rfl z_l0 c17
            refine lv_aload_n hx hb dX12_other_56 rfl (lv_at hl 0 rfl) ?_
            refine z_get (T := TX12) (N := 96) (ci := 12) (i := 0) (v := .ref (ad 69)) hx hb hts zj_X12_other_X12 hown hK hW rfl rfl 94 (by decide) (hts (.fieldLink RX12 223 "PetrolBoardModel" "deal" "[I") (me_s (me_l (me_l (List.mem_of_getElem? (i := 0) rfl))))) (fun _ h => h) rfl dX12_other_57 ?_
            refine lv_iload_n hx hb dX12_other_60 rfl (lv_at hl 3 rfl) ?_
            refine z_iald (i := 69) hx hb hK hW rfl (z_ix rfl (by omega) (by omega)) dX12_other_61 ?_
            refine lv_topi (fun x19 ex19 => ?_)
            refine lv_aload_n hx hb dX12_other_62 rfl (lv_at hl 0 rfl) ?_
            refine z_get (T := TX12) (N := 96) (ci := 12) (i := 0) (v := .ref (ad 5)) hx hb hts zj_X12_other_X12 hown hK hW rfl rfl 7 (by decide) (hts (.fieldLink RX12 22 "PetrolBoardModel" "needOf" "[I") (me_s (me_l (me_l (List.mem_of_getElem? (i := 1) rfl))))) (fun _ h => h) rfl dX12_other_63 ?_
            refine lv_iload_n hx hb dX12_other_66 rfl (lv_at hl 3 rfl) ?_
            refine z_iald (i := 5) hx hb hK hW rfl (z_ix rfl (by omega) (by omega)) dX12_other_67 ?_
            refine lv_topi (fun x20 ex20 => ?_)
            refine lv_icmp_lt (tgt := 75) hx hb dX12_other_68 (by decide) (fun c21 => ?_) (fun c21 => ?_)
            · have g22 := z_f_lt rfl rfl c21
              have b23 := Int32.toInt_lt x19
              have b24 := Int32.toInt_lt x20
              refine lv_iconst (v := 0) hx hb dX12_other_75 (by decide) ?_
              exact z_iret hx hb hr hK hS (Nat.le_of_ble_eq_true rfl) (Nat.le_of_ble_eq_true rfl) hlocks dX12_other_76 (shM, ad, I14, J16, PM ad) hW ⟨I14, J16, rfl, ⟨(by show 0 ≤ (I14 0 0).toInt ∧ (I14 0 0).toInt ≤ 719; exact hI14ma.1), (by show 0 ≤ (I14 0 1).toInt ∧ (I14 0 1).toInt ≤ 30; exact hI14ma.2.1), (by show 0 ≤ (I14 0 2).toInt ∧ (I14 0 2).toInt ≤ 200; exact hI14ma.2.2)⟩, ⟨(by show 0 ≤ (I14 0 13).toInt ∧ (I14 0 13).toInt ≤ 12; exact hI14mb.1), (by show 0 ≤ (I14 0 14).toInt ∧ (I14 0 14).toInt ≤ 288; exact hI14mb.2)⟩, hI14Atf, hI14Atm, hI14Nd, hI14Asf, hI14Ast, hI14Asc, hI14Ex, f15⟩
            · have g25 := z_f_nlt rfl rfl c21
              have b26 := Int32.toInt_lt x19
              have b27 := Int32.toInt_lt x20
              refine lv_iconst (v := 1) hx hb dX12_other_71 (by decide) ?_
              refine lv_goto (tgt := 76) hx hb dX12_other_72 (by decide) ?_
              exact z_iret hx hb hr hK hS (Nat.le_of_ble_eq_true rfl) (Nat.le_of_ble_eq_true rfl) hlocks dX12_other_76 (shM, ad, I14, J16, PM ad) hW ⟨I14, J16, rfl, ⟨(by show 0 ≤ (I14 0 0).toInt ∧ (I14 0 0).toInt ≤ 719; exact hI14ma.1), (by show 0 ≤ (I14 0 1).toInt ∧ (I14 0 1).toInt ≤ 30; exact hI14ma.2.1), (by show 0 ≤ (I14 0 2).toInt ∧ (I14 0 2).toInt ≤ 200; exact hI14ma.2.2)⟩, ⟨(by show 0 ≤ (I14 0 13).toInt ∧ (I14 0 13).toInt ≤ 12; exact hI14mb.1), (by show 0 ≤ (I14 0 14).toInt ∧ (I14 0 14).toInt ≤ 288; exact hI14mb.2)⟩, hI14Atf, hI14Atm, hI14Nd, hI14Asf, hI14Ast, hI14Asc, hI14Ex, f15⟩
          · have g28 := z_f_eq rfl z_l0 c17
            refine lv_aload_n hx hb dX12_other_47 rfl (lv_at hl 0 rfl) ?_
            refine z_get (T := TX12) (N := 96) (ci := 12) (i := 0) (v := .ref (ad 69)) hx hb hts zj_X12_other_X12 hown hK hW rfl rfl 94 (by decide) (hts (.fieldLink RX12 223 "PetrolBoardModel" "deal" "[I") (me_s (me_l (me_l (List.mem_of_getElem? (i := 0) rfl))))) (fun _ h => h) rfl dX12_other_48 ?_
            refine lv_iload_n hx hb dX12_other_51 rfl (lv_at hl 3 rfl) ?_
            refine z_iald (i := 69) hx hb hK hW rfl (z_ix rfl (by omega) (by omega)) dX12_other_52 ?_
            refine lv_topi (fun x29 ex29 => ?_)
            refine lv_goto (tgt := 76) hx hb dX12_other_53 (by decide) ?_
            exact z_iret hx hb hr hK hS (Nat.le_of_ble_eq_true rfl) (Nat.le_of_ble_eq_true rfl) hlocks dX12_other_76 (shM, ad, I14, J16, PM ad) hW ⟨I14, J16, rfl, ⟨(by show 0 ≤ (I14 0 0).toInt ∧ (I14 0 0).toInt ≤ 719; exact hI14ma.1), (by show 0 ≤ (I14 0 1).toInt ∧ (I14 0 1).toInt ≤ 30; exact hI14ma.2.1), (by show 0 ≤ (I14 0 2).toInt ∧ (I14 0 2).toInt ≤ 200; exact hI14ma.2.2)⟩, ⟨(by show 0 ≤ (I14 0 13).toInt ∧ (I14 0 13).toInt ≤ 12; exact hI14mb.1), (by show 0 ≤ (I14 0 14).toInt ∧ (I14 0 14).toInt ≤ 288; exact hI14mb.2)⟩, hI14Atf, hI14Atm, hI14Nd, hI14Asf, hI14Ast, hI14Asc, hI14Ex, f15⟩
        · refine lv_if_ne (tgt := 36) hx hb dX12_other_31 (by decide) (fun c30 => absurd (by decide) c30) (fun c30 => ?_)
          refine lv_iconst (v := (-1)) hx hb dX12_other_34 (by decide) ?_
          exact z_iret hx hb hr hK hS (Nat.le_of_ble_eq_true rfl) (Nat.le_of_ble_eq_true rfl) hlocks dX12_other_35 (shM, ad, I, J, PM ad) hW ⟨I, J, rfl, ⟨(by show 0 ≤ (I 0 0).toInt ∧ (I 0 0).toInt ≤ 719; exact hma.1), (by show 0 ≤ (I 0 1).toInt ∧ (I 0 1).toInt ≤ 30; exact hma.2.1), (by show 0 ≤ (I 0 2).toInt ∧ (I 0 2).toInt ≤ 200; exact hma.2.2)⟩, ⟨(by show 0 ≤ (I 0 13).toInt ∧ (I 0 13).toInt ≤ 12; exact hmb.1), (by show 0 ≤ (I 0 14).toInt ∧ (I 0 14).toInt ≤ 288; exact hmb.2)⟩, hAtf, hAtm, hNd, hAsf, hAst, hAsc, hEx, z_fr_0⟩
      · refine lv_if_eq (tgt := 34) hx hb dX12_other_21 (by decide) (fun c31 => ?_) (fun c31 => absurd (by decide) c31)
        refine lv_iconst (v := (-1)) hx hb dX12_other_34 (by decide) ?_
        exact z_iret hx hb hr hK hS (Nat.le_of_ble_eq_true rfl) (Nat.le_of_ble_eq_true rfl) hlocks dX12_other_35 (shM, ad, I, J, PM ad) hW ⟨I, J, rfl, ⟨(by show 0 ≤ (I 0 0).toInt ∧ (I 0 0).toInt ≤ 719; exact hma.1), (by show 0 ≤ (I 0 1).toInt ∧ (I 0 1).toInt ≤ 30; exact hma.2.1), (by show 0 ≤ (I 0 2).toInt ∧ (I 0 2).toInt ≤ 200; exact hma.2.2)⟩, ⟨(by show 0 ≤ (I 0 13).toInt ∧ (I 0 13).toInt ≤ 12; exact hmb.1), (by show 0 ≤ (I 0 14).toInt ∧ (I 0 14).toInt ≤ 288; exact hmb.2)⟩, hAtf, hAtm, hNd, hAsf, hAst, hAsc, hEx, z_fr_0⟩
    · refine lv_if_eq (tgt := 34) hx hb dX12_other_13 (by decide) (fun c32 => ?_) (fun c32 => absurd (by decide) c32)
      refine lv_iconst (v := (-1)) hx hb dX12_other_34 (by decide) ?_
      exact z_iret hx hb hr hK hS (Nat.le_of_ble_eq_true rfl) (Nat.le_of_ble_eq_true rfl) hlocks dX12_other_35 (shM, ad, I, J, PM ad) hW ⟨I, J, rfl, ⟨(by show 0 ≤ (I 0 0).toInt ∧ (I 0 0).toInt ≤ 719; exact hma.1), (by show 0 ≤ (I 0 1).toInt ∧ (I 0 1).toInt ≤ 30; exact hma.2.1), (by show 0 ≤ (I 0 2).toInt ∧ (I 0 2).toInt ≤ 200; exact hma.2.2)⟩, ⟨(by show 0 ≤ (I 0 13).toInt ∧ (I 0 13).toInt ≤ 12; exact hmb.1), (by show 0 ≤ (I 0 14).toInt ∧ (I 0 14).toInt ≤ 288; exact hmb.2)⟩, hAtf, hAtm, hNd, hAsf, hAst, hAsc, hEx, z_fr_0⟩
  · refine lv_if_eq (tgt := 34) hx hb dX12_other_6 (by decide) (fun c33 => ?_) (fun c33 => absurd (by decide) c33)
    refine lv_iconst (v := (-1)) hx hb dX12_other_34 (by decide) ?_
    exact z_iret hx hb hr hK hS (Nat.le_of_ble_eq_true rfl) (Nat.le_of_ble_eq_true rfl) hlocks dX12_other_35 (shM, ad, I, J, PM ad) hW ⟨I, J, rfl, ⟨(by show 0 ≤ (I 0 0).toInt ∧ (I 0 0).toInt ≤ 719; exact hma.1), (by show 0 ≤ (I 0 1).toInt ∧ (I 0 1).toInt ≤ 30; exact hma.2.1), (by show 0 ≤ (I 0 2).toInt ∧ (I 0 2).toInt ≤ 200; exact hma.2.2)⟩, ⟨(by show 0 ≤ (I 0 13).toInt ∧ (I 0 13).toInt ≤ 12; exact hmb.1), (by show 0 ≤ (I 0 14).toInt ∧ (I 0 14).toInt ≤ 288; exact hmb.2)⟩, hAtf, hAtm, hNd, hAsf, hAst, hAsc, hEx, z_fr_0⟩
noncomputable def L_X12_stays : z_L := [(69, 999), (70, 999), (24, 999), (30, 999)]
theorem zj_X12_stays_X12 : ∀ w ∈ wsX120, w ∈ wsX12_stays := fun w h => (List.mem_cons_of_mem _ (List.mem_append_right _ h))
set_option maxHeartbeats 8000000 in
set_option maxRecDepth 100000 in
theorem sx_X12_stays (l : Launch) (G : z_G) (ad : Nat → Nat) (I : z_I) (J : z_J) (hma : z_ima I) (hmb : z_imb I) (hAtf : z_rg 11 0 288 I) (hAtm : z_rg 12 0 24 I) (hNd : z_Nd I) (hAsf : z_rg 19 0 6200 I) (hAst : z_rg 20 0 6200 I) (hAsc : z_rg 18 (-1) 6199 I) (hEx : z_Ex I) (a1 : Int32) (a2 : Int32) : z_M l yX12_stays wsX12_stays { frames := 7, cells := 0, slots := 0, locals := 159 } [.ref (ad 0), .int a1, .int a2] G (shM, ad, I, J, PM ad) (fun r u1 => ∃ (I1 : z_I) (J1 : z_J), u1 = (shM, ad, I1, J1, PM ad) ∧ z_ima I1 ∧ z_imb I1 ∧ z_rg 11 0 288 I1 ∧ z_rg 12 0 24 I1 ∧ z_Nd I1 ∧ z_rg 19 0 6200 I1 ∧ z_rg 20 0 6200 I1 ∧ z_rg 18 (-1) 6199 I1 ∧ z_Ex I1 ∧ z_fr L_X12_stays I1 I) 0 0 := by
  intro sz
  refine z_headQ (cc := cX12_stays) (maxL := 5) (ret := (some .int)) (by decide) rfl (Nat.le_of_ble_eq_true rfl) ?_
  intro p e s m below meth c0 ls hIn hK hsz hW hl
  obtain ⟨hx, hb, hr, hml, hown, hts, hlocks, hname⟩ := hIn
  subst hsz
  have hown : s.vm.findClass RX12 = some m.cls := hown
  have hA : ∀ q : Nat, s.heap.size ≤ q → z_A (shM, ad, I, J, PM ad) s.heap.size q := fun q h => Or.inr h
  generalize hAe : z_A (shM, ad, I, J, PM ad) s.heap.size = A at *
  have hS : va_S A s.heap s.heap [] := va_S.rf
  have hl : lv_has ls 5 [(0, .ref (ad 0)), (1, .int a1), (2, .int a2)] := hl
  refine lv_iload_n hx hb dX12_stays_0 rfl (lv_at hl 1 rfl) ?_
  refine lv_iconst (v := 0) hx hb dX12_stays_1 (by decide) ?_
  refine lv_iconst (v := 2) hx hb dX12_stays_2 (by decide) ?_
  refine z_ci hW hS hA (va_runS (As := [.int a1, .int 0, .int 2]) (rest := []) ⟨hx, hb, hml, hown, hts⟩ (sx_X12_within l G ad I J  a1 0 2 _) (va_cwS 3 hts gX12_stays_X12_within rfl rfl rfl hy_X12_within.2 ⟨Nat.le_of_ble_eq_true rfl, Nat.le_of_ble_eq_true rfl⟩) (z_preS hK hW) rfl rfl hl.1 rfl (lv_room (Nat.le_of_ble_eq_true rfl)) dX12_stays_3 ⟨Nat.le_of_ble_eq_true rfl, Nat.le_of_ble_eq_true rfl⟩) (fun r u1 H locs hp hW hS => ?_)
  obtain ⟨e9, hp⟩ := hp
  rw [e9] at hW
  rcases hp with ⟨rfl, h1, h2⟩ | rfl
  · have h1 := z_t_le z_l0 rfl h1
    have h2 := z_t_le rfl z_l2 h2
    refine lv_if_eq (tgt := 16) hx hb dX12_stays_6 (by decide) (fun c3 => absurd c3 (by decide)) (fun c3 => ?_)
    refine lv_iload_n hx hb dX12_stays_9 rfl (lv_at hl 2 rfl) ?_
    refine z_ci hW hS hA (va_runS (As := [.int a2]) (rest := []) ⟨hx, hb, hml, hown, hts⟩ (sx_X12_isMonth l G ad I J  a2 _) (va_cwS 1 hts gX12_stays_X12_isMonth rfl rfl rfl hy_X12_isMonth.2 ⟨Nat.le_of_ble_eq_true rfl, Nat.le_of_ble_eq_true rfl⟩) (z_preS hK hW) rfl rfl hl.1 rfl (lv_room (Nat.le_of_ble_eq_true rfl)) dX12_stays_10 ⟨Nat.le_of_ble_eq_true rfl, Nat.le_of_ble_eq_true rfl⟩) (fun r u1 H locs hp hW hS => ?_)
    obtain ⟨e9, hp⟩ := hp
    rw [e9] at hW
    rcases hp with ⟨rfl, h4, h5⟩ | rfl
    · refine lv_if_ne (tgt := 18) hx hb dX12_stays_13 (by decide) (fun c6 => ?_) (fun c6 => absurd c6 (by decide))
      refine lv_aload_n hx hb dX12_stays_18 rfl (lv_at hl 0 rfl) ?_
      refine lv_iload_n hx hb dX12_stays_19 rfl (lv_at hl 1 rfl) ?_
      refine lv_iload_n hx hb dX12_stays_20 rfl (lv_at hl 2 rfl) ?_
      refine z_cv hW hS hA (va_runV (As := [.int a1, .int a2]) (rest := []) ⟨hx, hb, hml, hown, hts⟩ (sx_X12_deals l G ad I J ⟨(by show 0 ≤ (I 0 0).toInt ∧ (I 0 0).toInt ≤ 719; exact hma.1), (by show 0 ≤ (I 0 1).toInt ∧ (I 0 1).toInt ≤ 30; exact hma.2.1), (by show 0 ≤ (I 0 2).toInt ∧ (I 0 2).toInt ≤ 200; exact hma.2.2)⟩ ⟨(by show 0 ≤ (I 0 13).toInt ∧ (I 0 13).toInt ≤ 12; exact hmb.1), (by show 0 ≤ (I 0 14).toInt ∧ (I 0 14).toInt ≤ 288; exact hmb.2)⟩ hAtf hAtm hNd hAsf hAst hAsc hEx a1 a2 _) (cwV 2 hts gX12_stays_X12_deals rfl rfl rfl hy_X12_deals ⟨Nat.le_of_ble_eq_true rfl, Nat.le_of_ble_eq_true rfl⟩) (z_preV (i := 0) hK hW rfl rfl) rfl rfl hl.1 rfl (lv_room (Nat.le_of_ble_eq_true rfl)) dX12_stays_21 ⟨Nat.le_of_ble_eq_true rfl, Nat.le_of_ble_eq_true rfl⟩) (fun u1 H locs hp hW hS => ?_)
      obtain ⟨I7, J9, e9, hI7ma, hI7mb, hI7Atf, hI7Atm, hI7Nd, hI7Asf, hI7Ast, hI7Asc, hI7Ex, fI7⟩ := hp
      rw [e9] at hW
      have f8 := z_fr_sub (L := L_X12_stays) z_fr_0 fI7 (by decide)
      refine lv_iconst (v := 0) hx hb dX12_stays_24 (by decide) ?_
      refine lv_istore_n (lv' := [(3, .int 0), (0, .ref (ad 0)), (1, .int a1), (2, .int a2)]) hx hb dX12_stays_25 rfl hl (by decide) rfl (fun ls hl => ?_)
      refine lv_iconst (v := 0) hx hb dX12_stays_26 (by decide) ?_
      refine lv_istore (lv' := [(4, .int 0), (3, .int 0), (0, .ref (ad 0)), (1, .int a1), (2, .int a2)]) hx hb dX12_stays_27 hl (by decide) rfl (fun ls hl => ?_)
      have lp10 : ∀ (f : Nat) (y11 : Int32) (y12 : Int32) (H : Heap) (locs : List Loc) (ls : Array Slot), (2147483647 < y11.toInt + (f : Int)) → (0 ≤ y11.toInt) → z_W G A (shM, ad, I7, J9, PM ad) H → va_S A s.heap H locs → lv_has ls 5 [(4, .int y11), (3, .int y12), (0, .ref (ad 0)), (1, .int a1), (2, .int a2)] → W p l e (headSpec wsX12_stays { frames := 7, cells := 0, slots := 0, locals := 159 }).room s m ([.ref (ad 0), .int a1, .int a2] : List Value).toArray below meth c0 H locs 0 0 (MQ below (va_Qi (fun (r : Int32) (u1 : z_U) => ∃ (I1 : z_I) (J1 : z_J), u1 = (shM, ad, I1, J1, PM ad) ∧ z_ima I1 ∧ z_imb I1 ∧ z_rg 11 0 288 I1 ∧ z_rg 12 0 24 I1 ∧ z_Nd I1 ∧ z_rg 19 0 6200 I1 ∧ z_rg 20 0 6200 I1 ∧ z_rg 18 (-1) 6199 I1 ∧ z_Ex I1 ∧ z_fr L_X12_stays I1 I) (z_B G A) A) ([.ref (ad 0), .int a1, .int a2] : List Value).toArray s 0 0 A) (F0 m 29 ls []) := by
        intro f
        induction f with
        | zero => intro y11 y12 H locs ls lp10m lp10l4 hW hS hl; exact absurd lp10m (by have := Int32.toInt_lt y11; have := Int32.le_toInt y11; omega)
        | succ f lp10ih =>
          intro y11 y12 H locs ls lp10m lp10l4 hW hS hl
          refine lv_iload hx hb dX12_stays_29 (lv_at hl 0 rfl) ?_
          refine lv_aload_n hx hb dX12_stays_31 rfl (lv_at hl 2 rfl) ?_
          have r13 : 0 ≤ (I7 0 1).toInt ∧ (I7 0 1).toInt ≤ 30 := hI7ma.2.1
          refine z_get (T := TX12) (N := 96) (ci := 12) (i := 0) (v := .int (I7 0 1)) hx hb hts zj_X12_stays_X12 hown hK hW rfl rfl 1 (by decide) (hts (.fieldLink RX12 229 "PetrolBoardModel" "holders" "I") (me_s (me_l (me_l (List.mem_of_getElem? (i := 0) rfl))))) (fun _ h => h) rfl dX12_stays_32 ?_
          refine lv_icmp_ge (tgt := 64) hx hb dX12_stays_35 (by decide) (fun c14 => ?_) (fun c14 => ?_)
          · have g15 := z_f_ge rfl rfl c14
            have b16 := Int32.toInt_lt y11
            refine lv_iload_n hx hb dX12_stays_64 rfl (lv_at hl 1 rfl) ?_
            exact z_iret hx hb hr hK hS (Nat.le_of_ble_eq_true rfl) (Nat.le_of_ble_eq_true rfl) hlocks dX12_stays_65 (shM, ad, I7, J9, PM ad) hW ⟨I7, J9, rfl, ⟨(by show 0 ≤ (I7 0 0).toInt ∧ (I7 0 0).toInt ≤ 719; exact hI7ma.1), (by show 0 ≤ (I7 0 1).toInt ∧ (I7 0 1).toInt ≤ 30; exact hI7ma.2.1), (by show 0 ≤ (I7 0 2).toInt ∧ (I7 0 2).toInt ≤ 200; exact hI7ma.2.2)⟩, ⟨(by show 0 ≤ (I7 0 13).toInt ∧ (I7 0 13).toInt ≤ 12; exact hI7mb.1), (by show 0 ≤ (I7 0 14).toInt ∧ (I7 0 14).toInt ≤ 288; exact hI7mb.2)⟩, hI7Atf, hI7Atm, hI7Nd, hI7Asf, hI7Ast, hI7Asc, hI7Ex, f8⟩
          · have g17 := z_f_nge rfl rfl c14
            have b18 := Int32.toInt_lt y11
            refine lv_aload_n hx hb dX12_stays_38 rfl (lv_at hl 2 rfl) ?_
            refine z_get (T := TX12) (N := 96) (ci := 12) (i := 0) (v := .ref (ad 69)) hx hb hts zj_X12_stays_X12 hown hK hW rfl rfl 94 (by decide) (hts (.fieldLink RX12 223 "PetrolBoardModel" "deal" "[I") (me_s (me_l (me_l (List.mem_of_getElem? (i := 1) rfl))))) (fun _ h => h) rfl dX12_stays_39 ?_
            refine lv_iload hx hb dX12_stays_42 (lv_at hl 0 rfl) ?_
            refine z_iald (i := 69) hx hb hK hW rfl (z_ix rfl (by omega) (by omega)) dX12_stays_44 ?_
            refine lv_topi (fun x19 ex19 => ?_)
            refine lv_aload_n hx hb dX12_stays_45 rfl (lv_at hl 2 rfl) ?_
            refine z_get (T := TX12) (N := 96) (ci := 12) (i := 0) (v := .ref (ad 5)) hx hb hts zj_X12_stays_X12 hown hK hW rfl rfl 7 (by decide) (hts (.fieldLink RX12 22 "PetrolBoardModel" "needOf" "[I") (me_s (me_l (me_l (List.mem_of_getElem? (i := 2) rfl))))) (fun _ h => h) rfl dX12_stays_46 ?_
            refine lv_iload hx hb dX12_stays_49 (lv_at hl 0 rfl) ?_
            refine z_iald (i := 5) hx hb hK hW rfl (z_ix rfl (by omega) (by omega)) dX12_stays_51 ?_
            refine lv_topi (fun x20 ex20 => ?_)
            refine lv_icmp_lt (tgt := 58) hx hb dX12_stays_52 (by decide) (fun c21 => ?_) (fun c21 => ?_)
            · have g22 := z_f_lt rfl rfl c21
              have b23 := Int32.toInt_lt x19
              have b24 := Int32.toInt_lt x20
              obtain ⟨x25, ex25⟩ : ∃ y : Int32, y = y11 + 1 := ⟨_, rfl⟩
              have tx25 : x25.toInt = y11.toInt + 1 := z_tadd ex25 rfl z_l1 (by omega) (by omega)
              refine lv_iinc (v := x25) (lv' := [(4, .int x25), (3, .int y12), (0, .ref (ad 0)), (1, .int a1), (2, .int a2)]) hx hb dX12_stays_58 hl (k := 0) rfl (by rw [ex25]; rfl) (by decide) rfl (fun ls hl => ?_)
              refine lv_goto (tgt := 29) hx hb dX12_stays_61 (by decide) ?_
              exact lp10ih x25 y12 _ _ _ (by omega) (by omega) hW hS (lv_sub hl [0, 1, 2, 3, 4] rfl)
            · have g26 := z_f_nlt rfl rfl c21
              have b27 := Int32.toInt_lt x19
              have b28 := Int32.toInt_lt x20
              obtain ⟨x29, ex29⟩ : ∃ y : Int32, y = y12 + 1 := ⟨_, rfl⟩
              refine lv_iinc (v := x29) (lv' := [(3, .int x29), (4, .int y11), (0, .ref (ad 0)), (1, .int a1), (2, .int a2)]) hx hb dX12_stays_55 hl (k := 1) rfl (by rw [ex29]; rfl) (by decide) rfl (fun ls hl => ?_)
              obtain ⟨x30, ex30⟩ : ∃ y : Int32, y = y11 + 1 := ⟨_, rfl⟩
              have tx30 : x30.toInt = y11.toInt + 1 := z_tadd ex30 rfl z_l1 (by omega) (by omega)
              refine lv_iinc (v := x30) (lv' := [(4, .int x30), (3, .int x29), (0, .ref (ad 0)), (1, .int a1), (2, .int a2)]) hx hb dX12_stays_58 hl (k := 1) rfl (by rw [ex30]; rfl) (by decide) rfl (fun ls hl => ?_)
              refine lv_goto (tgt := 29) hx hb dX12_stays_61 (by decide) ?_
              exact lp10ih x30 x29 _ _ _ (by omega) (by omega) hW hS (lv_sub hl [0, 1, 2, 3, 4] rfl)
      exact lp10 4294967296 (0) (0) _ _ _ (z_m0u _) (by rw [z_l0]; omega) hW hS (lv_sub hl [0, 1, 2, 3, 4] rfl)
    · refine lv_if_ne (tgt := 18) hx hb dX12_stays_13 (by decide) (fun c31 => absurd (by decide) c31) (fun c31 => ?_)
      refine lv_iconst (v := (-1)) hx hb dX12_stays_16 (by decide) ?_
      exact z_iret hx hb hr hK hS (Nat.le_of_ble_eq_true rfl) (Nat.le_of_ble_eq_true rfl) hlocks dX12_stays_17 (shM, ad, I, J, PM ad) hW ⟨I, J, rfl, ⟨(by show 0 ≤ (I 0 0).toInt ∧ (I 0 0).toInt ≤ 719; exact hma.1), (by show 0 ≤ (I 0 1).toInt ∧ (I 0 1).toInt ≤ 30; exact hma.2.1), (by show 0 ≤ (I 0 2).toInt ∧ (I 0 2).toInt ≤ 200; exact hma.2.2)⟩, ⟨(by show 0 ≤ (I 0 13).toInt ∧ (I 0 13).toInt ≤ 12; exact hmb.1), (by show 0 ≤ (I 0 14).toInt ∧ (I 0 14).toInt ≤ 288; exact hmb.2)⟩, hAtf, hAtm, hNd, hAsf, hAst, hAsc, hEx, z_fr_0⟩
  · refine lv_if_eq (tgt := 16) hx hb dX12_stays_6 (by decide) (fun c32 => ?_) (fun c32 => absurd (by decide) c32)
    refine lv_iconst (v := (-1)) hx hb dX12_stays_16 (by decide) ?_
    exact z_iret hx hb hr hK hS (Nat.le_of_ble_eq_true rfl) (Nat.le_of_ble_eq_true rfl) hlocks dX12_stays_17 (shM, ad, I, J, PM ad) hW ⟨I, J, rfl, ⟨(by show 0 ≤ (I 0 0).toInt ∧ (I 0 0).toInt ≤ 719; exact hma.1), (by show 0 ≤ (I 0 1).toInt ∧ (I 0 1).toInt ≤ 30; exact hma.2.1), (by show 0 ≤ (I 0 2).toInt ∧ (I 0 2).toInt ≤ 200; exact hma.2.2)⟩, ⟨(by show 0 ≤ (I 0 13).toInt ∧ (I 0 13).toInt ≤ 12; exact hmb.1), (by show 0 ≤ (I 0 14).toInt ∧ (I 0 14).toInt ≤ 288; exact hmb.2)⟩, hAtf, hAtm, hNd, hAsf, hAst, hAsc, hEx, z_fr_0⟩
