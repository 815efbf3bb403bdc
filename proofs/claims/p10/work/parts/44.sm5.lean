theorem dX12_here_0 : decode cX12_here 0 = .ok (.aload_n 0, 1) := z_dd_42 (by decide +kernel)
theorem dX12_here_1 : decode cX12_here 1 = .ok (.getfield 256, 3) := z_dd_180 (by decide +kernel)
theorem dX12_here_4 : decode cX12_here 4 = .ok (.aload_n 0, 1) := z_dd_42 (by decide +kernel)
theorem dX12_here_5 : decode cX12_here 5 = .ok (.getfield 259, 3) := z_dd_180 (by decide +kernel)
theorem dX12_here_8 : decode cX12_here 8 = .ok (.if_icmp .ge 19, 3) := z_dd_162 (by decide +kernel)
theorem dX12_here_27 : decode cX12_here 27 = .ok (.iconst (-1), 1) := z_dd_2 (by decide +kernel)
theorem dX12_here_28 : decode cX12_here 28 = .ok (.ireturn, 1) := z_dd_172 (by decide +kernel)
theorem dX12_here_11 : decode cX12_here 11 = .ok (.aload_n 0, 1) := z_dd_42 (by decide +kernel)
theorem dX12_here_12 : decode cX12_here 12 = .ok (.getfield 83, 3) := z_dd_180 (by decide +kernel)
theorem dX12_here_15 : decode cX12_here 15 = .ok (.aload_n 0, 1) := z_dd_42 (by decide +kernel)
theorem dX12_here_16 : decode cX12_here 16 = .ok (.getfield 256, 3) := z_dd_180 (by decide +kernel)
theorem dX12_here_19 : decode cX12_here 19 = .ok (.baload, 1) := z_dd_51 (by decide +kernel)
theorem dX12_here_20 : decode cX12_here 20 = .ok (.sipush 255, 3) := z_dd_17 (by decide +kernel)
theorem dX12_here_23 : decode cX12_here 23 = .ok (.iand, 1) := z_dd_126 (by decide +kernel)
theorem dX12_here_24 : decode cX12_here 24 = .ok (.goto 4, 3) := z_dd_167 (by decide +kernel)
theorem dX12_isSignByte_0 : decode cX12_isSignByte 0 = .ok (.iload_n 0, 1) := z_dd_26 (by decide +kernel)
theorem dX12_isSignByte_1 : decode cX12_isSignByte 1 = .ok (.bipush 59, 2) := z_dd_16 (by decide +kernel)
theorem dX12_isSignByte_3 : decode cX12_isSignByte 3 = .ok (.if_icmp .eq 75, 3) := z_dd_159 (by decide +kernel)
theorem dX12_isSignByte_78 : decode cX12_isSignByte 78 = .ok (.iconst 1, 1) := z_dd_4 (by decide +kernel)
theorem dX12_isSignByte_79 : decode cX12_isSignByte 79 = .ok (.goto 4, 3) := z_dd_167 (by decide +kernel)
theorem dX12_isSignByte_83 : decode cX12_isSignByte 83 = .ok (.ireturn, 1) := z_dd_172 (by decide +kernel)
theorem dX12_isSignByte_6 : decode cX12_isSignByte 6 = .ok (.iload_n 0, 1) := z_dd_26 (by decide +kernel)
theorem dX12_isSignByte_7 : decode cX12_isSignByte 7 = .ok (.bipush 40, 2) := z_dd_16 (by decide +kernel)
theorem dX12_isSignByte_9 : decode cX12_isSignByte 9 = .ok (.if_icmp .eq 69, 3) := z_dd_159 (by decide +kernel)
theorem dX12_isSignByte_12 : decode cX12_isSignByte 12 = .ok (.iload_n 0, 1) := z_dd_26 (by decide +kernel)
theorem dX12_isSignByte_13 : decode cX12_isSignByte 13 = .ok (.bipush 41, 2) := z_dd_16 (by decide +kernel)
theorem dX12_isSignByte_15 : decode cX12_isSignByte 15 = .ok (.if_icmp .eq 63, 3) := z_dd_159 (by decide +kernel)
theorem dX12_isSignByte_18 : decode cX12_isSignByte 18 = .ok (.iload_n 0, 1) := z_dd_26 (by decide +kernel)
theorem dX12_isSignByte_19 : decode cX12_isSignByte 19 = .ok (.bipush 123, 2) := z_dd_16 (by decide +kernel)
theorem dX12_isSignByte_21 : decode cX12_isSignByte 21 = .ok (.if_icmp .eq 57, 3) := z_dd_159 (by decide +kernel)
theorem dX12_isSignByte_24 : decode cX12_isSignByte 24 = .ok (.iload_n 0, 1) := z_dd_26 (by decide +kernel)
theorem dX12_isSignByte_25 : decode cX12_isSignByte 25 = .ok (.bipush 125, 2) := z_dd_16 (by decide +kernel)
theorem dX12_isSignByte_27 : decode cX12_isSignByte 27 = .ok (.if_icmp .eq 51, 3) := z_dd_159 (by decide +kernel)
theorem dX12_isSignByte_30 : decode cX12_isSignByte 30 = .ok (.iload_n 0, 1) := z_dd_26 (by decide +kernel)
theorem dX12_isSignByte_31 : decode cX12_isSignByte 31 = .ok (.bipush 44, 2) := z_dd_16 (by decide +kernel)
theorem dX12_isSignByte_33 : decode cX12_isSignByte 33 = .ok (.if_icmp .eq 45, 3) := z_dd_159 (by decide +kernel)
theorem dX12_isSignByte_36 : decode cX12_isSignByte 36 = .ok (.iload_n 0, 1) := z_dd_26 (by decide +kernel)
theorem dX12_isSignByte_37 : decode cX12_isSignByte 37 = .ok (.bipush 60, 2) := z_dd_16 (by decide +kernel)
theorem dX12_isSignByte_39 : decode cX12_isSignByte 39 = .ok (.if_icmp .eq 39, 3) := z_dd_159 (by decide +kernel)
theorem dX12_isSignByte_42 : decode cX12_isSignByte 42 = .ok (.iload_n 0, 1) := z_dd_26 (by decide +kernel)
theorem dX12_isSignByte_43 : decode cX12_isSignByte 43 = .ok (.bipush 62, 2) := z_dd_16 (by decide +kernel)
theorem dX12_isSignByte_45 : decode cX12_isSignByte 45 = .ok (.if_icmp .eq 33, 3) := z_dd_159 (by decide +kernel)
theorem dX12_isSignByte_48 : decode cX12_isSignByte 48 = .ok (.iload_n 0, 1) := z_dd_26 (by decide +kernel)
theorem dX12_isSignByte_49 : decode cX12_isSignByte 49 = .ok (.bipush 61, 2) := z_dd_16 (by decide +kernel)
theorem dX12_isSignByte_51 : decode cX12_isSignByte 51 = .ok (.if_icmp .eq 27, 3) := z_dd_159 (by decide +kernel)
theorem dX12_isSignByte_54 : decode cX12_isSignByte 54 = .ok (.iload_n 0, 1) := z_dd_26 (by decide +kernel)
theorem dX12_isSignByte_55 : decode cX12_isSignByte 55 = .ok (.bipush 43, 2) := z_dd_16 (by decide +kernel)
theorem dX12_isSignByte_57 : decode cX12_isSignByte 57 = .ok (.if_icmp .eq 21, 3) := z_dd_159 (by decide +kernel)
theorem dX12_isSignByte_60 : decode cX12_isSignByte 60 = .ok (.iload_n 0, 1) := z_dd_26 (by decide +kernel)
theorem dX12_isSignByte_61 : decode cX12_isSignByte 61 = .ok (.bipush 45, 2) := z_dd_16 (by decide +kernel)
theorem dX12_isSignByte_63 : decode cX12_isSignByte 63 = .ok (.if_icmp .eq 15, 3) := z_dd_159 (by decide +kernel)
theorem dX12_isSignByte_66 : decode cX12_isSignByte 66 = .ok (.iload_n 0, 1) := z_dd_26 (by decide +kernel)
theorem dX12_isSignByte_67 : decode cX12_isSignByte 67 = .ok (.bipush 42, 2) := z_dd_16 (by decide +kernel)
theorem dX12_isSignByte_69 : decode cX12_isSignByte 69 = .ok (.if_icmp .eq 9, 3) := z_dd_159 (by decide +kernel)
theorem dX12_isSignByte_72 : decode cX12_isSignByte 72 = .ok (.iload_n 0, 1) := z_dd_26 (by decide +kernel)
theorem dX12_isSignByte_73 : decode cX12_isSignByte 73 = .ok (.bipush 47, 2) := z_dd_16 (by decide +kernel)
theorem dX12_isSignByte_75 : decode cX12_isSignByte 75 = .ok (.if_icmp .ne 7, 3) := z_dd_160 (by decide +kernel)
theorem dX12_isSignByte_82 : decode cX12_isSignByte 82 = .ok (.iconst 0, 1) := z_dd_3 (by decide +kernel)
theorem dX12_next_0 : decode cX12_next 0 = .ok (.aload_n 0, 1) := z_dd_42 (by decide +kernel)
set_option maxRecDepth 20000 in
theorem ggX12_next_X12_here : GoodIn wsX12_next wsX12_here := goodIn_sub (fa_c (me_s (me_l (me_l (List.mem_of_getElem? (i := 13) rfl)))) (fa_a (fa_c (me_s (me_l (me_l (List.mem_of_getElem? (i := 0) rfl)))) (fa_c (me_s (me_l (me_l (List.mem_of_getElem? (i := 14) rfl)))) (fa_c (me_s (me_l (me_l (List.mem_of_getElem? (i := 15) rfl)))) fa_n))) (fun w h => (me_s (me_r h))))) (by decide +kernel)
set_option maxRecDepth 20000 in
theorem gX12_next_X12_here : GoodIn wsX12_next (wsV RX12 262 RX12 yX12_here wsX12_here) := goodIn_app (goodIn_sub (fa_c (me_s (me_l (me_l (List.mem_of_getElem? (i := 9) rfl)))) (fa_c (me_s (me_l (me_l (List.mem_of_getElem? (i := 10) rfl)))) (fa_c (me_s (me_l (me_l (List.mem_of_getElem? (i := 11) rfl)))) (fa_c (me_s (me_l (me_l (List.mem_of_getElem? (i := 12) rfl)))) fa_n)))) (by decide +kernel)) ggX12_next_X12_here
theorem dX12_next_1 : decode cX12_next 1 = .ok (.invokevirtual 262, 3) := z_dd_182 (by decide +kernel)
theorem dX12_next_4 : decode cX12_next 4 = .ok (.bipush 32, 2) := z_dd_16 (by decide +kernel)
theorem dX12_next_6 : decode cX12_next 6 = .ok (.if_icmp .eq 12, 3) := z_dd_159 (by decide +kernel)
theorem dX12_next_18 : decode cX12_next 18 = .ok (.aload_n 0, 1) := z_dd_42 (by decide +kernel)
theorem dX12_next_19 : decode cX12_next 19 = .ok (.dup, 1) := z_dd_89 (by decide +kernel)
theorem dX12_next_20 : decode cX12_next 20 = .ok (.getfield 256, 3) := z_dd_180 (by decide +kernel)
theorem dX12_next_23 : decode cX12_next 23 = .ok (.iconst 1, 1) := z_dd_4 (by decide +kernel)
theorem dX12_next_24 : decode cX12_next 24 = .ok (.iadd, 1) := z_dd_96 (by decide +kernel)
theorem dX12_next_25 : decode cX12_next 25 = .ok (.putfield 256, 3) := z_dd_181 (by decide +kernel)
theorem dX12_next_28 : decode cX12_next 28 = .ok (.goto (-28), 3) := z_dd_167 (by decide +kernel)
theorem dX12_next_9 : decode cX12_next 9 = .ok (.aload_n 0, 1) := z_dd_42 (by decide +kernel)
theorem dX12_next_10 : decode cX12_next 10 = .ok (.invokevirtual 262, 3) := z_dd_182 (by decide +kernel)
theorem dX12_next_13 : decode cX12_next 13 = .ok (.bipush 10, 2) := z_dd_16 (by decide +kernel)
theorem dX12_next_15 : decode cX12_next 15 = .ok (.if_icmp .ne 16, 3) := z_dd_160 (by decide +kernel)
theorem dX12_next_31 : decode cX12_next 31 = .ok (.aload_n 0, 1) := z_dd_42 (by decide +kernel)
theorem dX12_next_32 : decode cX12_next 32 = .ok (.aload_n 0, 1) := z_dd_42 (by decide +kernel)
theorem dX12_next_33 : decode cX12_next 33 = .ok (.getfield 256, 3) := z_dd_180 (by decide +kernel)
theorem dX12_next_36 : decode cX12_next 36 = .ok (.putfield 266, 3) := z_dd_181 (by decide +kernel)
theorem dX12_next_39 : decode cX12_next 39 = .ok (.aload_n 0, 1) := z_dd_42 (by decide +kernel)
theorem dX12_next_40 : decode cX12_next 40 = .ok (.invokevirtual 262, 3) := z_dd_182 (by decide +kernel)
theorem dX12_next_43 : decode cX12_next 43 = .ok (.istore_n 1, 1) := z_dd_60 (by decide +kernel)
theorem dX12_next_44 : decode cX12_next 44 = .ok (.aload_n 0, 1) := z_dd_42 (by decide +kernel)
theorem dX12_next_45 : decode cX12_next 45 = .ok (.ldc2_w 269, 3) := z_dd_20 (by decide +kernel)
theorem dX12_next_48 : decode cX12_next 48 = .ok (.putfield 271, 3) := z_dd_181 (by decide +kernel)
theorem dX12_next_51 : decode cX12_next 51 = .ok (.aload_n 0, 1) := z_dd_42 (by decide +kernel)
theorem dX12_next_52 : decode cX12_next 52 = .ok (.iconst 0, 1) := z_dd_3 (by decide +kernel)
theorem dX12_next_53 : decode cX12_next 53 = .ok (.putfield 275, 3) := z_dd_181 (by decide +kernel)
theorem dX12_next_56 : decode cX12_next 56 = .ok (.aload_n 0, 1) := z_dd_42 (by decide +kernel)
theorem dX12_next_57 : decode cX12_next 57 = .ok (.iconst 0, 1) := z_dd_3 (by decide +kernel)
theorem dX12_next_58 : decode cX12_next 58 = .ok (.putfield 278, 3) := z_dd_181 (by decide +kernel)
theorem dX12_next_61 : decode cX12_next 61 = .ok (.iload_n 1, 1) := z_dd_27 (by decide +kernel)
theorem dX12_next_62 : decode cX12_next 62 = .ok (.ifCond .ge 11, 3) := z_dd_156 (by decide +kernel)
theorem dX12_next_73 : decode cX12_next 73 = .ok (.iload_n 1, 1) := z_dd_27 (by decide +kernel)
theorem dX12_next_74 : decode cX12_next 74 = .ok (.bipush 97, 2) := z_dd_16 (by decide +kernel)
theorem dX12_next_76 : decode cX12_next 76 = .ok (.bipush 122, 2) := z_dd_16 (by decide +kernel)
set_option maxRecDepth 20000 in
theorem ggX12_next_X12_within : GoodIn wsX12_next wsX12_within := goodIn_sub (fa_c (me_s (me_l (me_l (List.mem_of_getElem? (i := 18) rfl)))) fa_n) (by decide +kernel)
set_option maxRecDepth 20000 in
theorem gX12_next_X12_within : GoodIn wsX12_next (va_wsS RX12 235 yX12_within wsX12_within) := goodIn_app (goodIn_sub (fa_c (me_s (me_l (me_l (List.mem_of_getElem? (i := 16) rfl)))) (fa_c (me_s (me_l (me_l (List.mem_of_getElem? (i := 17) rfl)))) (fa_c (me_s (me_l (me_l (List.mem_of_getElem? (i := 12) rfl)))) fa_n))) (by decide +kernel)) ggX12_next_X12_within
theorem dX12_next_78 : decode cX12_next 78 = .ok (.invokestatic 235, 3) := z_dd_184 (by decide +kernel)
theorem dX12_next_81 : decode cX12_next 81 = .ok (.ifCond .eq 81, 3) := z_dd_153 (by decide +kernel)
theorem dX12_next_84 : decode cX12_next 84 = .ok (.aload_n 0, 1) := z_dd_42 (by decide +kernel)
theorem dX12_next_85 : decode cX12_next 85 = .ok (.iconst 1, 1) := z_dd_4 (by decide +kernel)
theorem dX12_next_86 : decode cX12_next 86 = .ok (.putfield 281, 3) := z_dd_181 (by decide +kernel)
theorem dX12_next_89 : decode cX12_next 89 = .ok (.aload_n 0, 1) := z_dd_42 (by decide +kernel)
theorem dX12_next_90 : decode cX12_next 90 = .ok (.lconst 0, 1) := z_dd_9 (by decide +kernel)
theorem dX12_next_91 : decode cX12_next 91 = .ok (.putfield 271, 3) := z_dd_181 (by decide +kernel)
theorem dX12_next_94 : decode cX12_next 94 = .ok (.aload_n 0, 1) := z_dd_42 (by decide +kernel)
theorem dX12_next_95 : decode cX12_next 95 = .ok (.invokevirtual 262, 3) := z_dd_182 (by decide +kernel)
theorem dX12_next_98 : decode cX12_next 98 = .ok (.bipush 97, 2) := z_dd_16 (by decide +kernel)
theorem dX12_next_100 : decode cX12_next 100 = .ok (.bipush 122, 2) := z_dd_16 (by decide +kernel)
theorem dX12_next_102 : decode cX12_next 102 = .ok (.invokestatic 235, 3) := z_dd_184 (by decide +kernel)
theorem dX12_next_105 : decode cX12_next 105 = .ok (.ifCond .eq 177, 3) := z_dd_153 (by decide +kernel)
theorem dX12_next_108 : decode cX12_next 108 = .ok (.aload_n 0, 1) := z_dd_42 (by decide +kernel)
theorem dX12_next_109 : decode cX12_next 109 = .ok (.aload_n 0, 1) := z_dd_42 (by decide +kernel)
theorem dX12_next_110 : decode cX12_next 110 = .ok (.getfield 256, 3) := z_dd_180 (by decide +kernel)
theorem dX12_next_113 : decode cX12_next 113 = .ok (.aload_n 0, 1) := z_dd_42 (by decide +kernel)
theorem dX12_next_114 : decode cX12_next 114 = .ok (.getfield 266, 3) := z_dd_180 (by decide +kernel)
theorem dX12_next_117 : decode cX12_next 117 = .ok (.isub, 1) := z_dd_100 (by decide +kernel)
theorem dX12_next_118 : decode cX12_next 118 = .ok (.bipush 10, 2) := z_dd_16 (by decide +kernel)
theorem dX12_next_120 : decode cX12_next 120 = .ok (.if_icmp .ge 23, 3) := z_dd_162 (by decide +kernel)
theorem dX12_next_143 : decode cX12_next 143 = .ok (.ldc2_w 269, 3) := z_dd_20 (by decide +kernel)
theorem dX12_next_146 : decode cX12_next 146 = .ok (.putfield 271, 3) := z_dd_181 (by decide +kernel)
theorem dX12_next_149 : decode cX12_next 149 = .ok (.aload_n 0, 1) := z_dd_42 (by decide +kernel)
theorem dX12_next_150 : decode cX12_next 150 = .ok (.dup, 1) := z_dd_89 (by decide +kernel)
theorem dX12_next_151 : decode cX12_next 151 = .ok (.getfield 256, 3) := z_dd_180 (by decide +kernel)
theorem dX12_next_154 : decode cX12_next 154 = .ok (.iconst 1, 1) := z_dd_4 (by decide +kernel)
theorem dX12_next_155 : decode cX12_next 155 = .ok (.iadd, 1) := z_dd_96 (by decide +kernel)
theorem dX12_next_156 : decode cX12_next 156 = .ok (.putfield 256, 3) := z_dd_181 (by decide +kernel)
theorem dX12_next_159 : decode cX12_next 159 = .ok (.goto (-65), 3) := z_dd_167 (by decide +kernel)
theorem dX12_next_123 : decode cX12_next 123 = .ok (.aload_n 0, 1) := z_dd_42 (by decide +kernel)
theorem dX12_next_124 : decode cX12_next 124 = .ok (.getfield 271, 3) := z_dd_180 (by decide +kernel)
theorem dX12_next_127 : decode cX12_next 127 = .ok (.ldc2_w 284, 3) := z_dd_20 (by decide +kernel)
theorem dX12_next_130 : decode cX12_next 130 = .ok (.lmul, 1) := z_dd_105 (by decide +kernel)
theorem dX12_next_131 : decode cX12_next 131 = .ok (.aload_n 0, 1) := z_dd_42 (by decide +kernel)
theorem dX12_next_132 : decode cX12_next 132 = .ok (.invokevirtual 262, 3) := z_dd_182 (by decide +kernel)
theorem dX12_next_135 : decode cX12_next 135 = .ok (.bipush 96, 2) := z_dd_16 (by decide +kernel)
theorem dX12_next_137 : decode cX12_next 137 = .ok (.isub, 1) := z_dd_100 (by decide +kernel)
theorem dX12_next_138 : decode cX12_next 138 = .ok (.i2l, 1) := z_dd_133 (by decide +kernel)
theorem dX12_next_139 : decode cX12_next 139 = .ok (.ladd, 1) := z_dd_97 (by decide +kernel)
theorem dX12_next_140 : decode cX12_next 140 = .ok (.goto 6, 3) := z_dd_167 (by decide +kernel)
theorem dX12_next_282 : decode cX12_next 282 = .ok (.return_, 1) := z_dd_177 (by decide +kernel)
theorem dX12_next_162 : decode cX12_next 162 = .ok (.iload_n 1, 1) := z_dd_27 (by decide +kernel)
theorem dX12_next_163 : decode cX12_next 163 = .ok (.bipush 48, 2) := z_dd_16 (by decide +kernel)
theorem dX12_next_165 : decode cX12_next 165 = .ok (.bipush 57, 2) := z_dd_16 (by decide +kernel)
theorem dX12_next_167 : decode cX12_next 167 = .ok (.invokestatic 235, 3) := z_dd_184 (by decide +kernel)
theorem dX12_next_170 : decode cX12_next 170 = .ok (.ifCond .eq 81, 3) := z_dd_153 (by decide +kernel)
theorem dX12_next_173 : decode cX12_next 173 = .ok (.aload_n 0, 1) := z_dd_42 (by decide +kernel)
theorem dX12_next_174 : decode cX12_next 174 = .ok (.invokevirtual 262, 3) := z_dd_182 (by decide +kernel)
theorem dX12_next_177 : decode cX12_next 177 = .ok (.bipush 48, 2) := z_dd_16 (by decide +kernel)
theorem dX12_next_179 : decode cX12_next 179 = .ok (.bipush 57, 2) := z_dd_16 (by decide +kernel)
theorem dX12_next_181 : decode cX12_next 181 = .ok (.invokestatic 235, 3) := z_dd_184 (by decide +kernel)
theorem dX12_next_184 : decode cX12_next 184 = .ok (.ifCond .eq 41, 3) := z_dd_153 (by decide +kernel)
theorem dX12_next_187 : decode cX12_next 187 = .ok (.aload_n 0, 1) := z_dd_42 (by decide +kernel)
theorem dX12_next_188 : decode cX12_next 188 = .ok (.aload_n 0, 1) := z_dd_42 (by decide +kernel)
theorem dX12_next_189 : decode cX12_next 189 = .ok (.getfield 278, 3) := z_dd_180 (by decide +kernel)
theorem dX12_next_192 : decode cX12_next 192 = .ok (.ldc_w 286, 3) := z_dd_19 (by decide +kernel)
set_option maxRecDepth 20000 in
theorem ggX12_next_X12_min : GoodIn wsX12_next wsX12_min := goodIn_sub (fa_c (me_s (me_l (me_l (List.mem_of_getElem? (i := 21) rfl)))) fa_n) (by decide +kernel)
set_option maxRecDepth 20000 in
theorem gX12_next_X12_min : GoodIn wsX12_next (va_wsS RX12 287 yX12_min wsX12_min) := goodIn_app (goodIn_sub (fa_c (me_s (me_l (me_l (List.mem_of_getElem? (i := 19) rfl)))) (fa_c (me_s (me_l (me_l (List.mem_of_getElem? (i := 20) rfl)))) (fa_c (me_s (me_l (me_l (List.mem_of_getElem? (i := 12) rfl)))) fa_n))) (by decide +kernel)) ggX12_next_X12_min
theorem dX12_next_195 : decode cX12_next 195 = .ok (.invokestatic 287, 3) := z_dd_184 (by decide +kernel)
theorem dX12_next_198 : decode cX12_next 198 = .ok (.bipush 10, 2) := z_dd_16 (by decide +kernel)
theorem dX12_next_200 : decode cX12_next 200 = .ok (.imul, 1) := z_dd_104 (by decide +kernel)
theorem dX12_next_201 : decode cX12_next 201 = .ok (.aload_n 0, 1) := z_dd_42 (by decide +kernel)
theorem dX12_next_202 : decode cX12_next 202 = .ok (.invokevirtual 262, 3) := z_dd_182 (by decide +kernel)
theorem dX12_next_205 : decode cX12_next 205 = .ok (.iadd, 1) := z_dd_96 (by decide +kernel)
theorem dX12_next_206 : decode cX12_next 206 = .ok (.bipush 48, 2) := z_dd_16 (by decide +kernel)
theorem dX12_next_208 : decode cX12_next 208 = .ok (.isub, 1) := z_dd_100 (by decide +kernel)
theorem dX12_next_209 : decode cX12_next 209 = .ok (.putfield 278, 3) := z_dd_181 (by decide +kernel)
theorem dX12_next_212 : decode cX12_next 212 = .ok (.aload_n 0, 1) := z_dd_42 (by decide +kernel)
theorem dX12_next_213 : decode cX12_next 213 = .ok (.dup, 1) := z_dd_89 (by decide +kernel)
theorem dX12_next_214 : decode cX12_next 214 = .ok (.getfield 256, 3) := z_dd_180 (by decide +kernel)
theorem dX12_next_217 : decode cX12_next 217 = .ok (.iconst 1, 1) := z_dd_4 (by decide +kernel)
theorem dX12_next_218 : decode cX12_next 218 = .ok (.iadd, 1) := z_dd_96 (by decide +kernel)
theorem dX12_next_219 : decode cX12_next 219 = .ok (.putfield 256, 3) := z_dd_181 (by decide +kernel)
theorem dX12_next_222 : decode cX12_next 222 = .ok (.goto (-49), 3) := z_dd_167 (by decide +kernel)
theorem dX12_next_225 : decode cX12_next 225 = .ok (.aload_n 0, 1) := z_dd_42 (by decide +kernel)
theorem dX12_next_226 : decode cX12_next 226 = .ok (.aload_n 0, 1) := z_dd_42 (by decide +kernel)
theorem dX12_next_227 : decode cX12_next 227 = .ok (.getfield 256, 3) := z_dd_180 (by decide +kernel)
theorem dX12_next_230 : decode cX12_next 230 = .ok (.aload_n 0, 1) := z_dd_42 (by decide +kernel)
theorem dX12_next_231 : decode cX12_next 231 = .ok (.getfield 266, 3) := z_dd_180 (by decide +kernel)
theorem dX12_next_234 : decode cX12_next 234 = .ok (.isub, 1) := z_dd_100 (by decide +kernel)
theorem dX12_next_235 : decode cX12_next 235 = .ok (.bipush 6, 2) := z_dd_16 (by decide +kernel)
theorem dX12_next_237 : decode cX12_next 237 = .ok (.if_icmp .gt 7, 3) := z_dd_163 (by decide +kernel)
theorem dX12_next_244 : decode cX12_next 244 = .ok (.iconst 4, 1) := z_dd_7 (by decide +kernel)
theorem dX12_next_245 : decode cX12_next 245 = .ok (.putfield 281, 3) := z_dd_181 (by decide +kernel)
theorem dX12_next_248 : decode cX12_next 248 = .ok (.goto 34, 3) := z_dd_167 (by decide +kernel)
theorem dX12_next_240 : decode cX12_next 240 = .ok (.iconst 2, 1) := z_dd_5 (by decide +kernel)
theorem dX12_next_241 : decode cX12_next 241 = .ok (.goto 4, 3) := z_dd_167 (by decide +kernel)
theorem dX12_next_251 : decode cX12_next 251 = .ok (.aload_n 0, 1) := z_dd_42 (by decide +kernel)
theorem dX12_next_252 : decode cX12_next 252 = .ok (.iload_n 1, 1) := z_dd_27 (by decide +kernel)
set_option maxRecDepth 20000 in
theorem ggX12_next_X12_isSignByte : GoodIn wsX12_next wsX12_isSignByte := goodIn_sub (fa_c (me_s (me_l (me_r (List.mem_of_getElem? (i := 0) rfl)))) fa_n) (by decide +kernel)
set_option maxRecDepth 20000 in
theorem gX12_next_X12_isSignByte : GoodIn wsX12_next (va_wsS RX12 291 yX12_isSignByte wsX12_isSignByte) := goodIn_app (goodIn_sub (fa_c (me_s (me_l (me_l (List.mem_of_getElem? (i := 22) rfl)))) (fa_c (me_s (me_l (me_l (List.mem_of_getElem? (i := 23) rfl)))) (fa_c (me_s (me_l (me_l (List.mem_of_getElem? (i := 12) rfl)))) fa_n))) (by decide +kernel)) ggX12_next_X12_isSignByte
theorem dX12_next_253 : decode cX12_next 253 = .ok (.invokestatic 291, 3) := z_dd_184 (by decide +kernel)
theorem dX12_next_256 : decode cX12_next 256 = .ok (.ifCond .eq 7, 3) := z_dd_153 (by decide +kernel)
theorem dX12_next_259 : decode cX12_next 259 = .ok (.iconst 3, 1) := z_dd_6 (by decide +kernel)
theorem dX12_next_260 : decode cX12_next 260 = .ok (.goto 4, 3) := z_dd_167 (by decide +kernel)
theorem dX12_next_264 : decode cX12_next 264 = .ok (.putfield 281, 3) := z_dd_181 (by decide +kernel)
theorem dX12_next_267 : decode cX12_next 267 = .ok (.aload_n 0, 1) := z_dd_42 (by decide +kernel)
theorem dX12_next_268 : decode cX12_next 268 = .ok (.iload_n 1, 1) := z_dd_27 (by decide +kernel)
theorem dX12_next_269 : decode cX12_next 269 = .ok (.putfield 275, 3) := z_dd_181 (by decide +kernel)
theorem dX12_next_272 : decode cX12_next 272 = .ok (.aload_n 0, 1) := z_dd_42 (by decide +kernel)
theorem dX12_next_273 : decode cX12_next 273 = .ok (.dup, 1) := z_dd_89 (by decide +kernel)
theorem dX12_next_274 : decode cX12_next 274 = .ok (.getfield 256, 3) := z_dd_180 (by decide +kernel)
theorem dX12_next_277 : decode cX12_next 277 = .ok (.iconst 1, 1) := z_dd_4 (by decide +kernel)
theorem dX12_next_278 : decode cX12_next 278 = .ok (.iadd, 1) := z_dd_96 (by decide +kernel)
theorem dX12_next_279 : decode cX12_next 279 = .ok (.putfield 256, 3) := z_dd_181 (by decide +kernel)
theorem dX12_next_263 : decode cX12_next 263 = .ok (.iconst 4, 1) := z_dd_7 (by decide +kernel)
theorem dX12_next_65 : decode cX12_next 65 = .ok (.aload_n 0, 1) := z_dd_42 (by decide +kernel)
theorem dX12_next_66 : decode cX12_next 66 = .ok (.iconst 0, 1) := z_dd_3 (by decide +kernel)
theorem dX12_next_67 : decode cX12_next 67 = .ok (.putfield 281, 3) := z_dd_181 (by decide +kernel)
theorem dX12_next_70 : decode cX12_next 70 = .ok (.goto 212, 3) := z_dd_167 (by decide +kernel)
theorem dX12_errs_0 : decode cX12_errs 0 = .ok (.aload_n 0, 1) := z_dd_42 (by decide +kernel)
theorem dX12_errs_1 : decode cX12_errs 1 = .ok (.getfield 294, 3) := z_dd_180 (by decide +kernel)
theorem dX12_errs_4 : decode cX12_errs 4 = .ok (.ifCond .eq 4, 3) := z_dd_153 (by decide +kernel)
theorem dX12_errs_8 : decode cX12_errs 8 = .ok (.aload_n 0, 1) := z_dd_42 (by decide +kernel)
theorem dX12_errs_9 : decode cX12_errs 9 = .ok (.iconst 1, 1) := z_dd_4 (by decide +kernel)
theorem dX12_errs_10 : decode cX12_errs 10 = .ok (.putfield 294, 3) := z_dd_181 (by decide +kernel)
theorem dX12_errs_13 : decode cX12_errs 13 = .ok (.aload_n 0, 1) := z_dd_42 (by decide +kernel)
theorem dX12_errs_14 : decode cX12_errs 14 = .ok (.aload_n 0, 1) := z_dd_42 (by decide +kernel)
theorem dX12_errs_15 : decode cX12_errs 15 = .ok (.getfield 266, 3) := z_dd_180 (by decide +kernel)
theorem dX12_errs_18 : decode cX12_errs 18 = .ok (.putfield 87, 3) := z_dd_181 (by decide +kernel)
theorem dX12_errs_21 : decode cX12_errs 21 = .ok (.return_, 1) := z_dd_177 (by decide +kernel)
theorem dX12_errs_7 : decode cX12_errs 7 = .ok (.return_, 1) := z_dd_177 (by decide +kernel)
theorem dX12_isWord_0 : decode cX12_isWord 0 = .ok (.aload_n 0, 1) := z_dd_42 (by decide +kernel)
theorem dX12_isWord_1 : decode cX12_isWord 1 = .ok (.getfield 281, 3) := z_dd_180 (by decide +kernel)
theorem dX12_isWord_4 : decode cX12_isWord 4 = .ok (.iconst 1, 1) := z_dd_4 (by decide +kernel)
theorem dX12_isWord_5 : decode cX12_isWord 5 = .ok (.if_icmp .ne 16, 3) := z_dd_160 (by decide +kernel)
theorem dX12_isWord_21 : decode cX12_isWord 21 = .ok (.iconst 0, 1) := z_dd_3 (by decide +kernel)
theorem dX12_isWord_22 : decode cX12_isWord 22 = .ok (.ireturn, 1) := z_dd_172 (by decide +kernel)
theorem dX12_isWord_8 : decode cX12_isWord 8 = .ok (.aload_n 0, 1) := z_dd_42 (by decide +kernel)
theorem dX12_isWord_9 : decode cX12_isWord 9 = .ok (.getfield 271, 3) := z_dd_180 (by decide +kernel)
theorem dX12_isWord_12 : decode cX12_isWord 12 = .ok (.lload_n 1, 1) := z_dd_31 (by decide +kernel)
theorem dX12_isWord_13 : decode cX12_isWord 13 = .ok (.lcmp, 1) := z_dd_148 (by decide +kernel)
theorem dX12_isWord_14 : decode cX12_isWord 14 = .ok (.ifCond .ne 7, 3) := z_dd_154 (by decide +kernel)
theorem dX12_isWord_17 : decode cX12_isWord 17 = .ok (.iconst 1, 1) := z_dd_4 (by decide +kernel)
theorem dX12_isWord_18 : decode cX12_isWord 18 = .ok (.goto 4, 3) := z_dd_167 (by decide +kernel)
theorem dX12_isSign_0 : decode cX12_isSign 0 = .ok (.aload_n 0, 1) := z_dd_42 (by decide +kernel)
theorem dX12_isSign_1 : decode cX12_isSign 1 = .ok (.getfield 281, 3) := z_dd_180 (by decide +kernel)
theorem dX12_isSign_4 : decode cX12_isSign 4 = .ok (.iconst 3, 1) := z_dd_6 (by decide +kernel)
theorem dX12_isSign_5 : decode cX12_isSign 5 = .ok (.if_icmp .ne 15, 3) := z_dd_160 (by decide +kernel)
theorem dX12_isSign_20 : decode cX12_isSign 20 = .ok (.iconst 0, 1) := z_dd_3 (by decide +kernel)
theorem dX12_isSign_21 : decode cX12_isSign 21 = .ok (.ireturn, 1) := z_dd_172 (by decide +kernel)
theorem dX12_isSign_8 : decode cX12_isSign 8 = .ok (.aload_n 0, 1) := z_dd_42 (by decide +kernel)
theorem dX12_isSign_9 : decode cX12_isSign 9 = .ok (.getfield 275, 3) := z_dd_180 (by decide +kernel)
theorem dX12_isSign_12 : decode cX12_isSign 12 = .ok (.iload_n 1, 1) := z_dd_27 (by decide +kernel)
theorem dX12_isSign_13 : decode cX12_isSign 13 = .ok (.if_icmp .ne 7, 3) := z_dd_160 (by decide +kernel)
theorem dX12_isSign_16 : decode cX12_isSign 16 = .ok (.iconst 1, 1) := z_dd_4 (by decide +kernel)
theorem dX12_isSign_17 : decode cX12_isSign 17 = .ok (.goto 4, 3) := z_dd_167 (by decide +kernel)
theorem dX12_must_0 : decode cX12_must 0 = .ok (.aload_n 0, 1) := z_dd_42 (by decide +kernel)
theorem dX12_must_1 : decode cX12_must 1 = .ok (.iload_n 1, 1) := z_dd_27 (by decide +kernel)
set_option maxRecDepth 20000 in
theorem ggX12_must_X12_isSign : GoodIn wsX12_must wsX12_isSign := goodIn_sub (fa_c (me_s (me_l (me_l (List.mem_of_getElem? (i := 4) rfl)))) (fa_a (fa_c (me_s (me_l (me_l (List.mem_of_getElem? (i := 5) rfl)))) (fa_c (me_s (me_l (me_l (List.mem_of_getElem? (i := 6) rfl)))) fa_n)) (fun w h => (me_s (me_r h))))) (by decide +kernel)
set_option maxRecDepth 20000 in
theorem gX12_must_X12_isSign : GoodIn wsX12_must (wsV RX12 298 RX12 yX12_isSign wsX12_isSign) := goodIn_app (goodIn_sub (fa_c (me_s (me_l (me_l (List.mem_of_getElem? (i := 0) rfl)))) (fa_c (me_s (me_l (me_l (List.mem_of_getElem? (i := 1) rfl)))) (fa_c (me_s (me_l (me_l (List.mem_of_getElem? (i := 2) rfl)))) (fa_c (me_s (me_l (me_l (List.mem_of_getElem? (i := 3) rfl)))) fa_n)))) (by decide +kernel)) ggX12_must_X12_isSign
theorem dX12_must_2 : decode cX12_must 2 = .ok (.invokevirtual 298, 3) := z_dd_182 (by decide +kernel)
theorem dX12_must_5 : decode cX12_must 5 = .ok (.ifCond .eq 10, 3) := z_dd_153 (by decide +kernel)
theorem dX12_must_8 : decode cX12_must 8 = .ok (.aload_n 0, 1) := z_dd_42 (by decide +kernel)
set_option maxRecDepth 20000 in
theorem ggX12_must_X12_next : GoodIn wsX12_must wsX12_next := goodIn_sub (fa_c (me_s (me_l (me_l (List.mem_of_getElem? (i := 10) rfl)))) (fa_a (fa_a (fa_c (me_s (me_l (me_l (List.mem_of_getElem? (i := 11) rfl)))) (fa_c (me_s (me_l (me_l (List.mem_of_getElem? (i := 12) rfl)))) (fa_c (me_s (me_l (me_l (List.mem_of_getElem? (i := 13) rfl)))) (fa_c (me_s (me_l (me_l (List.mem_of_getElem? (i := 14) rfl)))) (fa_c (me_s (me_l (me_l (List.mem_of_getElem? (i := 6) rfl)))) (fa_c (me_s (me_l (me_l (List.mem_of_getElem? (i := 15) rfl)))) (fa_c (me_s (me_l (me_l (List.mem_of_getElem? (i := 5) rfl)))) (fa_c (me_s (me_l (me_l (List.mem_of_getElem? (i := 16) rfl)))) (fa_c (me_s (me_l (me_l (List.mem_of_getElem? (i := 17) rfl)))) (fa_c (me_s (me_l (me_l (List.mem_of_getElem? (i := 18) rfl)))) (fa_c (me_s (me_l (me_l (List.mem_of_getElem? (i := 19) rfl)))) (fa_c (me_s (me_l (me_l (List.mem_of_getElem? (i := 20) rfl)))) (fa_c (me_s (me_l (me_l (List.mem_of_getElem? (i := 3) rfl)))) (fa_c (me_s (me_l (me_l (List.mem_of_getElem? (i := 21) rfl)))) (fa_c (me_s (me_l (me_l (List.mem_of_getElem? (i := 22) rfl)))) (fa_c (me_s (me_l (me_l (List.mem_of_getElem? (i := 23) rfl)))) (fa_c (me_s (me_l (me_r (List.mem_of_getElem? (i := 0) rfl)))) (fa_c (me_s (me_l (me_r (List.mem_of_getElem? (i := 1) rfl)))) (fa_c (me_s (me_l (me_r (List.mem_of_getElem? (i := 2) rfl)))) (fa_c (me_s (me_l (me_r (List.mem_of_getElem? (i := 3) rfl)))) (fa_c (me_s (me_l (me_r (List.mem_of_getElem? (i := 4) rfl)))) (fa_c (me_s (me_l (me_r (List.mem_of_getElem? (i := 5) rfl)))) (fa_c (me_s (me_l (me_r (List.mem_of_getElem? (i := 6) rfl)))) (fa_c (me_s (me_l (me_r (List.mem_of_getElem? (i := 7) rfl)))) fa_n)))))))))))))))))))))))) (fa_c (me_s (me_l (me_r (List.mem_of_getElem? (i := 8) rfl)))) fa_n)) (fun w h => (me_s (me_r h))))) (by decide +kernel)
set_option maxRecDepth 20000 in
theorem gX12_must_X12_next : GoodIn wsX12_must (wsV RX12 301 RX12 yX12_next wsX12_next) := goodIn_app (goodIn_sub (fa_c (me_s (me_l (me_l (List.mem_of_getElem? (i := 7) rfl)))) (fa_c (me_s (me_l (me_l (List.mem_of_getElem? (i := 8) rfl)))) (fa_c (me_s (me_l (me_l (List.mem_of_getElem? (i := 9) rfl)))) (fa_c (me_s (me_l (me_l (List.mem_of_getElem? (i := 3) rfl)))) fa_n)))) (by decide +kernel)) ggX12_must_X12_next
theorem dX12_must_9 : decode cX12_must 9 = .ok (.invokevirtual 301, 3) := z_dd_182 (by decide +kernel)
theorem dX12_must_12 : decode cX12_must 12 = .ok (.goto 7, 3) := z_dd_167 (by decide +kernel)
theorem dX12_must_19 : decode cX12_must 19 = .ok (.return_, 1) := z_dd_177 (by decide +kernel)
theorem dX12_must_15 : decode cX12_must 15 = .ok (.aload_n 0, 1) := z_dd_42 (by decide +kernel)
set_option maxRecDepth 20000 in
theorem ggX12_must_X12_errs : GoodIn wsX12_must wsX12_errs := goodIn_sub (fa_c (me_s (me_l (me_r (List.mem_of_getElem? (i := 12) rfl)))) (fa_a (fa_c (me_s (me_l (me_r (List.mem_of_getElem? (i := 13) rfl)))) (fa_c (me_s (me_l (me_l (List.mem_of_getElem? (i := 12) rfl)))) (fa_c (me_s (me_l (me_r (List.mem_of_getElem? (i := 14) rfl)))) fa_n))) (fun w h => (me_s (me_r h))))) (by decide +kernel)
set_option maxRecDepth 20000 in
theorem gX12_must_X12_errs : GoodIn wsX12_must (wsV RX12 304 RX12 yX12_errs wsX12_errs) := goodIn_app (goodIn_sub (fa_c (me_s (me_l (me_r (List.mem_of_getElem? (i := 9) rfl)))) (fa_c (me_s (me_l (me_r (List.mem_of_getElem? (i := 10) rfl)))) (fa_c (me_s (me_l (me_r (List.mem_of_getElem? (i := 11) rfl)))) (fa_c (me_s (me_l (me_l (List.mem_of_getElem? (i := 3) rfl)))) fa_n)))) (by decide +kernel)) ggX12_must_X12_errs
theorem dX12_must_16 : decode cX12_must 16 = .ok (.invokevirtual 304, 3) := z_dd_182 (by decide +kernel)
theorem dX12_opens_0 : decode cX12_opens 0 = .ok (.aload_n 0, 1) := z_dd_42 (by decide +kernel)
theorem dX12_opens_1 : decode cX12_opens 1 = .ok (.getfield 346, 3) := z_dd_180 (by decide +kernel)
theorem dX12_opens_4 : decode cX12_opens 4 = .ok (.bipush 9, 2) := z_dd_16 (by decide +kernel)
theorem dX12_opens_6 : decode cX12_opens 6 = .ok (.if_icmp .ne 7, 3) := z_dd_160 (by decide +kernel)
theorem dX12_opens_13 : decode cX12_opens 13 = .ok (.aload_n 0, 1) := z_dd_42 (by decide +kernel)
theorem dX12_opens_14 : decode cX12_opens 14 = .ok (.dup, 1) := z_dd_89 (by decide +kernel)
theorem dX12_opens_15 : decode cX12_opens 15 = .ok (.getfield 346, 3) := z_dd_180 (by decide +kernel)
theorem dX12_opens_18 : decode cX12_opens 18 = .ok (.iconst 1, 1) := z_dd_4 (by decide +kernel)
theorem dX12_opens_19 : decode cX12_opens 19 = .ok (.iadd, 1) := z_dd_96 (by decide +kernel)
theorem dX12_opens_20 : decode cX12_opens 20 = .ok (.putfield 346, 3) := z_dd_181 (by decide +kernel)
theorem dX12_opens_23 : decode cX12_opens 23 = .ok (.aload_n 0, 1) := z_dd_42 (by decide +kernel)
set_option maxRecDepth 20000 in
theorem ggX12_opens_X12_next : GoodIn wsX12_opens wsX12_next := goodIn_sub (fa_c (me_s (me_l (me_l (List.mem_of_getElem? (i := 12) rfl)))) (fa_a (fa_a (fa_c (me_s (me_l (me_l (List.mem_of_getElem? (i := 13) rfl)))) (fa_c (me_s (me_l (me_l (List.mem_of_getElem? (i := 7) rfl)))) (fa_c (me_s (me_l (me_l (List.mem_of_getElem? (i := 14) rfl)))) (fa_c (me_s (me_l (me_l (List.mem_of_getElem? (i := 15) rfl)))) (fa_c (me_s (me_l (me_l (List.mem_of_getElem? (i := 16) rfl)))) (fa_c (me_s (me_l (me_l (List.mem_of_getElem? (i := 17) rfl)))) (fa_c (me_s (me_l (me_l (List.mem_of_getElem? (i := 18) rfl)))) (fa_c (me_s (me_l (me_l (List.mem_of_getElem? (i := 19) rfl)))) (fa_c (me_s (me_l (me_l (List.mem_of_getElem? (i := 20) rfl)))) (fa_c (me_s (me_l (me_l (List.mem_of_getElem? (i := 21) rfl)))) (fa_c (me_s (me_l (me_l (List.mem_of_getElem? (i := 22) rfl)))) (fa_c (me_s (me_l (me_l (List.mem_of_getElem? (i := 23) rfl)))) (fa_c (me_s (me_l (me_l (List.mem_of_getElem? (i := 4) rfl)))) (fa_c (me_s (me_l (me_r (List.mem_of_getElem? (i := 0) rfl)))) (fa_c (me_s (me_l (me_r (List.mem_of_getElem? (i := 1) rfl)))) (fa_c (me_s (me_l (me_r (List.mem_of_getElem? (i := 2) rfl)))) (fa_c (me_s (me_l (me_r (List.mem_of_getElem? (i := 3) rfl)))) (fa_c (me_s (me_l (me_r (List.mem_of_getElem? (i := 4) rfl)))) (fa_c (me_s (me_l (me_r (List.mem_of_getElem? (i := 5) rfl)))) (fa_c (me_s (me_l (me_r (List.mem_of_getElem? (i := 6) rfl)))) (fa_c (me_s (me_l (me_r (List.mem_of_getElem? (i := 7) rfl)))) (fa_c (me_s (me_l (me_r (List.mem_of_getElem? (i := 8) rfl)))) (fa_c (me_s (me_l (me_r (List.mem_of_getElem? (i := 9) rfl)))) (fa_c (me_s (me_l (me_r (List.mem_of_getElem? (i := 10) rfl)))) fa_n)))))))))))))))))))))))) (fa_c (me_s (me_l (me_r (List.mem_of_getElem? (i := 11) rfl)))) fa_n)) (fun w h => (me_s (me_r h))))) (by decide +kernel)
set_option maxRecDepth 20000 in
theorem gX12_opens_X12_next : GoodIn wsX12_opens (wsV RX12 301 RX12 yX12_next wsX12_next) := goodIn_app (goodIn_sub (fa_c (me_s (me_l (me_l (List.mem_of_getElem? (i := 9) rfl)))) (fa_c (me_s (me_l (me_l (List.mem_of_getElem? (i := 10) rfl)))) (fa_c (me_s (me_l (me_l (List.mem_of_getElem? (i := 11) rfl)))) (fa_c (me_s (me_l (me_l (List.mem_of_getElem? (i := 4) rfl)))) fa_n)))) (by decide +kernel)) ggX12_opens_X12_next
theorem dX12_opens_24 : decode cX12_opens 24 = .ok (.invokevirtual 301, 3) := z_dd_182 (by decide +kernel)
theorem dX12_opens_27 : decode cX12_opens 27 = .ok (.return_, 1) := z_dd_177 (by decide +kernel)
theorem dX12_opens_9 : decode cX12_opens 9 = .ok (.aload_n 0, 1) := z_dd_42 (by decide +kernel)
set_option maxRecDepth 20000 in
theorem ggX12_opens_X12_errs : GoodIn wsX12_opens wsX12_errs := goodIn_sub (fa_c (me_s (me_l (me_l (List.mem_of_getElem? (i := 5) rfl)))) (fa_a (fa_c (me_s (me_l (me_l (List.mem_of_getElem? (i := 6) rfl)))) (fa_c (me_s (me_l (me_l (List.mem_of_getElem? (i := 7) rfl)))) (fa_c (me_s (me_l (me_l (List.mem_of_getElem? (i := 8) rfl)))) fa_n))) (fun w h => (me_s (me_r h))))) (by decide +kernel)
set_option maxRecDepth 20000 in
theorem gX12_opens_X12_errs : GoodIn wsX12_opens (wsV RX12 304 RX12 yX12_errs wsX12_errs) := goodIn_app (goodIn_sub (fa_c (me_s (me_l (me_l (List.mem_of_getElem? (i := 1) rfl)))) (fa_c (me_s (me_l (me_l (List.mem_of_getElem? (i := 2) rfl)))) (fa_c (me_s (me_l (me_l (List.mem_of_getElem? (i := 3) rfl)))) (fa_c (me_s (me_l (me_l (List.mem_of_getElem? (i := 4) rfl)))) fa_n)))) (by decide +kernel)) ggX12_opens_X12_errs
theorem dX12_opens_10 : decode cX12_opens 10 = .ok (.invokevirtual 304, 3) := z_dd_182 (by decide +kernel)
theorem dX12_ruleOf_0 : decode cX12_ruleOf 0 = .ok (.lload_n 1, 1) := z_dd_31 (by decide +kernel)
theorem dX12_ruleOf_1 : decode cX12_ruleOf 1 = .ok (.ldc2_w 307, 3) := z_dd_20 (by decide +kernel)
theorem dX12_ruleOf_4 : decode cX12_ruleOf 4 = .ok (.lcmp, 1) := z_dd_148 (by decide +kernel)
theorem dX12_ruleOf_5 : decode cX12_ruleOf 5 = .ok (.ifCond .ne 5, 3) := z_dd_154 (by decide +kernel)
theorem dX12_ruleOf_10 : decode cX12_ruleOf 10 = .ok (.lload_n 1, 1) := z_dd_31 (by decide +kernel)
theorem dX12_ruleOf_11 : decode cX12_ruleOf 11 = .ok (.ldc2_w 309, 3) := z_dd_20 (by decide +kernel)
theorem dX12_ruleOf_14 : decode cX12_ruleOf 14 = .ok (.lcmp, 1) := z_dd_148 (by decide +kernel)
theorem dX12_ruleOf_15 : decode cX12_ruleOf 15 = .ok (.ifCond .ne 5, 3) := z_dd_154 (by decide +kernel)
theorem dX12_ruleOf_20 : decode cX12_ruleOf 20 = .ok (.lload_n 1, 1) := z_dd_31 (by decide +kernel)
theorem dX12_ruleOf_21 : decode cX12_ruleOf 21 = .ok (.ldc2_w 311, 3) := z_dd_20 (by decide +kernel)
theorem dX12_ruleOf_24 : decode cX12_ruleOf 24 = .ok (.lcmp, 1) := z_dd_148 (by decide +kernel)
theorem dX12_ruleOf_25 : decode cX12_ruleOf 25 = .ok (.ifCond .ne 5, 3) := z_dd_154 (by decide +kernel)
theorem dX12_ruleOf_30 : decode cX12_ruleOf 30 = .ok (.lload_n 1, 1) := z_dd_31 (by decide +kernel)
theorem dX12_ruleOf_31 : decode cX12_ruleOf 31 = .ok (.ldc2_w 313, 3) := z_dd_20 (by decide +kernel)
theorem dX12_ruleOf_34 : decode cX12_ruleOf 34 = .ok (.lcmp, 1) := z_dd_148 (by decide +kernel)
theorem dX12_ruleOf_35 : decode cX12_ruleOf 35 = .ok (.ifCond .ne 5, 3) := z_dd_154 (by decide +kernel)
theorem dX12_ruleOf_40 : decode cX12_ruleOf 40 = .ok (.lload_n 1, 1) := z_dd_31 (by decide +kernel)
theorem dX12_ruleOf_41 : decode cX12_ruleOf 41 = .ok (.ldc2_w 315, 3) := z_dd_20 (by decide +kernel)
theorem dX12_ruleOf_44 : decode cX12_ruleOf 44 = .ok (.lcmp, 1) := z_dd_148 (by decide +kernel)
theorem dX12_ruleOf_45 : decode cX12_ruleOf 45 = .ok (.ifCond .ne 5, 3) := z_dd_154 (by decide +kernel)
theorem dX12_ruleOf_50 : decode cX12_ruleOf 50 = .ok (.lload_n 1, 1) := z_dd_31 (by decide +kernel)
theorem dX12_ruleOf_51 : decode cX12_ruleOf 51 = .ok (.ldc2_w 317, 3) := z_dd_20 (by decide +kernel)
theorem dX12_ruleOf_54 : decode cX12_ruleOf 54 = .ok (.lcmp, 1) := z_dd_148 (by decide +kernel)
theorem dX12_ruleOf_55 : decode cX12_ruleOf 55 = .ok (.ifCond .ne 5, 3) := z_dd_154 (by decide +kernel)
theorem dX12_ruleOf_60 : decode cX12_ruleOf 60 = .ok (.lload_n 1, 1) := z_dd_31 (by decide +kernel)
theorem dX12_ruleOf_61 : decode cX12_ruleOf 61 = .ok (.ldc2_w 319, 3) := z_dd_20 (by decide +kernel)
theorem dX12_ruleOf_64 : decode cX12_ruleOf 64 = .ok (.lcmp, 1) := z_dd_148 (by decide +kernel)
theorem dX12_ruleOf_65 : decode cX12_ruleOf 65 = .ok (.ifCond .ne 6, 3) := z_dd_154 (by decide +kernel)
theorem dX12_ruleOf_71 : decode cX12_ruleOf 71 = .ok (.lload_n 1, 1) := z_dd_31 (by decide +kernel)
theorem dX12_ruleOf_72 : decode cX12_ruleOf 72 = .ok (.ldc2_w 321, 3) := z_dd_20 (by decide +kernel)
theorem dX12_ruleOf_75 : decode cX12_ruleOf 75 = .ok (.lcmp, 1) := z_dd_148 (by decide +kernel)
theorem dX12_ruleOf_76 : decode cX12_ruleOf 76 = .ok (.ifCond .ne 6, 3) := z_dd_154 (by decide +kernel)
theorem dX12_ruleOf_82 : decode cX12_ruleOf 82 = .ok (.iconst (-1), 1) := z_dd_2 (by decide +kernel)
theorem dX12_ruleOf_83 : decode cX12_ruleOf 83 = .ok (.ireturn, 1) := z_dd_172 (by decide +kernel)
theorem dX12_ruleOf_79 : decode cX12_ruleOf 79 = .ok (.bipush 7, 2) := z_dd_16 (by decide +kernel)
theorem dX12_ruleOf_81 : decode cX12_ruleOf 81 = .ok (.ireturn, 1) := z_dd_172 (by decide +kernel)
theorem dX12_ruleOf_68 : decode cX12_ruleOf 68 = .ok (.bipush 6, 2) := z_dd_16 (by decide +kernel)
theorem dX12_ruleOf_70 : decode cX12_ruleOf 70 = .ok (.ireturn, 1) := z_dd_172 (by decide +kernel)
theorem dX12_ruleOf_58 : decode cX12_ruleOf 58 = .ok (.iconst 5, 1) := z_dd_8 (by decide +kernel)
theorem dX12_ruleOf_59 : decode cX12_ruleOf 59 = .ok (.ireturn, 1) := z_dd_172 (by decide +kernel)
theorem dX12_ruleOf_48 : decode cX12_ruleOf 48 = .ok (.iconst 4, 1) := z_dd_7 (by decide +kernel)
theorem dX12_ruleOf_49 : decode cX12_ruleOf 49 = .ok (.ireturn, 1) := z_dd_172 (by decide +kernel)
theorem dX12_ruleOf_38 : decode cX12_ruleOf 38 = .ok (.iconst 3, 1) := z_dd_6 (by decide +kernel)
theorem dX12_ruleOf_39 : decode cX12_ruleOf 39 = .ok (.ireturn, 1) := z_dd_172 (by decide +kernel)
theorem dX12_ruleOf_28 : decode cX12_ruleOf 28 = .ok (.iconst 2, 1) := z_dd_5 (by decide +kernel)
theorem dX12_ruleOf_29 : decode cX12_ruleOf 29 = .ok (.ireturn, 1) := z_dd_172 (by decide +kernel)
theorem dX12_ruleOf_18 : decode cX12_ruleOf 18 = .ok (.iconst 1, 1) := z_dd_4 (by decide +kernel)
theorem dX12_ruleOf_19 : decode cX12_ruleOf 19 = .ok (.ireturn, 1) := z_dd_172 (by decide +kernel)
theorem dX12_ruleOf_8 : decode cX12_ruleOf 8 = .ok (.iconst 0, 1) := z_dd_3 (by decide +kernel)
theorem dX12_ruleOf_9 : decode cX12_ruleOf 9 = .ok (.ireturn, 1) := z_dd_172 (by decide +kernel)
theorem dX12_nameOf_0 : decode cX12_nameOf 0 = .ok (.lload_n 1, 1) := z_dd_31 (by decide +kernel)
theorem dX12_nameOf_1 : decode cX12_nameOf 1 = .ok (.ldc2_w 323, 3) := z_dd_20 (by decide +kernel)
theorem dX12_nameOf_4 : decode cX12_nameOf 4 = .ok (.lcmp, 1) := z_dd_148 (by decide +kernel)
theorem dX12_nameOf_5 : decode cX12_nameOf 5 = .ok (.ifCond .ne 5, 3) := z_dd_154 (by decide +kernel)
theorem dX12_nameOf_10 : decode cX12_nameOf 10 = .ok (.lload_n 1, 1) := z_dd_31 (by decide +kernel)
theorem dX12_nameOf_11 : decode cX12_nameOf 11 = .ok (.ldc2_w 325, 3) := z_dd_20 (by decide +kernel)
theorem dX12_nameOf_14 : decode cX12_nameOf 14 = .ok (.lcmp, 1) := z_dd_148 (by decide +kernel)
theorem dX12_nameOf_15 : decode cX12_nameOf 15 = .ok (.ifCond .ne 5, 3) := z_dd_154 (by decide +kernel)
theorem dX12_nameOf_20 : decode cX12_nameOf 20 = .ok (.lload_n 1, 1) := z_dd_31 (by decide +kernel)
theorem dX12_nameOf_21 : decode cX12_nameOf 21 = .ok (.ldc2_w 327, 3) := z_dd_20 (by decide +kernel)
theorem dX12_nameOf_24 : decode cX12_nameOf 24 = .ok (.lcmp, 1) := z_dd_148 (by decide +kernel)
theorem dX12_nameOf_25 : decode cX12_nameOf 25 = .ok (.ifCond .ne 5, 3) := z_dd_154 (by decide +kernel)
theorem dX12_nameOf_30 : decode cX12_nameOf 30 = .ok (.lload_n 1, 1) := z_dd_31 (by decide +kernel)
theorem dX12_nameOf_31 : decode cX12_nameOf 31 = .ok (.ldc2_w 329, 3) := z_dd_20 (by decide +kernel)
theorem dX12_nameOf_34 : decode cX12_nameOf 34 = .ok (.lcmp, 1) := z_dd_148 (by decide +kernel)
theorem dX12_nameOf_35 : decode cX12_nameOf 35 = .ok (.ifCond .ne 5, 3) := z_dd_154 (by decide +kernel)
theorem dX12_nameOf_40 : decode cX12_nameOf 40 = .ok (.lload_n 1, 1) := z_dd_31 (by decide +kernel)
theorem dX12_nameOf_41 : decode cX12_nameOf 41 = .ok (.ldc2_w 331, 3) := z_dd_20 (by decide +kernel)
theorem dX12_nameOf_44 : decode cX12_nameOf 44 = .ok (.lcmp, 1) := z_dd_148 (by decide +kernel)
theorem dX12_nameOf_45 : decode cX12_nameOf 45 = .ok (.ifCond .ne 5, 3) := z_dd_154 (by decide +kernel)
theorem dX12_nameOf_50 : decode cX12_nameOf 50 = .ok (.lload_n 1, 1) := z_dd_31 (by decide +kernel)
theorem dX12_nameOf_51 : decode cX12_nameOf 51 = .ok (.ldc2_w 333, 3) := z_dd_20 (by decide +kernel)
theorem dX12_nameOf_54 : decode cX12_nameOf 54 = .ok (.lcmp, 1) := z_dd_148 (by decide +kernel)
theorem dX12_nameOf_55 : decode cX12_nameOf 55 = .ok (.ifCond .ne 5, 3) := z_dd_154 (by decide +kernel)
theorem dX12_nameOf_60 : decode cX12_nameOf 60 = .ok (.lload_n 1, 1) := z_dd_31 (by decide +kernel)
theorem dX12_nameOf_61 : decode cX12_nameOf 61 = .ok (.ldc2_w 335, 3) := z_dd_20 (by decide +kernel)
theorem dX12_nameOf_64 : decode cX12_nameOf 64 = .ok (.lcmp, 1) := z_dd_148 (by decide +kernel)
theorem dX12_nameOf_65 : decode cX12_nameOf 65 = .ok (.ifCond .ne 6, 3) := z_dd_154 (by decide +kernel)
theorem dX12_nameOf_71 : decode cX12_nameOf 71 = .ok (.iconst (-1), 1) := z_dd_2 (by decide +kernel)
theorem dX12_nameOf_72 : decode cX12_nameOf 72 = .ok (.ireturn, 1) := z_dd_172 (by decide +kernel)
theorem dX12_nameOf_68 : decode cX12_nameOf 68 = .ok (.bipush 6, 2) := z_dd_16 (by decide +kernel)
theorem dX12_nameOf_70 : decode cX12_nameOf 70 = .ok (.ireturn, 1) := z_dd_172 (by decide +kernel)
theorem dX12_nameOf_58 : decode cX12_nameOf 58 = .ok (.iconst 5, 1) := z_dd_8 (by decide +kernel)
theorem dX12_nameOf_59 : decode cX12_nameOf 59 = .ok (.ireturn, 1) := z_dd_172 (by decide +kernel)
theorem dX12_nameOf_48 : decode cX12_nameOf 48 = .ok (.iconst 4, 1) := z_dd_7 (by decide +kernel)
theorem dX12_nameOf_49 : decode cX12_nameOf 49 = .ok (.ireturn, 1) := z_dd_172 (by decide +kernel)
theorem dX12_nameOf_38 : decode cX12_nameOf 38 = .ok (.iconst 3, 1) := z_dd_6 (by decide +kernel)
theorem dX12_nameOf_39 : decode cX12_nameOf 39 = .ok (.ireturn, 1) := z_dd_172 (by decide +kernel)
theorem dX12_nameOf_28 : decode cX12_nameOf 28 = .ok (.iconst 2, 1) := z_dd_5 (by decide +kernel)
theorem dX12_nameOf_29 : decode cX12_nameOf 29 = .ok (.ireturn, 1) := z_dd_172 (by decide +kernel)
theorem dX12_nameOf_18 : decode cX12_nameOf 18 = .ok (.iconst 1, 1) := z_dd_4 (by decide +kernel)
theorem dX12_nameOf_19 : decode cX12_nameOf 19 = .ok (.ireturn, 1) := z_dd_172 (by decide +kernel)
theorem dX12_nameOf_8 : decode cX12_nameOf 8 = .ok (.iconst 0, 1) := z_dd_3 (by decide +kernel)
theorem dX12_nameOf_9 : decode cX12_nameOf 9 = .ok (.ireturn, 1) := z_dd_172 (by decide +kernel)
theorem dX12_node_0 : decode cX12_node 0 = .ok (.aload_n 0, 1) := z_dd_42 (by decide +kernel)
theorem dX12_node_1 : decode cX12_node 1 = .ok (.getfield 70, 3) := z_dd_180 (by decide +kernel)
theorem dX12_node_4 : decode cX12_node 4 = .ok (.aload_n 0, 1) := z_dd_42 (by decide +kernel)
theorem dX12_node_5 : decode cX12_node 5 = .ok (.getfield 337, 3) := z_dd_180 (by decide +kernel)
theorem dX12_node_8 : decode cX12_node 8 = .ok (.iload_n 1, 1) := z_dd_27 (by decide +kernel)
theorem dX12_node_9 : decode cX12_node 9 = .ok (.iastore, 1) := z_dd_79 (by decide +kernel)
theorem dX12_node_10 : decode cX12_node 10 = .ok (.aload_n 0, 1) := z_dd_42 (by decide +kernel)
theorem dX12_node_11 : decode cX12_node 11 = .ok (.getfield 73, 3) := z_dd_180 (by decide +kernel)
theorem dX12_node_14 : decode cX12_node 14 = .ok (.aload_n 0, 1) := z_dd_42 (by decide +kernel)
theorem dX12_node_15 : decode cX12_node 15 = .ok (.getfield 337, 3) := z_dd_180 (by decide +kernel)
theorem dX12_node_18 : decode cX12_node 18 = .ok (.iload_n 2, 1) := z_dd_28 (by decide +kernel)
theorem dX12_node_19 : decode cX12_node 19 = .ok (.iastore, 1) := z_dd_79 (by decide +kernel)
theorem dX12_node_20 : decode cX12_node 20 = .ok (.aload_n 0, 1) := z_dd_42 (by decide +kernel)
theorem dX12_node_21 : decode cX12_node 21 = .ok (.getfield 76, 3) := z_dd_180 (by decide +kernel)
theorem dX12_node_24 : decode cX12_node 24 = .ok (.aload_n 0, 1) := z_dd_42 (by decide +kernel)
theorem dX12_node_25 : decode cX12_node 25 = .ok (.getfield 337, 3) := z_dd_180 (by decide +kernel)
theorem dX12_node_28 : decode cX12_node 28 = .ok (.iload_n 3, 1) := z_dd_29 (by decide +kernel)
theorem dX12_node_29 : decode cX12_node 29 = .ok (.iastore, 1) := z_dd_79 (by decide +kernel)
theorem dX12_node_30 : decode cX12_node 30 = .ok (.aload_n 0, 1) := z_dd_42 (by decide +kernel)
theorem dX12_node_31 : decode cX12_node 31 = .ok (.dup, 1) := z_dd_89 (by decide +kernel)
theorem dX12_node_32 : decode cX12_node 32 = .ok (.getfield 337, 3) := z_dd_180 (by decide +kernel)
theorem dX12_node_35 : decode cX12_node 35 = .ok (.iconst 1, 1) := z_dd_4 (by decide +kernel)
theorem dX12_node_36 : decode cX12_node 36 = .ok (.iadd, 1) := z_dd_96 (by decide +kernel)
theorem dX12_node_37 : decode cX12_node 37 = .ok (.putfield 337, 3) := z_dd_181 (by decide +kernel)
theorem dX12_node_40 : decode cX12_node 40 = .ok (.aload_n 0, 1) := z_dd_42 (by decide +kernel)
theorem dX12_node_41 : decode cX12_node 41 = .ok (.getfield 337, 3) := z_dd_180 (by decide +kernel)
theorem dX12_node_44 : decode cX12_node 44 = .ok (.iconst 1, 1) := z_dd_4 (by decide +kernel)
theorem dX12_node_45 : decode cX12_node 45 = .ok (.isub, 1) := z_dd_100 (by decide +kernel)
theorem dX12_node_46 : decode cX12_node 46 = .ok (.ireturn, 1) := z_dd_172 (by decide +kernel)
theorem dX12_begin_0 : decode cX12_begin 0 = .ok (.aload_n 0, 1) := z_dd_42 (by decide +kernel)
theorem dX12_begin_1 : decode cX12_begin 1 = .ok (.getfield 91, 3) := z_dd_180 (by decide +kernel)
theorem dX12_begin_4 : decode cX12_begin 4 = .ok (.aload_n 0, 1) := z_dd_42 (by decide +kernel)
theorem dX12_begin_5 : decode cX12_begin 5 = .ok (.getfield 340, 3) := z_dd_180 (by decide +kernel)
theorem dX12_begin_8 : decode cX12_begin 8 = .ok (.iload_n 1, 1) := z_dd_27 (by decide +kernel)
theorem dX12_begin_9 : decode cX12_begin 9 = .ok (.iastore, 1) := z_dd_79 (by decide +kernel)
theorem dX12_begin_10 : decode cX12_begin 10 = .ok (.aload_n 0, 1) := z_dd_42 (by decide +kernel)
theorem dX12_begin_11 : decode cX12_begin 11 = .ok (.getfield 94, 3) := z_dd_180 (by decide +kernel)
theorem dX12_begin_14 : decode cX12_begin 14 = .ok (.aload_n 0, 1) := z_dd_42 (by decide +kernel)
theorem dX12_begin_15 : decode cX12_begin 15 = .ok (.getfield 340, 3) := z_dd_180 (by decide +kernel)
theorem dX12_begin_18 : decode cX12_begin 18 = .ok (.iconst 0, 1) := z_dd_3 (by decide +kernel)
theorem dX12_begin_19 : decode cX12_begin 19 = .ok (.iastore, 1) := z_dd_79 (by decide +kernel)
theorem dX12_begin_20 : decode cX12_begin 20 = .ok (.aload_n 0, 1) := z_dd_42 (by decide +kernel)
theorem dX12_begin_21 : decode cX12_begin 21 = .ok (.getfield 97, 3) := z_dd_180 (by decide +kernel)
theorem dX12_begin_24 : decode cX12_begin 24 = .ok (.aload_n 0, 1) := z_dd_42 (by decide +kernel)
theorem dX12_begin_25 : decode cX12_begin 25 = .ok (.getfield 340, 3) := z_dd_180 (by decide +kernel)
theorem dX12_begin_28 : decode cX12_begin 28 = .ok (.iconst (-1), 1) := z_dd_2 (by decide +kernel)
theorem dX12_begin_29 : decode cX12_begin 29 = .ok (.iastore, 1) := z_dd_79 (by decide +kernel)
theorem dX12_begin_30 : decode cX12_begin 30 = .ok (.aload_n 0, 1) := z_dd_42 (by decide +kernel)
theorem dX12_begin_31 : decode cX12_begin 31 = .ok (.getfield 100, 3) := z_dd_180 (by decide +kernel)
theorem dX12_begin_34 : decode cX12_begin 34 = .ok (.aload_n 0, 1) := z_dd_42 (by decide +kernel)
theorem dX12_begin_35 : decode cX12_begin 35 = .ok (.getfield 340, 3) := z_dd_180 (by decide +kernel)
theorem dX12_begin_38 : decode cX12_begin 38 = .ok (.iconst 0, 1) := z_dd_3 (by decide +kernel)
theorem dX12_begin_39 : decode cX12_begin 39 = .ok (.iastore, 1) := z_dd_79 (by decide +kernel)
theorem dX12_begin_40 : decode cX12_begin 40 = .ok (.aload_n 0, 1) := z_dd_42 (by decide +kernel)
theorem dX12_begin_41 : decode cX12_begin 41 = .ok (.dup, 1) := z_dd_89 (by decide +kernel)
theorem dX12_begin_42 : decode cX12_begin 42 = .ok (.getfield 340, 3) := z_dd_180 (by decide +kernel)
theorem dX12_begin_45 : decode cX12_begin 45 = .ok (.iconst 1, 1) := z_dd_4 (by decide +kernel)
theorem dX12_begin_46 : decode cX12_begin 46 = .ok (.iadd, 1) := z_dd_96 (by decide +kernel)
theorem dX12_begin_47 : decode cX12_begin 47 = .ok (.putfield 340, 3) := z_dd_181 (by decide +kernel)
theorem dX12_begin_50 : decode cX12_begin 50 = .ok (.return_, 1) := z_dd_177 (by decide +kernel)
theorem dX12_ends_0 : decode cX12_ends 0 = .ok (.aload_n 0, 1) := z_dd_42 (by decide +kernel)
theorem dX12_ends_1 : decode cX12_ends 1 = .ok (.iload_n 1, 1) := z_dd_27 (by decide +kernel)
theorem dX12_ends_2 : decode cX12_ends 2 = .ok (.putfield 343, 3) := z_dd_181 (by decide +kernel)
theorem dX12_ends_5 : decode cX12_ends 5 = .ok (.aload_n 0, 1) := z_dd_42 (by decide +kernel)
theorem dX12_ends_6 : decode cX12_ends 6 = .ok (.dup, 1) := z_dd_89 (by decide +kernel)
theorem dX12_ends_7 : decode cX12_ends 7 = .ok (.getfield 340, 3) := z_dd_180 (by decide +kernel)
theorem dX12_ends_10 : decode cX12_ends 10 = .ok (.iconst 1, 1) := z_dd_4 (by decide +kernel)
theorem dX12_ends_11 : decode cX12_ends 11 = .ok (.isub, 1) := z_dd_100 (by decide +kernel)
theorem dX12_ends_12 : decode cX12_ends 12 = .ok (.putfield 340, 3) := z_dd_181 (by decide +kernel)
theorem dX12_ends_15 : decode cX12_ends 15 = .ok (.return_, 1) := z_dd_177 (by decide +kernel)
theorem z_l32 : (32 : Int32).toInt = 32 := by decide
theorem z_l40 : (40 : Int32).toInt = 40 := by decide
theorem z_l41 : (41 : Int32).toInt = 41 := by decide
theorem z_l42 : (42 : Int32).toInt = 42 := by decide
theorem z_l43 : (43 : Int32).toInt = 43 := by decide
theorem z_l44 : (44 : Int32).toInt = 44 := by decide
theorem z_l45 : (45 : Int32).toInt = 45 := by decide
theorem z_l47 : (47 : Int32).toInt = 47 := by decide
theorem z_l48 : (48 : Int32).toInt = 48 := by decide
theorem z_l57 : (57 : Int32).toInt = 57 := by decide
theorem z_l61 : (61 : Int32).toInt = 61 := by decide
theorem z_l62 : (62 : Int32).toInt = 62 := by decide
theorem z_l96 : (96 : Int32).toInt = 96 := by decide
theorem z_l97 : (97 : Int32).toInt = 97 := by decide
theorem z_l122 : (122 : Int32).toInt = 122 := by decide
theorem z_l123 : (123 : Int32).toInt = 123 := by decide
theorem z_l125 : (125 : Int32).toInt = 125 := by decide
theorem z_l10000000 : (10000000 : Int32).toInt = 10000000 := by decide
noncomputable def z_irq (I : z_I) : Prop := 0 ≤ (I 0 34).toInt ∧ (I 0 34).toInt ≤ (I 0 33).toInt ∧ (I 0 33).toInt ≤ 500
noncomputable def z_iru (I : z_I) : Prop := 0 ≤ (I 0 35).toInt ∧ (I 0 35).toInt ≤ (I 0 34).toInt ∧ (I 0 34).toInt ≤ (I 0 33).toInt ∧ (I 0 33).toInt ≤ 500
noncomputable def z_irp (I : z_I) : Prop := 0 ≤ (I 0 35).toInt ∧ (I 0 35).toInt ≤ (I 0 34).toInt ∧ (I 0 34).toInt ≤ (I 0 33).toInt ∧ (I 0 33).toInt ≤ 500 ∧ ((I 0 36).toInt = 0 ∨ (I 0 35).toInt + 1 ≤ (I 0 34).toInt)

/-- what here() says -/
noncomputable def z_hr (I : z_I) : Int32 := if (I 0 33).toInt ≤ (I 0 34).toInt then -1 else I 25 (I 0 34).toNatClampNeg &&& 255
/-! the parser's stack: what its rows hold, how deep it may be, how much it may still make -/
noncomputable def z_fo (w a : Int) : Int := if (w = 2 ∧ a ≠ 0) ∨ (w = 5 ∧ (a = 1 ∨ a = 2)) then 1 else 0
noncomputable def z_rk (w : Int) : Int := if w = 3 then 0 else if w = 4 then 1 else if w = 5 then 2 else if w = 0 then 3 else if w = 1 then 4 else 5
noncomputable def z_fw (w a o : Int) : Int := if w = 0 then (if a = 0 then 5 else if o < 0 then 1 else 1001) else if w = 1 then (if a = 0 then 3 else if o < 0 then 1 else 1001) else if w = 2 then (if a = 0 then 1 else 0) else if w = 3 then (if a = 0 then 10 else if o < 0 then 1 else 1001) else if w = 4 then (if a = 0 then 8 else if o < 0 then 1 else 1001) else (if a = 0 then 6 else if a = 1 ∨ a = 4 then 1001 else 0)
noncomputable def z_fv (w a o s : Int) : Prop := 0 ≤ w ∧ w ≤ 5 ∧ 0 ≤ a ∧ a ≤ 4 ∧ -1 ≤ o ∧ o ≤ 6199 ∧ (a ≠ 0 ∨ o < 0) ∧ (a ≠ 4 ∨ 0 ≤ o) ∧ (a ≠ 3 ∨ w = 5 ∨ 0 ≤ o) ∧ s ≠ 1
noncomputable def z_sop (I : z_I) : Nat → Int
  | 0 => 0
  | n + 1 => z_sop I n + z_fo (I 26 n).toInt (I 27 n).toInt
noncomputable def z_sw (I : z_I) : Nat → Int
  | 0 => 0
  | n + 1 => z_sw I n + z_fw (I 26 n).toInt (I 27 n).toInt (I 28 n).toInt
noncomputable def z_fip (I : z_I) (i : Nat) : Prop := z_fv (I 26 i).toInt (I 27 i).toInt (I 28 i).toInt (I 29 i).toInt ∧ (i : Int) ≤ z_rk (I 26 i).toInt + 3 * z_sop I i
noncomputable def z_PS (I : z_I) (n : Nat) (B : Int) : Prop := (I 0 47).toInt = (n : Int) ∧ (∀ i, i < n → z_fip I i) ∧ z_sop I n = (I 0 39).toInt ∧ (I 0 39).toInt ≤ 9 ∧ 1010 * (500 - (I 0 35).toInt) + 1000 * (I 0 15).toInt + z_sw I n ≤ B ∧ B ≤ 6100000 ∧ (I 0 35).toInt ≤ 500 ∧ 0 ≤ (I 0 15).toInt
theorem z_fo_b (w a : Int) : 0 ≤ z_fo w a ∧ z_fo w a ≤ 1 := by
  unfold z_fo
  split <;> omega
theorem z_fw_b (w a o : Int) : 0 ≤ z_fw w a o := by
  unfold z_fw
  repeat' split
  all_goals omega
theorem z_rk_b (w : Int) : 0 ≤ z_rk w ∧ z_rk w ≤ 5 := by
  unfold z_rk
  repeat' split
  all_goals omega
theorem z_sop_b (I : z_I) : ∀ n, 0 ≤ z_sop I n
  | 0 => Int.le_refl 0
  | n + 1 => by
    have h1 := z_sop_b I n
    have h2 := z_fo_b (I 26 n).toInt (I 27 n).toInt
    show 0 ≤ z_sop I n + z_fo (I 26 n).toInt (I 27 n).toInt
    omega
theorem z_sw_b (I : z_I) : ∀ n, 0 ≤ z_sw I n
  | 0 => Int.le_refl 0
  | n + 1 => by
    have h1 := z_sw_b I n
    have h2 := z_fw_b (I 26 n).toInt (I 27 n).toInt (I 28 n).toInt
    show 0 ≤ z_sw I n + z_fw (I 26 n).toInt (I 27 n).toInt (I 28 n).toInt
    omega
noncomputable def z_eq4 (K I : z_I) (i : Nat) : Prop := K 26 i = I 26 i ∧ K 27 i = I 27 i ∧ K 28 i = I 28 i ∧ K 29 i = I 29 i
theorem z_sop_c {I K : z_I} : ∀ n, (∀ i, i < n → z_eq4 K I i) → z_sop K n = z_sop I n
  | 0, _ => rfl
  | n + 1, h => by
    have h1 := h n (by omega)
    show z_sop K n + z_fo (K 26 n).toInt (K 27 n).toInt = z_sop I n + z_fo (I 26 n).toInt (I 27 n).toInt
    rw [z_sop_c n (fun i hi => h i (by omega)), h1.1, h1.2.1]
theorem z_sw_c {I K : z_I} : ∀ n, (∀ i, i < n → z_eq4 K I i) → z_sw K n = z_sw I n
  | 0, _ => rfl
  | n + 1, h => by
    have h1 := h n (by omega)
    show z_sw K n + z_fw (K 26 n).toInt (K 27 n).toInt (K 28 n).toInt = z_sw I n + z_fw (I 26 n).toInt (I 27 n).toInt (I 28 n).toInt
    rw [z_sw_c n (fun i hi => h i (by omega)), h1.1, h1.2.1, h1.2.2.1]
theorem z_fip_c {I K : z_I} {i : Nat} (h : ∀ j, j < i + 1 → z_eq4 K I j) (hi : z_fip I i) : z_fip K i := by
  have h1 := h i (by omega)
  unfold z_fip
  rw [z_sop_c i (fun j hj => h j (by omega)), h1.1, h1.2.1, h1.2.2.1, h1.2.2.2]
  exact hi
theorem z_top {I : z_I} {d : Nat} {B : Int} (h : z_PS I (d + 1) B) : (I 0 47).toInt = (d : Int) + 1 ∧ (d : Int) ≤ 33 ∧ (d : Int) ≤ z_rk (I 26 d).toInt + 3 * z_sop I d ∧ z_sop I d + z_fo (I 26 d).toInt (I 27 d).toInt = (I 0 39).toInt ∧ 0 ≤ z_sop I d ∧ (I 0 39).toInt ≤ 9 ∧ 0 ≤ z_sw I d ∧ 1010 * (500 - (I 0 35).toInt) + 1000 * (I 0 15).toInt + (z_sw I d + z_fw (I 26 d).toInt (I 27 d).toInt (I 28 d).toInt) ≤ B ∧ B ≤ 6100000 ∧ (I 0 35).toInt ≤ 500 ∧ 0 ≤ (I 0 15).toInt ∧ z_fv (I 26 d).toInt (I 27 d).toInt (I 28 d).toInt (I 29 d).toInt := by
  obtain ⟨h1, h2, h3, h4, h5, h6, h7, h8⟩ := h
  have hd := h2 d (by omega)
  have b1 := z_sop_b I d
  have b2 := z_sw_b I d
  have b3 := z_rk_b (I 26 d).toInt
  have b4 := z_fo_b (I 26 d).toInt (I 27 d).toInt
  have h3 : z_sop I d + z_fo (I 26 d).toInt (I 27 d).toInt = (I 0 39).toInt := h3
  have h5 : 1010 * (500 - (I 0 35).toInt) + 1000 * (I 0 15).toInt + (z_sw I d + z_fw (I 26 d).toInt (I 27 d).toInt (I 28 d).toInt) ≤ B := h5
  exact ⟨by omega, by have := hd.2; omega, hd.2, h3, b1, h4, b2, h5, h6, h7, h8, hd.1⟩
theorem z_psn {I : z_I} {n : Nat} {B : Int} (h : z_PS I n B) : (I 0 47).toInt = (n : Int) ∧ (n : Int) ≤ 34 ∧ (I 0 39).toInt ≤ 9 ∧ 0 ≤ (I 0 39).toInt ∧ 1010 * (500 - (I 0 35).toInt) + 1000 * (I 0 15).toInt ≤ B ∧ 0 ≤ B ∧ B ≤ 6100000 := by
  have b1 := z_sop_b I n
  have b2 := z_sw_b I n
  obtain ⟨h1, h2, h3, h4, h5, h6, h7, h8⟩ := h
  have hn : (n : Int) ≤ 34 := by
    cases n with
    | zero => omega
    | succ d =>
      have := (z_top ⟨h1, h2, h3, h4, h5, h6, h7, h8⟩).2.1
      omega
  exact ⟨h1, hn, h4, by omega, by omega, by omega, h6⟩
theorem z_pst {I : z_I} {n : Nat} {B : Int} {x : Int32} (h : z_PS I n B) (hx : x.toInt = (I 0 47).toInt - 1) (hd : 0 < (I 0 47).toInt) : z_PS I (x.toNatClampNeg + 1) B := by
  have h1 := h.1
  have h2 := z_clt hx (by omega)
  have h3 : x.toNatClampNeg + 1 = n := by omega
  rw [h3]
  exact h
/-- what begin does -/
noncomputable def z_BG (J K : z_I) (w : Int32) : Prop := (∀ i, i ≠ (J 0 47).toNatClampNeg → z_eq4 K J i) ∧ K 26 (J 0 47).toNatClampNeg = w ∧ (K 27 (J 0 47).toNatClampNeg).toInt = 0 ∧ (K 28 (J 0 47).toNatClampNeg).toInt = -1 ∧ (K 29 (J 0 47).toNatClampNeg).toInt = 0 ∧ (K 0 47).toInt = (J 0 47).toInt + 1
theorem z_fo_0 (w : Int) : z_fo w 0 = 0 := by
  unfold z_fo
  rw [if_neg (by omega)]
theorem z_PUSH {I J K : z_I} {d : Nat} {B B1 : Int} {w2 : Int32} {wi w a o s : Int} (h : z_PS I (d + 1) B) (hb : ∀ i, i < d → z_eq4 J I i) (hW : (J 26 d).toInt = w) (hA : (J 27 d).toInt = a) (hO : (J 28 d).toInt = o) (hS : (J 29 d).toInt = s) (hv : z_fv w a o s) (hwI : (I 26 d).toInt = w)
    (hd : (J 0 47).toInt = (d : Int) + 1) (hg : z_BG J K w2) (hw2 : w2.toInt = wi) (hw3 : 0 ≤ wi ∧ wi ≤ 5) (hr : z_rk w + 1 ≤ z_rk wi + 3 * z_fo w a) (ho : (K 0 39).toInt = z_sop I d + z_fo w a) (ho9 : (K 0 39).toInt ≤ 9)
    (hB : 1010 * (500 - (K 0 35).toInt) + 1000 * (K 0 15).toInt + (z_sw I d + z_fw w a o + z_fw wi 0 (-1)) ≤ B1) (hB1 : B1 ≤ 6100000) (hf : (K 0 35).toInt ≤ 500) (hn : 0 ≤ (K 0 15).toInt) : z_PS K (d + 2) B1 := by
  obtain ⟨g1, g2, g3, g4, g5, g6⟩ := hg
  have hk : (J 0 47).toNatClampNeg = d + 1 := by have := z_clt (x := J 0 47) hd (by omega); omega
  rw [hk] at g1 g2 g3 g4 g5
  have hbK : ∀ i, i < d → z_eq4 K I i := fun i hi => by
    have q1 := g1 i (by omega)
    have q2 := hb i hi
    exact ⟨q1.1.trans q2.1, q1.2.1.trans q2.2.1, q1.2.2.1.trans q2.2.2.1, q1.2.2.2.trans q2.2.2.2⟩
  have qd := g1 d (by omega)
  have eW : (K 26 d).toInt = w := by rw [qd.1]; exact hW
  have eA : (K 27 d).toInt = a := by rw [qd.2.1]; exact hA
  have eO : (K 28 d).toInt = o := by rw [qd.2.2.1]; exact hO
  have eS : (K 29 d).toInt = s := by rw [qd.2.2.2]; exact hS
  have eW2 : (K 26 (d + 1)).toInt = wi := by rw [g2]; exact hw2
  have s1 : z_sop K (d + 1) = z_sop I d + z_fo w a := by
    show z_sop K d + z_fo (K 26 d).toInt (K 27 d).toInt = _
    rw [z_sop_c d hbK, eW, eA]
  have s2 : z_sop K (d + 2) = z_sop I d + z_fo w a := by
    show z_sop K (d + 1) + z_fo (K 26 (d + 1)).toInt (K 27 (d + 1)).toInt = _
    rw [s1, eW2, g3, z_fo_0]
    omega
  have w1 : z_sw K (d + 2) = z_sw I d + z_fw w a o + z_fw wi 0 (-1) := by
    show z_sw K d + z_fw (K 26 d).toInt (K 27 d).toInt (K 28 d).toInt + z_fw (K 26 (d + 1)).toInt (K 27 (d + 1)).toInt (K 28 (d + 1)).toInt = _
    rw [z_sw_c d hbK, eW, eA, eO, eW2, g3, g4]
  have ht := z_top h
  rw [hwI] at ht
  refine ⟨by omega, fun i hi => ?_, by rw [s2]; exact ho.symm, ho9, by omega, hB1, hf, hn⟩
  by_cases q1 : i < d
  · exact z_fip_c (fun j hj => hbK j (by omega)) (h.2.1 i (by omega))
  · by_cases q2 : i = d
    · subst q2
      unfold z_fip
      rw [eW, eA, eO, eS, z_sop_c i hbK]
      exact ⟨hv, by omega⟩
    · have q3 : i = d + 1 := by omega
      subst q3
      unfold z_fip z_fv
      rw [eW2, g3, g4, g5, s1]
      have b := z_rk_b wi
      have b2 := z_fo_b w a
      refine ⟨⟨by omega, by omega, by omega, by omega, by omega, by omega, by omega, by omega, by omega, by omega⟩, by omega⟩
theorem z_POP {I K : z_I} {d : Nat} {B B1 : Int} (h : z_PS I (d + 1) B) (hb : ∀ i, i < d → z_eq4 K I i) (hd : (K 0 47).toInt = (d : Int)) (ho : (K 0 39).toInt = z_sop I d) (hB : 1010 * (500 - (K 0 35).toInt) + 1000 * (K 0 15).toInt + z_sw I d ≤ B1) (hB1 : B1 ≤ 6100000) (hf : (K 0 35).toInt ≤ 500) (hn : 0 ≤ (K 0 15).toInt) : z_PS K d B1 := by
  have ht := z_top h
  have hfo := z_fo_b (I 26 d).toInt (I 27 d).toInt
  refine ⟨hd, fun i hi => z_fip_c (fun j hj => hb j (by omega)) (h.2.1 i (by omega)), by rw [z_sop_c d hb]; exact ho.symm, by omega, by rw [z_sw_c d hb]; exact hB, hB1, hf, hn⟩
theorem z_START {J K : z_I} {w2 : Int32} {wi : Int} {B : Int} (hg : z_BG J K w2) (hw2 : w2.toInt = wi) (hw3 : 0 ≤ wi ∧ wi ≤ 5) (hd : (J 0 47).toInt = 0) (ho : (K 0 39).toInt = 0) (hB : 1010 * (500 - (K 0 35).toInt) + 1000 * (K 0 15).toInt + 10 ≤ B) (hB1 : B ≤ 6100000) (hf : (K 0 35).toInt ≤ 500) (hn : 0 ≤ (K 0 15).toInt) : z_PS K 1 B := by
  obtain ⟨g1, g2, g3, g4, g5, g6⟩ := hg
  have hk : (J 0 47).toNatClampNeg = 0 := by have := z_clt (x := J 0 47) hd (by omega); omega
  rw [hk] at g2 g3 g4 g5
  have eW : (K 26 0).toInt = wi := by rw [g2]; exact hw2
  have s1 : z_sop K 1 = 0 := by
    show 0 + z_fo (K 26 0).toInt (K 27 0).toInt = 0
    rw [g3, z_fo_0]
    rfl
  have b2 : z_fw wi 0 (-1) ≤ 10 := by
    unfold z_fw
    repeat' split
    all_goals omega
  have w1 : z_sw K 1 = z_fw wi 0 (-1) := by
    show 0 + z_fw (K 26 0).toInt (K 27 0).toInt (K 28 0).toInt = _
    rw [eW, g3, g4]
    omega
  refine ⟨by rw [g6, hd]; rfl, fun i hi => ?_, by rw [s1]; exact ho.symm, by omega, by omega, hB1, hf, hn⟩
  have q : i = 0 := by omega
  subst q
  have b := z_rk_b wi
  unfold z_fip z_fv
  rw [eW, g3, g4, g5]
  refine ⟨⟨by omega, by omega, by omega, by omega, by omega, by omega, by omega, by omega, by omega, by omega⟩, ?_⟩
  show (0 : Int) ≤ z_rk wi + 3 * 0
  omega
theorem z_Nd_w {I K1 K2 K3 : z_I} {n : Nat} {k a b : Int32} (h : z_Nd I) (e1 : K1 = z_up I 21 n k) (e2 : K2 = z_up K1 22 n a) (e3 : K3 = z_up K2 23 n b) (h1 : k.toInt ≤ 1 ∨ (0 ≤ a.toInt ∧ a.toInt ≤ 6199)) (h2 : ¬ k.toInt = 1 ∨ (0 ≤ a.toInt ∧ a.toInt ≤ 6)) (h3 : k.toInt ≤ 1 ∨ k.toInt = 11 ∨ (0 ≤ b.toInt ∧ b.toInt ≤ 6199)) : z_Nd K3 := fun i => by
  by_cases q : i = n
  · subst q
    have eK : K3 21 i = k := by rw [e3, z_up_n (by decide), e2, z_up_n (by decide), e1, z_up_s]
    have eA : K3 22 i = a := by rw [e3, z_up_n (by decide), e2, z_up_s]
    have eB : K3 23 i = b := by rw [e3, z_up_s]
    rw [eK, eA, eB]
    exact ⟨h1, h2, h3⟩
  · have eK : K3 21 i = I 21 i := by rw [e3, z_up_n (by decide), e2, z_up_n (by decide), e1, z_up_k q]
    have eA : K3 22 i = I 22 i := by rw [e3, z_up_n (by decide), e2, z_up_k q, e1, z_up_n (by decide)]
    have eB : K3 23 i = I 23 i := by rw [e3, z_up_k q, e2, z_up_n (by decide), e1, z_up_n (by decide)]
    rw [eK, eA, eB]
    exact h i
theorem z_fw_00 {a o : Int} (h1 : a = 0) : z_fw 0 a o = 5 := by
  unfold z_fw
  repeat' split
  all_goals omega
theorem z_fw_0nm {a o : Int} (h1 : a ≠ 0) (h2 : o < 0) : z_fw 0 a o = 1 := by
  unfold z_fw
  repeat' split
  all_goals omega
theorem z_fw_0np {a o : Int} (h1 : a ≠ 0) (h2 : 0 ≤ o) : z_fw 0 a o = 1001 := by
  unfold z_fw
  repeat' split
  all_goals omega
theorem z_rk_0 : z_rk 0 = 3 := by decide
theorem z_fo_0n {a : Int} : z_fo 0 a = 0 := by
  unfold z_fo
  rw [if_neg (by omega)]
theorem z_fwc_0 (a o : Int) : (a = 0 ∧ z_fw 0 a o = 5) ∨ (a ≠ 0 ∧ o < 0 ∧ z_fw 0 a o = 1) ∨ (a ≠ 0 ∧ 0 ≤ o ∧ z_fw 0 a o = 1001) := by
  unfold z_fw
  repeat' split
  all_goals omega
theorem z_foc_0 (a : Int) : z_fo 0 a = 0 := z_fo_0n
theorem z_fw_10 {a o : Int} (h1 : a = 0) : z_fw 1 a o = 3 := by
  unfold z_fw
  repeat' split
  all_goals omega
theorem z_fw_1nm {a o : Int} (h1 : a ≠ 0) (h2 : o < 0) : z_fw 1 a o = 1 := by
  unfold z_fw
  repeat' split
  all_goals omega
theorem z_fw_1np {a o : Int} (h1 : a ≠ 0) (h2 : 0 ≤ o) : z_fw 1 a o = 1001 := by
  unfold z_fw
  repeat' split
  all_goals omega
theorem z_rk_1 : z_rk 1 = 4 := by decide
theorem z_fo_1n {a : Int} : z_fo 1 a = 0 := by
  unfold z_fo
  rw [if_neg (by omega)]
theorem z_fwc_1 (a o : Int) : (a = 0 ∧ z_fw 1 a o = 3) ∨ (a ≠ 0 ∧ o < 0 ∧ z_fw 1 a o = 1) ∨ (a ≠ 0 ∧ 0 ≤ o ∧ z_fw 1 a o = 1001) := by
  unfold z_fw
  repeat' split
  all_goals omega
theorem z_foc_1 (a : Int) : z_fo 1 a = 0 := z_fo_1n
theorem z_fw_20 {a o : Int} (h1 : a = 0) : z_fw 2 a o = 1 := by
  unfold z_fw
  repeat' split
  all_goals omega
theorem z_fw_2n {a o : Int} (h1 : a ≠ 0) : z_fw 2 a o = 0 := by
  unfold z_fw
  repeat' split
  all_goals omega
theorem z_rk_2 : z_rk 2 = 5 := by decide
theorem z_fo_2y {a : Int} (h : a ≠ 0) : z_fo 2 a = 1 := by
  unfold z_fo
  rw [if_pos (by omega)]
theorem z_fo_2n {a : Int} (h : a = 0) : z_fo 2 a = 0 := by
  unfold z_fo
  rw [if_neg (by omega)]
theorem z_fwc_2 (a o : Int) : (a = 0 ∧ z_fw 2 a o = 1) ∨ (a ≠ 0 ∧ z_fw 2 a o = 0) := by
  unfold z_fw
  repeat' split
  all_goals omega
theorem z_foc_2 (a : Int) : (a = 0 ∧ z_fo 2 a = 0) ∨ (a ≠ 0 ∧ z_fo 2 a = 1) := by
  unfold z_fo
  split <;> omega
theorem z_fw_30 {a o : Int} (h1 : a = 0) : z_fw 3 a o = 10 := by
  unfold z_fw
  repeat' split
  all_goals omega
theorem z_fw_3nm {a o : Int} (h1 : a ≠ 0) (h2 : o < 0) : z_fw 3 a o = 1 := by
  unfold z_fw
  repeat' split
  all_goals omega
theorem z_fw_3np {a o : Int} (h1 : a ≠ 0) (h2 : 0 ≤ o) : z_fw 3 a o = 1001 := by
  unfold z_fw
  repeat' split
  all_goals omega
theorem z_rk_3 : z_rk 3 = 0 := by decide
theorem z_fo_3n {a : Int} : z_fo 3 a = 0 := by
  unfold z_fo
  rw [if_neg (by omega)]
theorem z_fwc_3 (a o : Int) : (a = 0 ∧ z_fw 3 a o = 10) ∨ (a ≠ 0 ∧ o < 0 ∧ z_fw 3 a o = 1) ∨ (a ≠ 0 ∧ 0 ≤ o ∧ z_fw 3 a o = 1001) := by
  unfold z_fw
  repeat' split
  all_goals omega
theorem z_foc_3 (a : Int) : z_fo 3 a = 0 := z_fo_3n
theorem z_fw_40 {a o : Int} (h1 : a = 0) : z_fw 4 a o = 8 := by
  unfold z_fw
  repeat' split
  all_goals omega
theorem z_fw_4nm {a o : Int} (h1 : a ≠ 0) (h2 : o < 0) : z_fw 4 a o = 1 := by
  unfold z_fw
  repeat' split
  all_goals omega
theorem z_fw_4np {a o : Int} (h1 : a ≠ 0) (h2 : 0 ≤ o) : z_fw 4 a o = 1001 := by
  unfold z_fw
  repeat' split
  all_goals omega
theorem z_rk_4 : z_rk 4 = 1 := by decide
theorem z_fo_4n {a : Int} : z_fo 4 a = 0 := by
  unfold z_fo
  rw [if_neg (by omega)]
theorem z_fwc_4 (a o : Int) : (a = 0 ∧ z_fw 4 a o = 8) ∨ (a ≠ 0 ∧ o < 0 ∧ z_fw 4 a o = 1) ∨ (a ≠ 0 ∧ 0 ≤ o ∧ z_fw 4 a o = 1001) := by
  unfold z_fw
  repeat' split
  all_goals omega
theorem z_foc_4 (a : Int) : z_fo 4 a = 0 := z_fo_4n
theorem z_fw_50 {a o : Int} (h1 : a = 0) : z_fw 5 a o = 6 := by
  unfold z_fw
  repeat' split
  all_goals omega
theorem z_fw_514 {a o : Int} (h1 : a = 1 ∨ a = 4) : z_fw 5 a o = 1001 := by
  unfold z_fw
  repeat' split
  all_goals omega
theorem z_fw_523 {a o : Int} (h1 : a = 2 ∨ a = 3) : z_fw 5 a o = 0 := by
  unfold z_fw
  repeat' split
  all_goals omega
theorem z_rk_5 : z_rk 5 = 2 := by decide
theorem z_fo_5y {a : Int} (h : a = 1 ∨ a = 2) : z_fo 5 a = 1 := by
  unfold z_fo
  rw [if_pos (by omega)]
theorem z_fo_5n {a : Int} (h : a = 0 ∨ a = 3 ∨ a = 4) : z_fo 5 a = 0 := by
  unfold z_fo
  rw [if_neg (by omega)]
theorem z_fwc_5 (a o : Int) : (a = 0 ∧ z_fw 5 a o = 6) ∨ ((a = 1 ∨ a = 4) ∧ z_fw 5 a o = 1001) ∨ (a ≠ 0 ∧ a ≠ 1 ∧ a ≠ 4 ∧ z_fw 5 a o = 0) := by
  unfold z_fw
  repeat' split
  all_goals omega
theorem z_foc_5 (a : Int) : ((a = 1 ∨ a = 2) ∧ z_fo 5 a = 1) ∨ (a ≠ 1 ∧ a ≠ 2 ∧ z_fo 5 a = 0) := by
  unfold z_fo
  split <;> omega
theorem zj_X12_here_X12 : ∀ w ∈ wsX120, w ∈ wsX12_here := fun w h => (List.mem_cons_of_mem _ (List.mem_append_right _ h))
set_option maxHeartbeats 8000000 in
set_option maxRecDepth 100000 in
theorem sx_X12_here (l : Launch) (G : z_G) (ad : Nat → Nat) (I : z_I) (J : z_J) (hmp : z_imp I) (hrq : z_irq I) : z_M l yX12_here wsX12_here { frames := 1, cells := 0, slots := 0, locals := 12 } [.ref (ad 0)] G (shM, ad, I, J, PM ad) (fun r u1 => u1 = (shM, ad, I, J, PM ad) ∧ (r = z_hr I ∧ (r.toInt = -1 ∨ (I 0 34).toInt + 1 ≤ (I 0 33).toInt))) 0 0 := by
  intro sz
  refine z_headQ (cc := cX12_here) (maxL := 1) (ret := (some .int)) (by decide) rfl (Nat.le_of_ble_eq_true rfl) ?_
  intro p e s m below meth c0 ls hIn hK hsz hW hl
  obtain ⟨hx, hb, hr, hml, hown, hts, hlocks, hname⟩ := hIn
  subst hsz
  have hown : s.vm.findClass RX12 = some m.cls := hown
  have hA : ∀ q : Nat, s.heap.size ≤ q → z_A (shM, ad, I, J, PM ad) s.heap.size q := fun q h => Or.inr h
  generalize hAe : z_A (shM, ad, I, J, PM ad) s.heap.size = A at *
  have hS : va_S A s.heap s.heap [] := va_S.rf
  have hl : lv_has ls 1 [(0, .ref (ad 0))] := hl
  have krq : 0 ≤ (I 0 34).toInt ∧ (I 0 34).toInt ≤ (I 0 33).toInt ∧ (I 0 33).toInt ≤ 500 := hrq
  refine lv_aload_n hx hb dX12_here_0 rfl (lv_at hl 0 rfl) ?_
  have r1 : 0 ≤ (I 0 34).toInt ∧ (I 0 34).toInt ≤ 500 := hmp.2.2.1
  refine z_get (T := TX12) (N := 96) (ci := 12) (i := 0) (v := .int (I 0 34)) hx hb hts zj_X12_here_X12 hown hK hW rfl rfl 34 (by decide) (hts (.fieldLink RX12 256 "PetrolBoardModel" "point" "I") (me_s (me_l (List.mem_of_getElem? (i := 0) rfl)))) (fun _ h => h) rfl dX12_here_1 ?_
  refine lv_aload_n hx hb dX12_here_4 rfl (lv_at hl 0 rfl) ?_
  have r2 : 0 ≤ (I 0 33).toInt ∧ (I 0 33).toInt ≤ 500 := hmp.2.1
  refine z_get (T := TX12) (N := 96) (ci := 12) (i := 0) (v := .int (I 0 33)) hx hb hts zj_X12_here_X12 hown hK hW rfl rfl 33 (by decide) (hts (.fieldLink RX12 259 "PetrolBoardModel" "limit" "I") (me_s (me_l (List.mem_of_getElem? (i := 1) rfl)))) (fun _ h => h) rfl dX12_here_5 ?_
  refine lv_icmp_ge (tgt := 27) hx hb dX12_here_8 (by decide) (fun c3 => ?_) (fun c3 => ?_)
  · have g4 := z_f_ge rfl rfl c3
    refine lv_iconst (v := (-1)) hx hb dX12_here_27 (by decide) ?_
    exact z_iret hx hb hr hK hS (Nat.le_of_ble_eq_true rfl) (Nat.le_of_ble_eq_true rfl) hlocks dX12_here_28 (shM, ad, I, J, PM ad) hW ⟨rfl, ⟨(by unfold z_hr; rw [if_pos (by omega)]), Or.inl (by decide)⟩⟩
  · have g5 := z_f_nge rfl rfl c3
    refine lv_aload_n hx hb dX12_here_11 rfl (lv_at hl 0 rfl) ?_
    refine z_get (T := TX12) (N := 96) (ci := 12) (i := 0) (v := .ref (ad 25)) hx hb hts zj_X12_here_X12 hown hK hW rfl rfl 30 (by decide) (hts (.fieldLink RX12 83 "PetrolBoardModel" "tape" "[B") (me_s (me_l (List.mem_of_getElem? (i := 2) rfl)))) (fun _ h => h) rfl dX12_here_12 ?_
    refine lv_aload_n hx hb dX12_here_15 rfl (lv_at hl 0 rfl) ?_
    refine z_get (T := TX12) (N := 96) (ci := 12) (i := 0) (v := .int (I 0 34)) hx hb hts zj_X12_here_X12 hown hK hW rfl rfl 34 (by decide) (hts (.fieldLink RX12 256 "PetrolBoardModel" "point" "I") (me_s (me_l (List.mem_of_getElem? (i := 0) rfl)))) (fun _ h => h) rfl dX12_here_16 ?_
    refine z_bald (i := 25) hx hb hK hW rfl (z_ix rfl (by omega) (by omega)) dX12_here_19 ?_
    refine lv_topi (fun x6 ex6 => ?_)
    refine lv_sipush (v := 255) hx hb dX12_here_20 (by decide) ?_
    refine lv_iand hx hb dX12_here_23 ?_
    refine lv_topi (fun x7 ex7 => ?_)
    refine lv_goto (tgt := 28) hx hb dX12_here_24 (by decide) ?_
    exact z_iret hx hb hr hK hS (Nat.le_of_ble_eq_true rfl) (Nat.le_of_ble_eq_true rfl) hlocks dX12_here_28 (shM, ad, I, J, PM ad) hW ⟨rfl, ⟨(by unfold z_hr; rw [if_neg (by omega), ex7, ex6]), Or.inr (by omega)⟩⟩
set_option maxHeartbeats 8000000 in
set_option maxRecDepth 100000 in
theorem sx_X12_within2 (l : Launch) (G : z_G) (ad : Nat → Nat) (I : z_I) (J : z_J) (a1 : Int32) (a2 : Int32) (a3 : Int32) : z_M l yX12_within wsX12_within { frames := 1, cells := 0, slots := 0, locals := 12 } [.int a1, .int a2, .int a3] G (shM, ad, I, J, PM ad) (fun r u1 => u1 = (shM, ad, I, J, PM ad) ∧ ((r = 1 ∧ a2.toInt ≤ a1.toInt ∧ a1.toInt ≤ a3.toInt) ∨ (r = 0 ∧ (a1.toInt < a2.toInt ∨ a3.toInt < a1.toInt)))) 0 0 := by
  intro sz
  refine z_headQ (cc := cX12_within) (maxL := 3) (ret := (some .boolean)) (by decide) rfl (Nat.le_of_ble_eq_true rfl) ?_
  intro p e s m below meth c0 ls hIn hK hsz hW hl
  obtain ⟨hx, hb, hr, hml, hown, hts, hlocks, hname⟩ := hIn
  subst hsz
  have hown : s.vm.findClass RX12 = some m.cls := hown
  have hA : ∀ q : Nat, s.heap.size ≤ q → z_A (shM, ad, I, J, PM ad) s.heap.size q := fun q h => Or.inr h
  generalize hAe : z_A (shM, ad, I, J, PM ad) s.heap.size = A at *
  have hS : va_S A s.heap s.heap [] := va_S.rf
  have hl : lv_has ls 3 [(0, .int a1), (1, .int a2), (2, .int a3)] := hl
  refine lv_iload_n hx hb dX12_within_0 rfl (lv_at hl 0 rfl) ?_
  refine lv_iload_n hx hb dX12_within_1 rfl (lv_at hl 1 rfl) ?_
  refine lv_icmp_lt (tgt := 14) hx hb dX12_within_2 (by decide) (fun c1 => ?_) (fun c1 => ?_)
  · have g2 := z_f_lt rfl rfl c1
    have b3 := Int32.toInt_lt a1
    have b4 := Int32.toInt_lt a2
    refine lv_iconst (v := 0) hx hb dX12_within_14 (by decide) ?_
    exact z_zret hx hb hr (by decide) hK hS (Nat.le_of_ble_eq_true rfl) (Nat.le_of_ble_eq_true rfl) hlocks dX12_within_15 (shM, ad, I, J, PM ad) hW ⟨rfl, Or.inr ⟨rfl, by omega⟩⟩
  · have g5 := z_f_nlt rfl rfl c1
    have b6 := Int32.toInt_lt a1
    have b7 := Int32.toInt_lt a2
    refine lv_iload_n hx hb dX12_within_5 rfl (lv_at hl 0 rfl) ?_
    refine lv_iload_n hx hb dX12_within_6 rfl (lv_at hl 2 rfl) ?_
    refine lv_icmp_gt (tgt := 14) hx hb dX12_within_7 (by decide) (fun c8 => ?_) (fun c8 => ?_)
    · have g9 := z_f_gt rfl rfl c8
      have b10 := Int32.toInt_lt a3
      refine lv_iconst (v := 0) hx hb dX12_within_14 (by decide) ?_
      exact z_zret hx hb hr (by decide) hK hS (Nat.le_of_ble_eq_true rfl) (Nat.le_of_ble_eq_true rfl) hlocks dX12_within_15 (shM, ad, I, J, PM ad) hW ⟨rfl, Or.inr ⟨rfl, by omega⟩⟩
    · have g11 := z_f_ngt rfl rfl c8
      have b12 := Int32.toInt_lt a3
      refine lv_iconst (v := 1) hx hb dX12_within_10 (by decide) ?_
      refine lv_goto (tgt := 15) hx hb dX12_within_11 (by decide) ?_
      exact z_zret hx hb hr (by decide) hK hS (Nat.le_of_ble_eq_true rfl) (Nat.le_of_ble_eq_true rfl) hlocks dX12_within_15 (shM, ad, I, J, PM ad) hW ⟨rfl, Or.inl ⟨rfl, by omega, by omega⟩⟩
theorem zj_X12_next_X12 : ∀ w ∈ wsX120, w ∈ wsX12_next := fun w h => (List.mem_cons_of_mem _ (List.mem_append_right _ h))
theorem zj_X12_errs_X12 : ∀ w ∈ wsX120, w ∈ wsX12_errs := fun w h => (List.mem_cons_of_mem _ (List.mem_append_right _ h))
theorem zj_X12_isWord_X12 : ∀ w ∈ wsX120, w ∈ wsX12_isWord := fun w h => (List.mem_cons_of_mem _ (List.mem_append_right _ h))
theorem zj_X12_isSign_X12 : ∀ w ∈ wsX120, w ∈ wsX12_isSign := fun w h => (List.mem_cons_of_mem _ (List.mem_append_right _ h))
theorem zj_X12_opens_X12 : ∀ w ∈ wsX120, w ∈ wsX12_opens := fun w h => (List.mem_cons_of_mem _ (List.mem_append_right _ h))
theorem zj_X12_node_X12 : ∀ w ∈ wsX120, w ∈ wsX12_node := fun w h => (List.mem_cons_of_mem _ (List.mem_append_right _ h))
theorem zj_X12_begin_X12 : ∀ w ∈ wsX120, w ∈ wsX12_begin := fun w h => (List.mem_cons_of_mem _ (List.mem_append_right _ h))
theorem zj_X12_ends_X12 : ∀ w ∈ wsX120, w ∈ wsX12_ends := fun w h => (List.mem_cons_of_mem _ (List.mem_append_right _ h))