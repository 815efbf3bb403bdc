theorem dX12_here_0 : decode cX12_here 0 = .ok (.aload_n 0, 1) := z_dd_42 (by decide +kernel)
theorem dX12_here_1 : decode cX12_here 1 = .ok (.getfield 256, 3) := z_dd_180 (by decide +kernel)
theorem dX12_here_4 : decode cX12_here 4 = .ok (.aload_n 0, 1) := z_dd_42 (by decide +kernel)
theorem dX12_here_5 : decode cX12_here 5 = .ok (.getfield 259, 3) := z_dd_180 (by decide +kernel)
theorem dX12_here_8 : decode cX12_here 8 = .ok (.if_icmp .ge 19, 3) := z_dd_162 (by decide +kernel)
theorem dX12_here_27 : decode cX12_here 27 = .ok (.iconst (-1), 1) := z_dd_2 (by decide +kernel)
theorem dX12_here_28 : decode cX12_here 28 = .ok (.ireturn, 1) := z_dd_172 (by decide +kernel)
theorem dX12_here_11 : decode cX12_here 11 = .ok (.aload_n 0, 1) := z_dd_42 (by decide +kernel)
theorem dX12_here_12 : decode cX12_here 12 = .ok (.getfield 83, 3) := z_dd_180 (by decide +kernel)
theorem dX12_here_15 : decode cX12_here 15 = .ok (.aload_n 0, 1) := z_dd_42 (by decide +kernel)
theorem dX12_here_16 : decode cX12_here 16 = .ok (.getfield 256, 3) := z_dd_180 (by decide +kernel)
theorem dX12_here_19 : decode cX12_here 19 = .ok (.baload, 1) := z_dd_51 (by decide +kernel)
theorem dX12_here_20 : decode cX12_here 20 = .ok (.sipush 255, 3) := z_dd_17 (by decide +kernel)
theorem dX12_here_23 : decode cX12_here 23 = .ok (.iand, 1) := z_dd_126 (by decide +kernel)
theorem dX12_here_24 : decode cX12_here 24 = .ok (.goto 4, 3) := z_dd_167 (by decide +kernel)
theorem dX12_isSignByte_0 : decode cX12_isSignByte 0 = .ok (.iload_n 0, 1) := z_dd_26 (by decide +kernel)
theorem dX12_isSignByte_1 : decode cX12_isSignByte 1 = .ok (.bipush 59, 2) := z_dd_16 (by decide +kernel)
theorem dX12_isSignByte_3 : decode cX12_isSignByte 3 = .ok (.if_icmp .eq 75, 3) := z_dd_159 (by decide +kernel)
theorem dX12_isSignByte_78 : decode cX12_isSignByte 78 = .ok (.iconst 1, 1) := z_dd_4 (by decide +kernel)
theorem dX12_isSignByte_79 : decode cX12_isSignByte 79 = .ok (.goto 4, 3) := z_dd_167 (by decide +kernel)
theorem dX12_isSignByte_83 : decode cX12_isSignByte 83 = .ok (.ireturn, 1) := z_dd_172 (by decide +kernel)
theorem dX12_isSignByte_6 : decode cX12_isSignByte 6 = .ok (.iload_n 0, 1) := z_dd_26 (by decide +kernel)
theorem dX12_isSignByte_7 : decode cX12_isSignByte 7 = .ok (.bipush 40, 2) := z_dd_16 (by decide +kernel)
theorem dX12_isSignByte_9 : decode cX12_isSignByte 9 = .ok (.if_icmp .eq 69, 3) := z_dd_159 (by decide +kernel)
theorem dX12_isSignByte_12 : decode cX12_isSignByte 12 = .ok (.iload_n 0, 1) := z_dd_26 (by decide +kernel)
theorem dX12_isSignByte_13 : decode cX12_isSignByte 13 = .ok (.bipush 41, 2) := z_dd_16 (by decide +kernel)
theorem dX12_isSignByte_15 : decode cX12_isSignByte 15 = .ok (.if_icmp .eq 63, 3) := z_dd_159 (by decide +kernel)
theorem dX12_isSignByte_18 : decode cX12_isSignByte 18 = .ok (.iload_n 0, 1) := z_dd_26 (by decide +kernel)
theorem dX12_isSignByte_19 : decode cX12_isSignByte 19 = .ok (.bipush 123, 2) := z_dd_16 (by decide +kernel)
theorem dX12_isSignByte_21 : decode cX12_isSignByte 21 = .ok (.if_icmp .eq 57, 3) := z_dd_159 (by decide +kernel)
theorem dX12_isSignByte_24 : decode cX12_isSignByte 24 = .ok (.iload_n 0, 1) := z_dd_26 (by decide +kernel)
theorem dX12_isSignByte_25 : decode cX12_isSignByte 25 = .ok (.bipush 125, 2) := z_dd_16 (by decide +kernel)
theorem dX12_isSignByte_27 : decode cX12_isSignByte 27 = .ok (.if_icmp .eq 51, 3) := z_dd_159 (by decide +kernel)
theorem dX12_isSignByte_30 : decode cX12_isSignByte 30 = .ok (.iload_n 0, 1) := z_dd_26 (by decide +kernel)
theorem dX12_isSignByte_31 : decode cX12_isSignByte 31 = .ok (.bipush 44, 2) := z_dd_16 (by decide +kernel)
theorem dX12_isSignByte_33 : decode cX12_isSignByte 33 = .ok (.if_icmp .eq 45, 3) := z_dd_159 (by decide +kernel)
theorem dX12_isSignByte_36 : decode cX12_isSignByte 36 = .ok (.iload_n 0, 1) := z_dd_26 (by decide +kernel)
theorem dX12_isSignByte_37 : decode cX12_isSignByte 37 = .ok (.bipush 60, 2) := z_dd_16 (by decide +kernel)
theorem dX12_isSignByte_39 : decode cX12_isSignByte 39 = .ok (.if_icmp .eq 39, 3) := z_dd_159 (by decide +kernel)
theorem dX12_isSignByte_42 : decode cX12_isSignByte 42 = .ok (.iload_n 0, 1) := z_dd_26 (by decide +kernel)
theorem dX12_isSignByte_43 : decode cX12_isSignByte 43 = .ok (.bipush 62, 2) := z_dd_16 (by decide +kernel)
theorem dX12_isSignByte_45 : decode cX12_isSignByte 45 = .ok (.if_icmp .eq 33, 3) := z_dd_159 (by decide +kernel)
theorem dX12_isSignByte_48 : decode cX12_isSignByte 48 = .ok (.iload_n 0, 1) := z_dd_26 (by decide +kernel)
theorem dX12_isSignByte_49 : decode cX12_isSignByte 49 = .ok (.bipush 61, 2) := z_dd_16 (by decide +kernel)
theorem dX12_isSignByte_51 : decode cX12_isSignByte 51 = .ok (.if_icmp .eq 27, 3) := z_dd_159 (by decide +kernel)
theorem dX12_isSignByte_54 : decode cX12_isSignByte 54 = .ok (.iload_n 0, 1) := z_dd_26 (by decide +kernel)
theorem dX12_isSignByte_55 : decode cX12_isSignByte 55 = .ok (.bipush 43, 2) := z_dd_16 (by decide +kernel)
theorem dX12_isSignByte_57 : decode cX12_isSignByte 57 = .ok (.if_icmp .eq 21, 3) := z_dd_159 (by decide +kernel)
theorem dX12_isSignByte_60 : decode cX12_isSignByte 60 = .ok (.iload_n 0, 1) := z_dd_26 (by decide +kernel)
theorem dX12_isSignByte_61 : decode cX12_isSignByte 61 = .ok (.bipush 45, 2) := z_dd_16 (by decide +kernel)
theorem dX12_isSignByte_63 : decode cX12_isSignByte 63 = .ok (.if_icmp .eq 15, 3) := z_dd_159 (by decide +kernel)
theorem dX12_isSignByte_66 : decode cX12_isSignByte 66 = .ok (.iload_n 0, 1) := z_dd_26 (by decide +kernel)
theorem dX12_isSignByte_67 : decode cX12_isSignByte 67 = .ok (.bipush 42, 2) := z_dd_16 (by decide +kernel)
theorem dX12_isSignByte_69 : decode cX12_isSignByte 69 = .ok (.if_icmp .eq 9, 3) := z_dd_159 (by decide +kernel)
theorem dX12_isSignByte_72 : decode cX12_isSignByte 72 = .ok (.iload_n 0, 1) := z_dd_26 (by decide +kernel)
theorem dX12_isSignByte_73 : decode cX12_isSignByte 73 = .ok (.bipush 47, 2) := z_dd_16 (by decide +kernel)
theorem dX12_isSignByte_75 : decode cX12_isSignByte 75 = .ok (.if_icmp .ne 7, 3) := z_dd_160 (by decide +kernel)
theorem dX12_isSignByte_82 : decode cX12_isSignByte 82 = .ok (.iconst 0, 1) := z_dd_3 (by decide +kernel)
theorem dX12_next_0 : decode cX12_next 0 = .ok (.aload_n 0, 1) := z_dd_42 (by decide +kernel)
set_option maxRecDepth 20000 in
theorem ggX12_next_X12_here : GoodIn wsX12_next wsX12_here := goodIn_sub (fa_c (me_s (me_l (me_l (List.mem_of_getElem? (i := 13) rfl)))) (fa_a (fa_c (me_s (me_l (me_l (List.mem_of_getElem? (i := 0) rfl)))) (fa_c (me_s (me_l (me_l (List.mem_of_getElem? (i := 14) rfl)))) (fa_c (me_s (me_l (me_l (List.mem_of_getElem? (i := 15) rfl)))) fa_n))) (fun w h => (me_s (me_r h))))) (by decide +kernel)
set_option maxRecDepth 20000 in
theorem gX12_next_X12_here : GoodIn wsX12_next (wsV RX12 262 RX12 yX12_here wsX12_here) := goodIn_app (goodIn_sub (fa_c (me_s (me_l (me_l (List.mem_of_getElem? (i := 9) rfl)))) (fa_c (me_s (me_l (me_l (List.mem_of_getElem? (i := 10) rfl)))) (fa_c (me_s (me_l (me_l (List.mem_of_getElem? (i := 11) rfl)))) (fa_c (me_s (me_l (me_l (List.mem_of_getElem? (i := 12) rfl)))) fa_n)))) (by decide +kernel)) ggX12_next_X12_here
theorem dX12_next_1 : decode cX12_next 1 = .ok (.invokevirtual 262, 3) := z_dd_182 (by decide +kernel)
theorem dX12_next_4 : decode cX12_next 4 = .ok (.bipush 32, 2) := z_dd_16 (by decide +kernel)
theorem dX12_next_6 : decode cX12_next 6 = .ok (.if_icmp .eq 12, 3) := z_dd_159 (by decide +kernel)
theorem dX12_next_18 : decode cX12_next 18 = .ok (.aload_n 0, 1) := z_dd_42 (by decide +kernel)
theorem dX12_next_19 : decode cX12_next 19 = .ok (.dup, 1) := z_dd_89 (by decide +kernel)
theorem dX12_next_20 : decode cX12_next 20 = .ok (.getfield 256, 3) := z_dd_180 (by decide +kernel)
theorem dX12_next_23 : decode cX12_next 23 = .ok (.iconst 1, 1) := z_dd_4 (by decide +kernel)
theorem dX12_next_24 : decode cX12_next 24 = .ok (.iadd, 1) := z_dd_96 (by decide +kernel)
theorem dX12_next_25 : decode cX12_next 25 = .ok (.putfield 256, 3) := z_dd_181 (by decide +kernel)
theorem dX12_next_28 : decode cX12_next 28 = .ok (.goto (-28), 3) := z_dd_167 (by decide +kernel)
theorem dX12_next_9 : decode cX12_next 9 = .ok (.aload_n 0, 1) := z_dd_42 (by decide +kernel)
theorem dX12_next_10 : decode cX12_next 10 = .ok (.invokevirtual 262, 3) := z_dd_182 (by decide +kernel)
theorem dX12_next_13 : decode cX12_next 13 = .ok (.bipush 10, 2) := z_dd_16 (by decide +kernel)
theorem dX12_next_15 : decode cX12_next 15 = .ok (.if_icmp .ne 16, 3) := z_dd_160 (by decide +kernel)
theorem dX12_next_31 : decode cX12_next 31 = .ok (.aload_n 0, 1) := z_dd_42 (by decide +kernel)
theorem dX12_next_32 : decode cX12_next 32 = .ok (.aload_n 0, 1) := z_dd_42 (by decide +kernel)
theorem dX12_next_33 : decode cX12_next 33 = .ok (.getfield 256, 3) := z_dd_180 (by decide +kernel)
theorem dX12_next_36 : decode cX12_next 36 = .ok (.putfield 266, 3) := z_dd_181 (by decide +kernel)
theorem dX12_next_39 : decode cX12_next 39 = .ok (.aload_n 0, 1) := z_dd_42 (by decide +kernel)
theorem dX12_next_40 : decode cX12_next 40 = .ok (.invokevirtual 262, 3) := z_dd_182 (by decide +kernel)
theorem dX12_next_43 : decode cX12_next 43 = .ok (.istore_n 1, 1) := z_dd_60 (by decide +kernel)
theorem dX12_next_44 : decode cX12_next 44 = .ok (.aload_n 0, 1) := z_dd_42 (by decide +kernel)
theorem dX12_next_45 : decode cX12_next 45 = .ok (.ldc2_w 269, 3) := z_dd_20 (by decide +kernel)
theorem dX12_next_48 : decode cX12_next 48 = .ok (.putfield 271, 3) := z_dd_181 (by decide +kernel)
theorem dX12_next_51 : decode cX12_next 51 = .ok (.aload_n 0, 1) := z_dd_42 (by decide +kernel)
theorem dX12_next_52 : decode cX12_next 52 = .ok (.iconst 0, 1) := z_dd_3 (by decide +kernel)
theorem dX12_next_53 : decode cX12_next 53 = .ok (.putfield 275, 3) := z_dd_181 (by decide +kernel)
theorem dX12_next_56 : decode cX12_next 56 = .ok (.aload_n 0, 1) := z_dd_42 (by decide +kernel)
theorem dX12_next_57 : decode cX12_next 57 = .ok (.iconst 0, 1) := z_dd_3 (by decide +kernel)
theorem dX12_next_58 : decode cX12_next 58 = .ok (.putfield 278, 3) := z_dd_181 (by decide +kernel)
theorem dX12_next_61 : decode cX12_next 61 = .ok (.iload_n 1, 1) := z_dd_27 (by decide +kernel)
theorem dX12_next_62 : decode cX12_next 62 = .ok (.ifCond .ge 11, 3) := z_dd_156 (by decide +kernel)
theorem dX12_next_73 : decode cX12_next 73 = .ok (.iload_n 1, 1) := z_dd_27 (by decide +kernel)
theorem dX12_next_74 : decode cX12_next 74 = .ok (.bipush 97, 2) := z_dd_16 (by decide +kernel)
theorem dX12_next_76 : decode cX12_next 76 = .ok (.bipush 122, 2) := z_dd_16 (by decide +kernel)
set_option maxRecDepth 20000 in
theorem ggX12_next_X12_within : GoodIn wsX12_next wsX12_within := goodIn_sub (fa_c (me_s (me_l (me_l (List.mem_of_getElem? (i := 18) rfl)))) fa_n) (by decide +kernel)
set_option maxRecDepth 20000 in
theorem gX12_next_X12_within : GoodIn wsX12_next (va_wsS RX12 235 yX12_within wsX12_within) := goodIn_app (goodIn_sub (fa_c (me_s (me_l (me_l (List.mem_of_getElem? (i := 16) rfl)))) (fa_c (me_s (me_l (me_l (List.mem_of_getElem? (i := 17) rfl)))) (fa_c (me_s (me_l (me_l (List.mem_of_getElem? (i := 12) rfl)))) fa_n))) (by decide +kernel)) ggX12_next_X12_within
theorem dX12_next_78 : decode cX12_next 78 = .ok (.invokestatic 235, 3) := z_dd_184 (by decide +kernel)
theorem dX12_next_81 : decode cX12_next 81 = .ok (.ifCond .eq 81, 3) := z_dd_153 (by decide +kernel)
theorem dX12_next_84 : decode cX12_next 84 = .ok (.aload_n 0, 1) := z_dd_42 (by decide +kernel)
theorem dX12_next_85 : decode cX12_next 85 = .ok (.iconst 1, 1) := z_dd_4 (by decide +kernel)
theorem dX12_next_86 : decode cX12_next 86 = .ok (.putfield 281, 3) := z_dd_181 (by decide +kernel)
theorem dX12_next_89 : decode cX12_next 89 = .ok (.aload_n 0, 1) := z_dd_42 (by decide +kernel)
theorem dX12_next_90 : decode cX12_next 90 = .ok (.lconst 0, 1) := z_dd_9 (by decide +kernel)
theorem dX12_next_91 : decode cX12_next 91 = .ok (.putfield 271, 3) := z_dd_181 (by decide +kernel)
theorem dX12_next_94 : decode cX12_next 94 = .ok (.aload_n 0, 1) := z_dd_42 (by decide +kernel)
theorem dX12_next_95 : decode cX12_next 95 = .ok (.invokevirtual 262, 3) := z_dd_182 (by decide +kernel)
theorem dX12_next_98 : decode cX12_next 98 = .ok (.bipush 97, 2) := z_dd_16 (by decide +kernel)
theorem dX12_next_100 : decode cX12_next 100 = .ok (.bipush 122, 2) := z_dd_16 (by decide +kernel)
theorem dX12_next_102 : decode cX12_next 102 = .ok (.invokestatic 235, 3) := z_dd_184 (by decide +kernel)
theorem dX12_next_105 : decode cX12_next 105 = .ok (.ifCond .eq 177, 3) := z_dd_153 (by decide +kernel)
theorem dX12_next_108 : decode cX12_next 108 = .ok (.aload_n 0, 1) := z_dd_42 (by decide +kernel)
theorem dX12_next_109 : decode cX12_next 109 = .ok (.aload_n 0, 1) := z_dd_42 (by decide +kernel)
theorem dX12_next_110 : decode cX12_next 110 = .ok (.getfield 256, 3) := z_dd_180 (by decide +kernel)
theorem dX12_next_113 : decode cX12_next 113 = .ok (.aload_n 0, 1) := z_dd_42 (by decide +kernel)
theorem dX12_next_114 : decode cX12_next 114 = .ok (.getfield 266, 3) := z_dd_180 (by decide +kernel)
theorem dX12_next_117 : decode cX12_next 117 = .ok (.isub, 1) := z_dd_100 (by decide +kernel)
theorem dX12_next_118 : decode cX12_next 118 = .ok (.bipush 10, 2) := z_dd_16 (by decide +kernel)
theorem dX12_next_120 : decode cX12_next 120 = .ok (.if_icmp .ge 23, 3) := z_dd_162 (by decide +kernel)
theorem dX12_next_143 : decode cX12_next 143 = .ok (.ldc2_w 269, 3) := z_dd_20 (by decide +kernel)
theorem dX12_next_146 : decode cX12_next 146 = .ok (.putfield 271, 3) := z_dd_181 (by decide +kernel)
theorem dX12_next_149 : decode cX12_next 149 = .ok (.aload_n 0, 1) := z_dd_42 (by decide +kernel)
theorem dX12_next_150 : decode cX12_next 150 = .ok (.dup, 1) := z_dd_89 (by decide +kernel)
theorem dX12_next_151 : decode cX12_next 151 = .ok (.getfield 256, 3) := z_dd_180 (by decide +kernel)
theorem dX12_next_154 : decode cX12_next 154 = .ok (.iconst 1, 1) := z_dd_4 (by decide +kernel)
theorem dX12_next_155 : decode cX12_next 155 = .ok (.iadd, 1) := z_dd_96 (by decide +kernel)
theorem dX12_next_156 : decode cX12_next 156 = .ok (.putfield 256, 3) := z_dd_181 (by decide +kernel)
theorem dX12_next_159 : decode cX12_next 159 = .ok (.goto (-65), 3) := z_dd_167 (by decide +kernel)
theorem dX12_next_123 : decode cX12_next 123 = .ok (.aload_n 0, 1) := z_dd_42 (by decide +kernel)
theorem dX12_next_124 : decode cX12_next 124 = .ok (.getfield 271, 3) := z_dd_180 (by decide +kernel)
theorem dX12_next_127 : decode cX12_next 127 = .ok (.ldc2_w 284, 3) := z_dd_20 (by decide +kernel)
theorem dX12_next_130 : decode cX12_next 130 = .ok (.lmul, 1) := z_dd_105 (by decide +kernel)
theorem dX12_next_131 : decode cX12_next 131 = .ok (.aload_n 0, 1) := z_dd_42 (by decide +kernel)
theorem dX12_next_132 : decode cX12_next 132 = .ok (.invokevirtual 262, 3) := z_dd_182 (by decide +kernel)
theorem dX12_next_135 : decode cX12_next 135 = .ok (.bipush 96, 2) := z_dd_16 (by decide +kernel)
theorem dX12_next_137 : decode cX12_next 137 = .ok (.isub, 1) := z_dd_100 (by decide +kernel)
theorem dX12_next_138 : decode cX12_next 138 = .ok (.i2l, 1) := z_dd_133 (by decide +kernel)
theorem dX12_next_139 : decode cX12_next 139 = .ok (.ladd, 1) := z_dd_97 (by decide +kernel)
theorem dX12_next_140 : decode cX12_next 140 = .ok (.goto 6, 3) := z_dd_167 (by decide +kernel)
theorem dX12_next_282 : decode cX12_next 282 = .ok (.return_, 1) := z_dd_177 (by decide +kernel)
theorem dX12_next_162 : decode cX12_next 162 = .ok (.iload_n 1, 1) := z_dd_27 (by decide +kernel)
theorem dX12_next_163 : decode cX12_next 163 = .ok (.bipush 48, 2) := z_dd_16 (by decide +kernel)
theorem dX12_next_165 : decode cX12_next 165 = .ok (.bipush 57, 2) := z_dd_16 (by decide +kernel)
theorem dX12_next_167 : decode cX12_next 167 = .ok (.invokestatic 235, 3) := z_dd_184 (by decide +kernel)
theorem dX12_next_170 : decode cX12_next 170 = .ok (.ifCond .eq 81, 3) := z_dd_153 (by decide +kernel)
theorem dX12_next_173 : decode cX12_next 173 = .ok (.aload_n 0, 1) := z_dd_42 (by decide +kernel)
theorem dX12_next_174 : decode cX12_next 174 = .ok (.invokevirtual 262, 3) := z_dd_182 (by decide +kernel)
theorem dX12_next_177 : decode cX12_next 177 = .ok (.bipush 48, 2) := z_dd_16 (by decide +kernel)
theorem dX12_next_179 : decode cX12_next 179 = .ok (.bipush 57, 2) := z_dd_16 (by decide +kernel)
theorem dX12_next_181 : decode cX12_next 181 = .ok (.invokestatic 235, 3) := z_dd_184 (by decide +kernel)
theorem dX12_next_184 : decode cX12_next 184 = .ok (.ifCond .eq 41, 3) := z_dd_153 (by decide +kernel)
theorem dX12_next_187 : decode cX12_next 187 = .ok (.aload_n 0, 1) := z_dd_42 (by decide +kernel)
theorem dX12_next_188 : decode cX12_next 188 = .ok (.aload_n 0, 1) := z_dd_42 (by decide +kernel)
theorem dX12_next_189 : decode cX12_next 189 = .ok (.getfield 278, 3) := z_dd_180 (by decide +kernel)
theorem dX12_next_192 : decode cX12_next 192 = .ok (.ldc_w 286, 3) := z_dd_19 (by decide +kernel)
set_option maxRecDepth 20000 in
theorem ggX12_next_X12_min : GoodIn wsX12_next wsX12_min := goodIn_sub (fa_c (me_s (me_l (me_l (List.mem_of_getElem? (i := 21) rfl)))) fa_n) (by decide +kernel)
set_option maxRecDepth 20000 in
theorem gX12_next_X12_min : GoodIn wsX12_next (va_wsS RX12 287 yX12_min wsX12_min) := goodIn_app (goodIn_sub (fa_c (me_s (me_l (me_l (List.mem_of_getElem? (i := 19) rfl)))) (fa_c (me_s (me_l (me_l (List.mem_of_getElem? (i := 20) rfl)))) (fa_c (me_s (me_l (me_l (List.mem_of_getElem? (i := 12) rfl)))) fa_n))) (by decide +kernel)) ggX12_next_X12_min
theorem dX12_next_195 : decode cX12_next 195 = .ok (.invokestatic 287, 3) := z_dd_184 (by decide +kernel)
theorem dX12_next_198 : decode cX12_next 198 = .ok (.bipush 10, 2) := z_dd_16 (by decide +kernel)
theorem dX12_next_200 : decode cX12_next 200 = .ok (.imul, 1) := z_dd_104 (by decide +kernel)
theorem dX12_next_201 : decode cX12_next 201 = .ok (.aload_n 0, 1) := z_dd_42 (by decide +kernel)
theorem dX12_next_202 : decode cX12_next 202 = .ok (.invokevirtual 262, 3) := z_dd_182 (by decide +kernel)
theorem dX12_next_205 : decode cX12_next 205 = .ok (.iadd, 1) := z_dd_96 (by decide +kernel)
theorem dX12_next_206 : decode cX12_next 206 = .ok (.bipush 48, 2) := z_dd_16 (by decide +kernel)
theorem dX12_next_208 : decode cX12_next 208 = .ok (.isub, 1) := z_dd_100 (by decide +kernel)
theorem dX12_next_209 : decode cX12_next 209 = .ok (.putfield 278, 3) := z_dd_181 (by decide +kernel)
theorem dX12_next_212 : decode cX12_next 212 = .ok (.aload_n 0, 1) := z_dd_42 (by decide +kernel)
theorem dX12_next_213 : decode cX12_next 213 = .ok (.dup, 1) := z_dd_89 (by decide +kernel)
theorem dX12_next_214 : decode cX12_next 214 = .ok (.getfield 256, 3) := z_dd_180 (by decide +kernel)
theorem dX12_next_217 : decode cX12_next 217 = .ok (.iconst 1, 1) := z_dd_4 (by decide +kernel)
theorem dX12_next_218 : decode cX12_next 218 = .ok (.iadd, 1) := z_dd_96 (by decide +kernel)
theorem dX12_next_219 : decode cX12_next 219 = .ok (.putfield 256, 3) := z_dd_181 (by decide +kernel)
theorem dX12_next_222 : decode cX12_next 222 = .ok (.goto (-49), 3) := z_dd_167 (by decide +kernel)
theorem dX12_next_225 : decode cX12_next 225 = .ok (.aload_n 0, 1) := z_dd_42 (by decide +kernel)
theorem dX12_next_226 : decode cX12_next 226 = .ok (.aload_n 0, 1) := z_dd_42 (by decide +kernel)
theorem dX12_next_227 : decode cX12_next 227 = .ok (.getfield 256, 3) := z_dd_180 (by decide +kernel)
theorem dX12_next_230 : decode cX12_next 230 = .ok (.aload_n 0, 1) := z_dd_42 (by decide +kernel)
theorem dX12_next_231 : decode cX12_next 231 = .ok (.getfield 266, 3) := z_dd_180 (by decide +kernel)
theorem dX12_next_234 : decode cX12_next 234 = .ok (.isub, 1) := z_dd_100 (by decide +kernel)
theorem dX12_next_235 : decode cX12_next 235 = .ok (.bipush 6, 2) := z_dd_16 (by decide +kernel)
theorem dX12_next_237 : decode cX12_next 237 = .ok (.if_icmp .gt 7, 3) := z_dd_163 (by decide +kernel)
theorem dX12_next_244 : decode cX12_next 244 = .ok (.iconst 4, 1) := z_dd_7 (by decide +kernel)
theorem dX12_next_245 : decode cX12_next 245 = .ok (.putfield 281, 3) := z_dd_181 (by decide +kernel)
theorem dX12_next_248 : decode cX12_next 248 = .ok (.goto 34, 3) := z_dd_167 (by decide +kernel)
theorem dX12_next_240 : decode cX12_next 240 = .ok (.iconst 2, 1) := z_dd_5 (by decide +kernel)
theorem dX12_next_241 : decode cX12_next 241 = .ok (.goto 4, 3) := z_dd_167 (by decide +kernel)
theorem dX12_next_251 : decode cX12_next 251 = .ok (.aload_n 0, 1) := z_dd_42 (by decide +kernel)
theorem dX12_next_252 : decode cX12_next 252 = .ok (.iload_n 1, 1) := z_dd_27 (by decide +kernel)
set_option maxRecDepth 20000 in
theorem ggX12_next_X12_isSignByte : GoodIn wsX12_next wsX12_isSignByte := goodIn_sub (fa_c (me_s (me_l (me_r (List.mem_of_getElem? (i := 0) rfl)))) fa_n) (by decide +kernel)
set_option maxRecDepth 20000 in
theorem gX12_next_X12_isSignByte : GoodIn wsX12_next (va_wsS RX12 291 yX12_isSignByte wsX12_isSignByte) := goodIn_app (goodIn_sub (fa_c (me_s (me_l (me_l (List.mem_of_getElem? (i := 22) rfl)))) (fa_c (me_s (me_l (me_l (List.mem_of_getElem? (i := 23) rfl)))) (fa_c (me_s (me_l (me_l (List.mem_of_getElem? (i := 12) rfl)))) fa_n))) (by decide +kernel)) ggX12_next_X12_isSignByte
theorem dX12_next_253 : decode cX12_next 253 = .ok (.invokestatic 291, 3) := z_dd_184 (by decide +kernel)
theorem dX12_next_256 : decode cX12_next 256 = .ok (.ifCond .eq 7, 3) := z_dd_153 (by decide +kernel)
theorem dX12_next_259 : decode cX12_next 259 = .ok (.iconst 3, 1) := z_dd_6 (by decide +kernel)
theorem dX12_next_260 : decode cX12_next 260 = .ok (.goto 4, 3) := z_dd_167 (by decide +kernel)
theorem dX12_next_264 : decode cX12_next 264 = .ok (.putfield 281, 3) := z_dd_181 (by decide +kernel)
theorem dX12_next_267 : decode cX12_next 267 = .ok (.aload_n 0, 1) := z_dd_42 (by decide +kernel)
theorem dX12_next_268 : decode cX12_next 268 = .ok (.iload_n 1, 1) := z_dd_27 (by decide +kernel)
theorem dX12_next_269 : decode cX12_next 269 = .ok (.putfield 275, 3) := z_dd_181 (by decide +kernel)
theorem dX12_next_272 : decode cX12_next 272 = .ok (.aload_n 0, 1) := z_dd_42 (by decide +kernel)
theorem dX12_next_273 : decode cX12_next 273 = .ok (.dup, 1) := z_dd_89 (by decide +kernel)
theorem dX12_next_274 : decode cX12_next 274 = .ok (.getfield 256, 3) := z_dd_180 (by decide +kernel)
theorem dX12_next_277 : decode cX12_next 277 = .ok (.iconst 1, 1) := z_dd_4 (by decide +kernel)
theorem dX12_next_278 : decode cX12_next 278 = .ok (.iadd, 1) := z_dd_96 (by decide +kernel)
theorem dX12_next_279 : decode cX12_next 279 = .ok (.putfield 256, 3) := z_dd_181 (by decide +kernel)
theorem dX12_next_263 : decode cX12_next 263 = .ok (.iconst 4, 1) := z_dd_7 (by decide +kernel)
theorem dX12_next_65 : decode cX12_next 65 = .ok (.aload_n 0, 1) := z_dd_42 (by decide +kernel)
theorem dX12_next_66 : decode cX12_next 66 = .ok (.iconst 0, 1) := z_dd_3 (by decide +kernel)
theorem dX12_next_67 : decode cX12_next 67 = .ok (.putfield 281, 3) := z_dd_181 (by decide +kernel)
theorem dX12_next_70 : decode cX12_next 70 = .ok (.goto 212, 3) := z_dd_167 (by decide +kernel)
theorem dX12_errs_0 : decode cX12_errs 0 = .ok (.aload_n 0, 1) := z_dd_42 (by decide +kernel)
theorem dX12_errs_1 : decode cX12_errs 1 = .ok (.getfield 294, 3) := z_dd_180 (by decide +kernel)
theorem dX12_errs_4 : decode cX12_errs 4 = .ok (.ifCond .eq 4, 3) := z_dd_153 (by decide +kernel)
theorem dX12_errs_8 : decode cX12_errs 8 = .ok (.aload_n 0, 1) := z_dd_42 (by decide +kernel)
theorem dX12_errs_9 : decode cX12_errs 9 = .ok (.iconst 1, 1) := z_dd_4 (by decide +kernel)
theorem dX12_errs_10 : decode cX12_errs 10 = .ok (.putfield 294, 3) := z_dd_181 (by decide +kernel)
theorem dX12_errs_13 : decode cX12_errs 13 = .ok (.aload_n 0, 1) := z_dd_42 (by decide +kernel)
theorem dX12_errs_14 : decode cX12_errs 14 = .ok (.aload_n 0, 1) := z_dd_42 (by decide +kernel)
theorem dX12_errs_15 : decode cX12_errs 15 = .ok (.getfield 266, 3) := z_dd_180 (by decide +kernel)
theorem dX12_errs_18 : decode cX12_errs 18 = .ok (.putfield 87, 3) := z_dd_181 (by decide +kernel)
theorem dX12_errs_21 : decode cX12_errs 21 = .ok (.return_, 1) := z_dd_177 (by decide +kernel)
theorem dX12_errs_7 : decode cX12_errs 7 = .ok (.return_, 1) := z_dd_177 (by decide +kernel)
theorem dX12_isWord_0 : decode cX12_isWord 0 = .ok (.aload_n 0, 1) := z_dd_42 (by decide +kernel)
theorem dX12_isWord_1 : decode cX12_isWord 1 = .ok (.getfield 281, 3) := z_dd_180 (by decide +kernel)
theorem dX12_isWord_4 : decode cX12_isWord 4 = .ok (.iconst 1, 1) := z_dd_4 (by decide +kernel)
theorem dX12_isWord_5 : decode cX12_isWord 5 = .ok (.if_icmp .ne 16, 3) := z_dd_160 (by decide +kernel)
theorem dX12_isWord_21 : decode cX12_isWord 21 = .ok (.iconst 0, 1) := z_dd_3 (by decide +kernel)
theorem dX12_isWord_22 : decode cX12_isWord 22 = .ok (.ireturn, 1) := z_dd_172 (by decide +kernel)
theorem dX12_isWord_8 : decode cX12_isWord 8 = .ok (.aload_n 0, 1) := z_dd_42 (by decide +kernel)
theorem dX12_isWord_9 : decode cX12_isWord 9 = .ok (.getfield 271, 3) := z_dd_180 (by decide +kernel)
theorem dX12_isWord_12 : decode cX12_isWord 12 = .ok (.lload_n 1, 1) := z_dd_31 (by decide +kernel)
theorem dX12_isWord_13 : decode cX12_isWord 13 = .ok (.lcmp, 1) := z_dd_148 (by decide +kernel)
theorem dX12_isWord_14 : decode cX12_isWord 14 = .ok (.ifCond .ne 7, 3) := z_dd_154 (by decide +kernel)
theorem dX12_isWord_17 : decode cX12_isWord 17 = .ok (.iconst 1, 1) := z_dd_4 (by decide +kernel)
theorem dX12_isWord_18 : decode cX12_isWord 18 = .ok (.goto 4, 3) := z_dd_167 (by decide +kernel)
theorem dX12_isSign_0 : decode cX12_isSign 0 = .ok (.aload_n 0, 1) := z_dd_42 (by decide +kernel)
theorem dX12_isSign_1 : decode cX12_isSign 1 = .ok (.getfield 281, 3) := z_dd_180 (by decide +kernel)
theorem dX12_isSign_4 : decode cX12_isSign 4 = .ok (.iconst 3, 1) := z_dd_6 (by decide +kernel)
theorem dX12_isSign_5 : decode cX12_isSign 5 = .ok (.if_icmp .ne 15, 3) := z_dd_160 (by decide +kernel)
theorem dX12_isSign_20 : decode cX12_isSign 20 = .ok (.iconst 0, 1) := z_dd_3 (by decide +kernel)
theorem dX12_isSign_21 : decode cX12_isSign 21 = .ok (.ireturn, 1) := z_dd_172 (by decide +kernel)
theorem dX12_isSign_8 : decode cX12_isSign 8 = .ok (.aload_n 0, 1) := z_dd_42 (by decide +kernel)
theorem dX12_isSign_9 : decode cX12_isSign 9 = .ok (.getfield 275, 3) := z_dd_180 (by decide +kernel)
theorem dX12_isSign_12 : decode cX12_isSign 12 = .ok (.iload_n 1, 1) := z_dd_27 (by decide +kernel)
theorem dX12_isSign_13 : decode cX12_isSign 13 = .ok (.if_icmp .ne 7, 3) := z_dd_160 (by decide +kernel)
theorem dX12_isSign_16 : decode cX12_isSign 16 = .ok (.iconst 1, 1) := z_dd_4 (by decide +kernel)
theorem dX12_isSign_17 : decode cX12_isSign 17 = .ok (.goto 4, 3) := z_dd_167 (by decide +kernel)
theorem dX12_must_0 : decode cX12_must 0 = .ok (.aload_n 0, 1) := z_dd_42 (by decide +kernel)
theorem dX12_must_1 : decode cX12_must 1 = .ok (.iload_n 1, 1) := z_dd_27 (by decide +kernel)
set_option maxRecDepth 20000 in
theorem ggX12_must_X12_isSign : GoodIn wsX12_must wsX12_isSign := goodIn_sub (fa_c (me_s (me_l (me_l (List.mem_of_getElem? (i := 4) rfl)))) (fa_a (fa_c (me_s (me_l (me_l (List.mem_of_getElem? (i := 5) rfl)))) (fa_c (me_s (me_l (me_l (List.mem_of_getElem? (i := 6) rfl)))) fa_n)) (fun w h => (me_s (me_r h))))) (by decide +kernel)
set_option maxRecDepth 20000 in
theorem gX12_must_X12_isSign : GoodIn wsX12_must (wsV RX12 298 RX12 yX12_isSign wsX12_isSign) := goodIn_app (goodIn_sub (fa_c (me_s (me_l (me_l (List.mem_of_getElem? (i := 0) rfl)))) (fa_c (me_s (me_l (me_l (List.mem_of_getElem? (i := 1) rfl)))) (fa_c (me_s (me_l (me_l (List.mem_of_getElem? (i := 2) rfl)))) (fa_c (me_s (me_l (me_l (List.mem_of_getElem? (i := 3) rfl)))) fa_n)))) (by decide +kernel)) ggX12_must_X12_isSign
theorem dX12_must_2 : decode cX12_must 2 = .ok (.invokevirtual 298, 3) := z_dd_182 (by decide +kernel)
theorem dX12_must_5 : decode cX12_must 5 = .ok (.ifCond .eq 10, 3) := z_dd_153 (by decide +kernel)
theorem dX12_must_8 : decode cX12_must 8 = .ok (.aload_n 0, 1) := z_dd_42 (by decide +kernel)
set_option maxRecDepth 20000 in
theorem ggX12_must_X12_next : GoodIn wsX12_must wsX12_next := goodIn_sub (fa_c (me_s (me_l (me_l (List.mem_of_getElem? (i := 10) rfl)))) (fa_a (fa_a (fa_c (me_s (me_l (me_l (List.mem_of_getElem? (i := 11) rfl)))) (fa_c (me_s (me_l (me_l (List.mem_of_getElem? (i := 12) rfl)))) (fa_c (me_s (me_l (me_l (List.mem_of_getElem? (i := 13) rfl)))) (fa_c (me_s (me_l (me_l (List.mem_of_getElem? (i := 14) rfl)))) (fa_c (me_s (me_l (me_l (List.mem_of_getElem? (i := 6) rfl)))) (fa_c (me_s (me_l (me_l (List.mem_of_getElem? (i := 15) rfl)))) (fa_c (me_s (me_l (me_l (List.mem_of_getElem? (i := 5) rfl)))) (fa_c (me_s (me_l (me_l (List.mem_of_getElem? (i := 16) rfl)))) (fa_c (me_s (me_l (me_l (List.mem_of_getElem? (i := 17) rfl)))) (fa_c (me_s (me_l (me_l (List.mem_of_getElem? (i := 18) rfl)))) (fa_c (me_s (me_l (me_l (List.mem_of_getElem? (i := 19) rfl)))) (fa_c (me_s (me_l (me_l (List.mem_of_getElem? (i := 20) rfl)))) (fa_c (me_s (me_l (me_l (List.mem_of_getElem? (i := 3) rfl)))) (fa_c (me_s (me_l (me_l (List.mem_of_getElem? (i := 21) rfl)))) (fa_c (me_s (me_l (me_l (List.mem_of_getElem? (i := 22) rfl)))) (fa_c (me_s (me_l (me_l (List.mem_of_getElem? (i := 23) rfl)))) (fa_c (me_s (me_l (me_r (List.mem_of_getElem? (i := 0) rfl)))) (fa_c (me_s (me_l (me_r (List.mem_of_getElem? (i := 1) rfl)))) (fa_c (me_s (me_l (me_r (List.mem_of_getElem? (i := 2) rfl)))) (fa_c (me_s (me_l (me_r (List.mem_of_getElem? (i := 3) rfl)))) (fa_c (me_s (me_l (me_r (List.mem_of_getElem? (i := 4) rfl)))) (fa_c (me_s (me_l (me_r (List.mem_of_getElem? (i := 5) rfl)))) (fa_c (me_s (me_l (me_r (List.mem_of_getElem? (i := 6) rfl)))) (fa_c (me_s (me_l (me_r (List.mem_of_getElem? (i := 7) rfl)))) fa_n)))))))))))))))))))))))) (fa_c (me_s (me_l (me_r (List.mem_of_getElem? (i := 8) rfl)))) fa_n)) (fun w h => (me_s (me_r h))))) (by decide +kernel)
set_option maxRecDepth 20000 in
theorem gX12_must_X12_next : GoodIn wsX12_must (wsV RX12 301 RX12 yX12_next wsX12_next) := goodIn_app (goodIn_sub (fa_c (me_s (me_l (me_l (List.mem_of_getElem? (i := 7) rfl)))) (fa_c (me_s (me_l (me_l (List.mem_of_getElem? (i := 8) rfl)))) (fa_c (me_s (me_l (me_l (List.mem_of_getElem? (i := 9) rfl)))) (fa_c (me_s (me_l (me_l (List.mem_of_getElem? (i := 3) rfl)))) fa_n)))) (by decide +kernel)) ggX12_must_X12_next
theorem dX12_must_9 : decode cX12_must 9 = .ok (.invokevirtual 301, 3) := z_dd_182 (by decide +kernel)
theorem dX12_must_12 : decode cX12_must 12 = .ok (.goto 7, 3) := z_dd_167 (by decide +kernel)
theorem dX12_must_19 : decode cX12_must 19 = .ok (.return_, 1) := z_dd_177 (by decide +kernel)
theorem dX12_must_15 : decode cX12_must 15 = .ok (.aload_n 0, 1) := z_dd_42 (by decide +kernel)
set_option maxRecDepth 20000 in
theorem ggX12_must_X12_errs : GoodIn wsX12_must wsX12_errs := goodIn_sub (fa_c (me_s (me_l (me_r (List.mem_of_getElem? (i := 12) rfl)))) (fa_a (fa_c (me_s (me_l (me_r (List.mem_of_getElem? (i := 13) rfl)))) (fa_c (me_s (me_l (me_l (List.mem_of_getElem? (i := 12) rfl)))) (fa_c (me_s (me_l (me_r (List.mem_of_getElem? (i := 14) rfl)))) fa_n))) (fun w h => (me_s (me_r h))))) (by decide +kernel)
set_option maxRecDepth 20000 in
theorem gX12_must_X12_errs : GoodIn wsX12_must (wsV RX12 304 RX12 yX12_errs wsX12_errs) := goodIn_app (goodIn_sub (fa_c (me_s (me_l (me_r (List.mem_of_getElem? (i := 9) rfl)))) (fa_c (me_s (me_l (me_r (List.mem_of_getElem? (i := 10) rfl)))) (fa_c (me_s (me_l (me_r (List.mem_of_getElem? (i := 11) rfl)))) (fa_c (me_s (me_l (me_l (List.mem_of_getElem? (i := 3) rfl)))) fa_n)))) (by decide +kernel)) ggX12_must_X12_errs
theorem dX12_must_16 : decode cX12_must 16 = .ok (.invokevirtual 304, 3) := z_dd_182 (by decide +kernel)
theorem dX12_opens_0 : decode cX12_opens 0 = .ok (.aload_n 0, 1) := z_dd_42 (by decide +kernel)
theorem dX12_opens_1 : decode cX12_opens 1 = .ok (.getfield 346, 3) := z_dd_180 (by decide +kernel)
theorem dX12_opens_4 : decode cX12_opens 4 = .ok (.bipush 9, 2) := z_dd_16 (by decide +kernel)
theorem dX12_opens_6 : decode cX12_opens 6 = .ok (.if_icmp .ne 7, 3) := z_dd_160 (by decide +kernel)
theorem dX12_opens_13 : decode cX12_opens 13 = .ok (.aload_n 0, 1) := z_dd_42 (by decide +kernel)
theorem dX12_opens_14 : decode cX12_opens 14 = .ok (.dup, 1) := z_dd_89 (by decide +kernel)
theorem dX12_opens_15 : decode cX12_opens 15 = .ok (.getfield 346, 3) := z_dd_180 (by decide +kernel)
theorem dX12_opens_18 : decode cX12_opens 18 = .ok (.iconst 1, 1) := z_dd_4 (by decide +kernel)
theorem dX12_opens_19 : decode cX12_opens 19 = .ok (.iadd, 1) := z_dd_96 (by decide +kernel)
theorem dX12_opens_20 : decode cX12_opens 20 = .ok (.putfield 346, 3) := z_dd_181 (by decide +kernel)
theorem dX12_opens_23 : decode cX12_opens 23 = .ok (.aload_n 0, 1) := z_dd_42 (by decide +kernel)
set_option maxRecDepth 20000 in
theorem ggX12_opens_X12_next : GoodIn wsX12_opens wsX12_next := goodIn_sub (fa_c (me_s (me_l (me_l (List.mem_of_getElem? (i := 12) rfl)))) (fa_a (fa_a (fa_c (me_s (me_l (me_l (List.mem_of_getElem? (i := 13) rfl)))) (fa_c (me_s (me_l (me_l (List.mem_of_getElem? (i := 7) rfl)))) (fa_c (me_s (me_l (me_l (List.mem_of_getElem? (i := 14) rfl)))) (fa_c (me_s (me_l (me_l (List.mem_of_getElem? (i := 15) rfl)))) (fa_c (me_s (me_l (me_l (List.mem_of_getElem? (i := 16) rfl)))) (fa_c (me_s (me_l (me_l (List.mem_of_getElem? (i := 17) rfl)))) (fa_c (me_s (me_l (me_l (List.mem_of_getElem? (i := 18) rfl)))) (fa_c (me_s (me_l (me_l (List.mem_of_getElem? (i := 19) rfl)))) (fa_c (me_s (me_l (me_l (List.mem_of_getElem? (i := 20) rfl)))) (fa_c (me_s (me_l (me_l (List.mem_of_getElem? (i := 21) rfl)))) (fa_c (me_s (me_l (me_l (List.mem_of_getElem? (i := 22) rfl)))) (fa_c (me_s (me_l (me_l (List.mem_of_getElem? (i := 23) rfl)))) (fa_c (me_s (me_l (me_l (List.mem_of_getElem? (i := 4) rfl)))) (fa_c (me_s (me_l (me_r (List.mem_of_getElem? (i := 0) rfl)))) (fa_c (me_s (me_l (me_r (List.mem_of_getElem? (i := 1) rfl)))) (fa_c (me_s (me_l (me_r (List.mem_of_getElem? (i := 2) rfl)))) (fa_c (me_s (me_l (me_r (List.mem_of_getElem? (i := 3) rfl)))) (fa_c (me_s (me_l (me_r (List.mem_of_getElem? (i := 4) rfl)))) (fa_c (me_s (me_l (me_r (List.mem_of_getElem? (i := 5) rfl)))) (fa_c (me_s (me_l (me_r (List.mem_of_getElem? (i := 6) rfl)))) (fa_c (me_s (me_l (me_r (List.mem_of_getElem? (i := 7) rfl)))) (fa_c (me_s (me_l (me_r (List.mem_of_getElem? (i := 8) rfl)))) (fa_c (me_s (me_l (me_r (List.mem_of_getElem? (i := 9) rfl)))) (fa_c (me_s (me_l (me_r (List.mem_of_getElem? (i := 10) rfl)))) fa_n)))))))))))))))))))))))) (fa_c (me_s (me_l (me_r (List.mem_of_getElem? (i := 11) rfl)))) fa_n)) (fun w h => (me_s (me_r h))))) (by decide +kernel)
set_option maxRecDepth 20000 in
theorem gX12_opens_X12_next : GoodIn wsX12_opens (wsV RX12 301 RX12 yX12_next wsX12_next) := goodIn_app (goodIn_sub (fa_c (me_s (me_l (me_l (List.mem_of_getElem? (i := 9) rfl)))) (fa_c (me_s (me_l (me_l (List.mem_of_getElem? (i := 10) rfl)))) (fa_c (me_s (me_l (me_l (List.mem_of_getElem? (i := 11) rfl)))) (fa_c (me_s (me_l (me_l (List.mem_of_getElem? (i := 4) rfl)))) fa_n)))) (by decide +kernel)) ggX12_opens_X12_next
theorem dX12_opens_24 : decode cX12_opens 24 = .ok (.invokevirtual 301, 3) := z_dd_182 (by decide +kernel)
theorem dX12_opens_27 : decode cX12_opens 27 = .ok (.return_, 1) := z_dd_177 (by decide +kernel)
theorem dX12_opens_9 : decode cX12_opens 9 = .ok (.aload_n 0, 1) := z_dd_42 (by decide +kernel)
set_option maxRecDepth 20000 in
theorem ggX12_opens_X12_errs : GoodIn wsX12_opens wsX12_errs := goodIn_sub (fa_c (me_s (me_l (me_l (List.mem_of_getElem? (i := 5) rfl)))) (fa_a (fa_c (me_s (me_l (me_l (List.mem_of_getElem? (i := 6) rfl)))) (fa_c (me_s (me_l (me_l (List.mem_of_getElem? (i := 7) rfl)))) (fa_c (me_s (me_l (me_l (List.mem_of_getElem? (i := 8) rfl)))) fa_n))) (fun w h => (me_s (me_r h))))) (by decide +kernel)
set_option maxRecDepth 20000 in
theorem gX12_opens_X12_errs : GoodIn wsX12_opens (wsV RX12 304 RX12 yX12_errs wsX12_errs) := goodIn_app (goodIn_sub (fa_c (me_s (me_l (me_l (List.mem_of_getElem? (i := 1) rfl)))) (fa_c (me_s (me_l (me_l (List.mem_of_getElem? (i := 2) rfl)))) (fa_c (me_s (me_l (me_l (List.mem_of_getElem? (i := 3) rfl)))) (fa_c (me_s (me_l (me_l (List.mem_of_getElem? (i := 4) rfl)))) fa_n)))) (by decide +kernel)) ggX12_opens_X12_errs
theorem dX12_opens_10 : decode cX12_opens 10 = .ok (.invokevirtual 304, 3) := z_dd_182 (by decide +kernel)
theorem dX12_ruleOf_0 : decode cX12_ruleOf 0 = .ok (.lload_n 1, 1) := z_dd_31 (by decide +kernel)
theorem dX12_ruleOf_1 : decode cX12_ruleOf 1 = .ok (.ldc2_w 307, 3) := z_dd_20 (by decide +kernel)
theorem dX12_ruleOf_4 : decode cX12_ruleOf 4 = .ok (.lcmp, 1) := z_dd_148 (by decide +kernel)
theorem dX12_ruleOf_5 : decode cX12_ruleOf 5 = .ok (.ifCond .ne 5, 3) := z_dd_154 (by decide +kernel)
theorem dX12_ruleOf_10 : decode cX12_ruleOf 10 = .ok (.lload_n 1, 1) := z_dd_31 (by decide +kernel)
theorem dX12_ruleOf_11 : decode cX12_ruleOf 11 = .ok (.ldc2_w 309, 3) := z_dd_20 (by decide +kernel)
theorem dX12_ruleOf_14 : decode cX12_ruleOf 14 = .ok (.lcmp, 1) := z_dd_148 (by decide +kernel)
theorem dX12_ruleOf_15 : decode cX12_ruleOf 15 = .ok (.ifCond .ne 5, 3) := z_dd_154 (by decide +kernel)
theorem dX12_ruleOf_20 : decode cX12_ruleOf 20 = .ok (.lload_n 1, 1) := z_dd_31 (by decide +kernel)
theorem dX12_ruleOf_21 : decode cX12_ruleOf 21 = .ok (.ldc2_w 311, 3) := z_dd_20 (by decide +kernel)
theorem dX12_ruleOf_24 : decode cX12_ruleOf 24 = .ok (.lcmp, 1) := z_dd_148 (by decide +kernel)
theorem dX12_ruleOf_25 : decode cX12_ruleOf 25 = .ok (.ifCond .ne 5, 3) := z_dd_154 (by decide +kernel)
theorem dX12_ruleOf_30 : decode cX12_ruleOf 30 = .ok (.lload_n 1, 1) := z_dd_31 (by decide +kernel)
theorem dX12_ruleOf_31 : decode cX12_ruleOf 31 = .ok (.ldc2_w 313, 3) := z_dd_20 (by decide +kernel)
theorem dX12_ruleOf_34 : decode cX12_ruleOf 34 = .ok (.lcmp, 1) := z_dd_148 (by decide +kernel)
theorem dX12_ruleOf_35 : decode cX12_ruleOf 35 = .ok (.ifCond .ne 5, 3) := z_dd_154 (by decide +kernel)
theorem dX12_ruleOf_40 : decode cX12_ruleOf 40 = .ok (.lload_n 1, 1) := z_dd_31 (by decide +kernel)
theorem dX12_ruleOf_41 : decode cX12_ruleOf 41 = .ok (.ldc2_w 315, 3) := z_dd_20 (by decide +kernel)
theorem dX12_ruleOf_44 : decode cX12_ruleOf 44 = .ok (.lcmp, 1) := z_dd_148 (by decide +kernel)
theorem dX12_ruleOf_45 : decode cX12_ruleOf 45 = .ok (.ifCond .ne 5, 3) := z_dd_154 (by decide +kernel)
theorem dX12_ruleOf_50 : decode cX12_ruleOf 50 = .ok (.lload_n 1, 1) := z_dd_31 (by decide +kernel)
theorem dX12_ruleOf_51 : decode cX12_ruleOf 51 = .ok (.ldc2_w 317, 3) := z_dd_20 (by decide +kernel)
theorem dX12_ruleOf_54 : decode cX12_ruleOf 54 = .ok (.lcmp, 1) := z_dd_148 (by decide +kernel)
theorem dX12_ruleOf_55 : decode cX12_ruleOf 55 = .ok (.ifCond .ne 5, 3) := z_dd_154 (by decide +kernel)
theorem dX12_ruleOf_60 : decode cX12_ruleOf 60 = .ok (.lload_n 1, 1) := z_dd_31 (by decide +kernel)
theorem dX12_ruleOf_61 : decode cX12_ruleOf 61 = .ok (.ldc2_w 319, 3) := z_dd_20 (by decide +kernel)
theorem dX12_ruleOf_64 : decode cX12_ruleOf 64 = .ok (.lcmp, 1) := z_dd_148 (by decide +kernel)
theorem dX12_ruleOf_65 : decode cX12_ruleOf 65 = .ok (.ifCond .ne 6, 3) := z_dd_154 (by decide +kernel)
theorem dX12_ruleOf_71 : decode cX12_ruleOf 71 = .ok (.lload_n 1, 1) := z_dd_31 (by decide +kernel)
theorem dX12_ruleOf_72 : decode cX12_ruleOf 72 = .ok (.ldc2_w 321, 3) := z_dd_20 (by decide +kernel)
theorem dX12_ruleOf_75 : decode cX12_ruleOf 75 = .ok (.lcmp, 1) := z_dd_148 (by decide +kernel)
theorem dX12_ruleOf_76 : decode cX12_ruleOf 76 = .ok (.ifCond .ne 6, 3) := z_dd_154 (by decide +kernel)
theorem dX12_ruleOf_82 : decode cX12_ruleOf 82 = .ok (.iconst (-1), 1) := z_dd_2 (by decide +kernel)
theorem dX12_ruleOf_83 : decode cX12_ruleOf 83 = .ok (.ireturn, 1) := z_dd_172 (by decide +kernel)
theorem dX12_ruleOf_79 : decode cX12_ruleOf 79 = .ok (.bipush 7, 2) := z_dd_16 (by decide +kernel)
theorem dX12_ruleOf_81 : decode cX12_ruleOf 81 = .ok (.ireturn, 1) := z_dd_172 (by decide +kernel)
theorem dX12_ruleOf_68 : decode cX12_ruleOf 68 = .ok (.bipush 6, 2) := z_dd_16 (by decide +kernel)
theorem dX12_ruleOf_70 : decode cX12_ruleOf 70 = .ok (.ireturn, 1) := z_dd_172 (by decide +kernel)
theorem dX12_ruleOf_58 : decode cX12_ruleOf 58 = .ok (.iconst 5, 1) := z_dd_8 (by decide +kernel)
theorem dX12_ruleOf_59 : decode cX12_ruleOf 59 = .ok (.ireturn, 1) := z_dd_172 (by decide +kernel)
theorem dX12_ruleOf_48 : decode cX12_ruleOf 48 = .ok (.iconst 4, 1) := z_dd_7 (by decide +kernel)
theorem dX12_ruleOf_49 : decode cX12_ruleOf 49 = .ok (.ireturn, 1) := z_dd_172 (by decide +kernel)
theorem dX12_ruleOf_38 : decode cX12_ruleOf 38 = .ok (.iconst 3, 1) := z_dd_6 (by decide +kernel)
theorem dX12_ruleOf_39 : decode cX12_ruleOf 39 = .ok (.ireturn, 1) := z_dd_172 (by decide +kernel)
theorem dX12_ruleOf_28 : decode cX12_ruleOf 28 = .ok (.iconst 2, 1) := z_dd_5 (by decide +kernel)
theorem dX12_ruleOf_29 : decode cX12_ruleOf 29 = .ok (.ireturn, 1) := z_dd_172 (by decide +kernel)
theorem dX12_ruleOf_18 : decode cX12_ruleOf 18 = .ok (.iconst 1, 1) := z_dd_4 (by decide +kernel)
theorem dX12_ruleOf_19 : decode cX12_ruleOf 19 = .ok (.ireturn, 1) := z_dd_172 (by decide +kernel)
theorem dX12_ruleOf_8 : decode cX12_ruleOf 8 = .ok (.iconst 0, 1) := z_dd_3 (by decide +kernel)
theorem dX12_ruleOf_9 : decode cX12_ruleOf 9 = .ok (.ireturn, 1) := z_dd_172 (by decide +kernel)
theorem dX12_nameOf_0 : decode cX12_nameOf 0 = .ok (.lload_n 1, 1) := z_dd_31 (by decide +kernel)
theorem dX12_nameOf_1 : decode cX12_nameOf 1 = .ok (.ldc2_w 323, 3) := z_dd_20 (by decide +kernel)
theorem dX12_nameOf_4 : decode cX12_nameOf 4 = .ok (.lcmp, 1) := z_dd_148 (by decide +kernel)
theorem dX12_nameOf_5 : decode cX12_nameOf 5 = .ok (.ifCond .ne 5, 3) := z_dd_154 (by decide +kernel)
theorem dX12_nameOf_10 : decode cX12_nameOf 10 = .ok (.lload_n 1, 1) := z_dd_31 (by decide +kernel)
theorem dX12_nameOf_11 : decode cX12_nameOf 11 = .ok (.ldc2_w 325, 3) := z_dd_20 (by decide +kernel)
theorem dX12_nameOf_14 : decode cX12_nameOf 14 = .ok (.lcmp, 1) := z_dd_148 (by decide +kernel)
theorem dX12_nameOf_15 : decode cX12_nameOf 15 = .ok (.ifCond .ne 5, 3) := z_dd_154 (by decide +kernel)
theorem dX12_nameOf_20 : decode cX12_nameOf 20 = .ok (.lload_n 1, 1) := z_dd_31 (by decide +kernel)
theorem dX12_nameOf_21 : decode cX12_nameOf 21 = .ok (.ldc2_w 327, 3) := z_dd_20 (by decide +kernel)
theorem dX12_nameOf_24 : decode cX12_nameOf 24 = .ok (.lcmp, 1) := z_dd_148 (by decide +kernel)
theorem dX12_nameOf_25 : decode cX12_nameOf 25 = .ok (.ifCond .ne 5, 3) := z_dd_154 (by decide +kernel)
theorem dX12_nameOf_30 : decode cX12_nameOf 30 = .ok (.lload_n 1, 1) := z_dd_31 (by decide +kernel)
theorem dX12_nameOf_31 : decode cX12_nameOf 31 = .ok (.ldc2_w 329, 3) := z_dd_20 (by decide +kernel)
theorem dX12_nameOf_34 : decode cX12_nameOf 34 = .ok (.lcmp, 1) := z_dd_148 (by decide +kernel)
theorem dX12_nameOf_35 : decode cX12_nameOf 35 = .ok (.ifCond .ne 5, 3) := z_dd_154 (by decide +kernel)
theorem dX12_nameOf_40 : decode cX12_nameOf 40 = .ok (.lload_n 1, 1) := z_dd_31 (by decide +kernel)
theorem dX12_nameOf_41 : decode cX12_nameOf 41 = .ok (.ldc2_w 331, 3) := z_dd_20 (by decide +kernel)
theorem dX12_nameOf_44 : decode cX12_nameOf 44 = .ok (.lcmp, 1) := z_dd_148 (by decide +kernel)
theorem dX12_nameOf_45 : decode cX12_nameOf 45 = .ok (.ifCond .ne 5, 3) := z_dd_154 (by decide +kernel)
theorem dX12_nameOf_50 : decode cX12_nameOf 50 = .ok (.lload_n 1, 1) := z_dd_31 (by decide +kernel)
theorem dX12_nameOf_51 : decode cX12_nameOf 51 = .ok (.ldc2_w 333, 3) := z_dd_20 (by decide +kernel)
theorem dX12_nameOf_54 : decode cX12_nameOf 54 = .ok (.lcmp, 1) := z_dd_148 (by decide +kernel)
theorem dX12_nameOf_55 : decode cX12_nameOf 55 = .ok (.ifCond .ne 5, 3) := z_dd_154 (by decide +kernel)
theorem dX12_nameOf_60 : decode cX12_nameOf 60 = .ok (.lload_n 1, 1) := z_dd_31 (by decide +kernel)
theorem dX12_nameOf_61 : decode cX12_nameOf 61 = .ok (.ldc2_w 335, 3) := z_dd_20 (by decide +kernel)
theorem dX12_nameOf_64 : decode cX12_nameOf 64 = .ok (.lcmp, 1) := z_dd_148 (by decide +kernel)
theorem dX12_nameOf_65 : decode cX12_nameOf 65 = .ok (.ifCond .ne 6, 3) := z_dd_154 (by decide +kernel)
theorem dX12_nameOf_71 : decode cX12_nameOf 71 = .ok (.iconst (-1), 1) := z_dd_2 (by decide +kernel)
theorem dX12_nameOf_72 : decode cX12_nameOf 72 = .ok (.ireturn, 1) := z_dd_172 (by decide +kernel)
theorem dX12_nameOf_68 : decode cX12_nameOf 68 = .ok (.bipush 6, 2) := z_dd_16 (by decide +kernel)
theorem dX12_nameOf_70 : decode cX12_nameOf 70 = .ok (.ireturn, 1) := z_dd_172 (by decide +kernel)
theorem dX12_nameOf_58 : decode cX12_nameOf 58 = .ok (.iconst 5, 1) := z_dd_8 (by decide +kernel)
theorem dX12_nameOf_59 : decode cX12_nameOf 59 = .ok (.ireturn, 1) := z_dd_172 (by decide +kernel)
theorem dX12_nameOf_48 : decode cX12_nameOf 48 = .ok (.iconst 4, 1) := z_dd_7 (by decide +kernel)
theorem dX12_nameOf_49 : decode cX12_nameOf 49 = .ok (.ireturn, 1) := z_dd_172 (by decide +kernel)
theorem dX12_nameOf_38 : decode cX12_nameOf 38 = .ok (.iconst 3, 1) := z_dd_6 (by decide +kernel)
theorem dX12_nameOf_39 : decode cX12_nameOf 39 = .ok (.ireturn, 1) := z_dd_172 (by decide +kernel)
theorem dX12_nameOf_28 : decode cX12_nameOf 28 = .ok (.iconst 2, 1) := z_dd_5 (by decide +kernel)
theorem dX12_nameOf_29 : decode cX12_nameOf 29 = .ok (.ireturn, 1) := z_dd_172 (by decide +kernel)
theorem dX12_nameOf_18 : decode cX12_nameOf 18 = .ok (.iconst 1, 1) := z_dd_4 (by decide +kernel)
theorem dX12_nameOf_19 : decode cX12_nameOf 19 = .ok (.ireturn, 1) := z_dd_172 (by decide +kernel)
theorem dX12_nameOf_8 : decode cX12_nameOf 8 = .ok (.iconst 0, 1) := z_dd_3 (by decide +kernel)
theorem dX12_nameOf_9 : decode cX12_nameOf 9 = .ok (.ireturn, 1) := z_dd_172 (by decide +kernel)
theorem dX12_node_0 : decode cX12_node 0 = .ok (.aload_n 0, 1) := z_dd_42 (by decide +kernel)
theorem dX12_node_1 : decode cX12_node 1 = .ok (.getfield 70, 3) := z_dd_180 (by decide +kernel)
theorem dX12_node_4 : decode cX12_node 4 = .ok (.aload_n 0, 1) := z_dd_42 (by decide +kernel)
theorem dX12_node_5 : decode cX12_node 5 = .ok (.getfield 337, 3) := z_dd_180 (by decide +kernel)
theorem dX12_node_8 : decode cX12_node 8 = .ok (.iload_n 1, 1) := z_dd_27 (by decide +kernel)
theorem dX12_node_9 : decode cX12_node 9 = .ok (.iastore, 1) := z_dd_79 (by decide +kernel)
theorem dX12_node_10 : decode cX12_node 10 = .ok (.aload_n 0, 1) := z_dd_42 (by decide +kernel)
theorem dX12_node_11 : decode cX12_node 11 = .ok (.getfield 73, 3) := z_dd_180 (by decide +kernel)
theorem dX12_node_14 : decode cX12_node 14 = .ok (.aload_n 0, 1) := z_dd_42 (by decide +kernel)
theorem dX12_node_15 : decode cX12_node 15 = .ok (.getfield 337, 3) := z_dd_180 (by decide +kernel)
theorem dX12_node_18 : decode cX12_node 18 = .ok (.iload_n 2, 1) := z_dd_28 (by decide +kernel)
theorem dX12_node_19 : decode cX12_node 19 = .ok (.iastore, 1) := z_dd_79 (by decide +kernel)
theorem dX12_node_20 : decode cX12_node 20 = .ok (.aload_n 0, 1) := z_dd_42 (by decide +kernel)
theorem dX12_node_21 : decode cX12_node 21 = .ok (.getfield 76, 3) := z_dd_180 (by decide +kernel)
theorem dX12_node_24 : decode cX12_node 24 = .ok (.aload_n 0, 1) := z_dd_42 (by decide +kernel)
theorem dX12_node_25 : decode cX12_node 25 = .ok (.getfield 337, 3) := z_dd_180 (by decide +kernel)
theorem dX12_node_28 : decode cX12_node 28 = .ok (.iload_n 3, 1) := z_dd_29 (by decide +kernel)
theorem dX12_node_29 : decode cX12_node 29 = .ok (.iastore, 1) := z_dd_79 (by decide +kernel)
theorem dX12_node_30 : decode cX12_node 30 = .ok (.aload_n 0, 1) := z_dd_42 (by decide +kernel)
theorem dX12_node_31 : decode cX12_node 31 = .ok (.dup, 1) := z_dd_89 (by decide +kernel)
theorem dX12_node_32 : decode cX12_node 32 = .ok (.getfield 337, 3) := z_dd_180 (by decide +kernel)
theorem dX12_node_35 : decode cX12_node 35 = .ok (.iconst 1, 1) := z_dd_4 (by decide +kernel)
theorem dX12_node_36 : decode cX12_node 36 = .ok (.iadd, 1) := z_dd_96 (by decide +kernel)
theorem dX12_node_37 : decode cX12_node 37 = .ok (.putfield 337, 3) := z_dd_181 (by decide +kernel)
theorem dX12_node_40 : decode cX12_node 40 = .ok (.aload_n 0, 1) := z_dd_42 (by decide +kernel)
theorem dX12_node_41 : decode cX12_node 41 = .ok (.getfield 337, 3) := z_dd_180 (by decide +kernel)
theorem dX12_node_44 : decode cX12_node 44 = .ok (.iconst 1, 1) := z_dd_4 (by decide +kernel)
theorem dX12_node_45 : decode cX12_node 45 = .ok (.isub, 1) := z_dd_100 (by decide +kernel)
theorem dX12_node_46 : decode cX12_node 46 = .ok (.ireturn, 1) := z_dd_172 (by decide +kernel)
theorem dX12_begin_0 : decode cX12_begin 0 = .ok (.aload_n 0, 1) := z_dd_42 (by decide +kernel)
theorem dX12_begin_1 : decode cX12_begin 1 = .ok (.getfield 91, 3) := z_dd_180 (by decide +kernel)
theorem dX12_begin_4 : decode cX12_begin 4 = .ok (.aload_n 0, 1) := z_dd_42 (by decide +kernel)
theorem dX12_begin_5 : decode cX12_begin 5 = .ok (.getfield 340, 3) := z_dd_180 (by decide +kernel)
theorem dX12_begin_8 : decode cX12_begin 8 = .ok (.iload_n 1, 1) := z_dd_27 (by decide +kernel)
theorem dX12_begin_9 : decode cX12_begin 9 = .ok (.iastore, 1) := z_dd_79 (by decide +kernel)
theorem dX12_begin_10 : decode cX12_begin 10 = .ok (.aload_n 0, 1) := z_dd_42 (by decide +kernel)
theorem dX12_begin_11 : decode cX12_begin 11 = .ok (.getfield 94, 3) := z_dd_180 (by decide +kernel)
theorem dX12_begin_14 : decode cX12_begin 14 = .ok (.aload_n 0, 1) := z_dd_42 (by decide +kernel)
theorem dX12_begin_15 : decode cX12_begin 15 = .ok (.getfield 340, 3) := z_dd_180 (by decide +kernel)
theorem dX12_begin_18 : decode cX12_begin 18 = .ok (.iconst 0, 1) := z_dd_3 (by decide +kernel)
theorem dX12_begin_19 : decode cX12_begin 19 = .ok (.iastore, 1) := z_dd_79 (by decide +kernel)
theorem dX12_begin_20 : decode cX12_begin 20 = .ok (.aload_n 0, 1) := z_dd_42 (by decide +kernel)
theorem dX12_begin_21 : decode cX12_begin 21 = .ok (.getfield 97, 3) := z_dd_180 (by decide +kernel)
theorem dX12_begin_24 : decode cX12_begin 24 = .ok (.aload_n 0, 1) := z_dd_42 (by decide +kernel)
theorem dX12_begin_25 : decode cX12_begin 25 = .ok (.getfield 340, 3) := z_dd_180 (by decide +kernel)
theorem dX12_begin_28 : decode cX12_begin 28 = .ok (.iconst (-1), 1) := z_dd_2 (by decide +kernel)
theorem dX12_begin_29 : decode cX12_begin 29 = .ok (.iastore, 1) := z_dd_79 (by decide +kernel)
theorem dX12_begin_30 : decode cX12_begin 30 = .ok (.aload_n 0, 1) := z_dd_42 (by decide +kernel)
theorem dX12_begin_31 : decode cX12_begin 31 = .ok (.getfield 100, 3) := z_dd_180 (by decide +kernel)
theorem dX12_begin_34 : decode cX12_begin 34 = .ok (.aload_n 0, 1) := z_dd_42 (by decide +kernel)
theorem dX12_begin_35 : decode cX12_begin 35 = .ok (.getfield 340, 3) := z_dd_180 (by decide +kernel)
theorem dX12_begin_38 : decode cX12_begin 38 = .ok (.iconst 0, 1) := z_dd_3 (by decide +kernel)
theorem dX12_begin_39 : decode cX12_begin 39 = .ok (.iastore, 1) := z_dd_79 (by decide +kernel)
theorem dX12_begin_40 : decode cX12_begin 40 = .ok (.aload_n 0, 1) := z_dd_42 (by decide +kernel)
theorem dX12_begin_41 : decode cX12_begin 41 = .ok (.dup, 1) := z_dd_89 (by decide +kernel)
theorem dX12_begin_42 : decode cX12_begin 42 = .ok (.getfield 340, 3) := z_dd_180 (by decide +kernel)
theorem dX12_begin_45 : decode cX12_begin 45 = .ok (.iconst 1, 1) := z_dd_4 (by decide +kernel)
theorem dX12_begin_46 : decode cX12_begin 46 = .ok (.iadd, 1) := z_dd_96 (by decide +kernel)
theorem dX12_begin_47 : decode cX12_begin 47 = .ok (.putfield 340, 3) := z_dd_181 (by decide +kernel)
theorem dX12_begin_50 : decode cX12_begin 50 = .ok (.return_, 1) := z_dd_177 (by decide +kernel)
theorem dX12_ends_0 : decode cX12_ends 0 = .ok (.aload_n 0, 1) := z_dd_42 (by decide +kernel)
theorem dX12_ends_1 : decode cX12_ends 1 = .ok (.iload_n 1, 1) := z_dd_27 (by decide +kernel)
theorem dX12_ends_2 : decode cX12_ends 2 = .ok (.putfield 343, 3) := z_dd_181 (by decide +kernel)
theorem dX12_ends_5 : decode cX12_ends 5 = .ok (.aload_n 0, 1) := z_dd_42 (by decide +kernel)
theorem dX12_ends_6 : decode cX12_ends 6 = .ok (.dup, 1) := z_dd_89 (by decide +kernel)
theorem dX12_ends_7 : decode cX12_ends 7 = .ok (.getfield 340, 3) := z_dd_180 (by decide +kernel)
theorem dX12_ends_10 : decode cX12_ends 10 = .ok (.iconst 1, 1) := z_dd_4 (by decide +kernel)
theorem dX12_ends_11 : decode cX12_ends 11 = .ok (.isub, 1) := z_dd_100 (by decide +kernel)
theorem dX12_ends_12 : decode cX12_ends 12 = .ok (.putfield 340, 3) := z_dd_181 (by decide +kernel)
theorem dX12_ends_15 : decode cX12_ends 15 = .ok (.return_, 1) := z_dd_177 (by decide +kernel)
theorem z_l32 : (32 : Int32).toInt = 32 := by decide
theorem z_l40 : (40 : Int32).toInt = 40 := by decide
theorem z_l41 : (41 : Int32).toInt = 41 := by decide
theorem z_l42 : (42 : Int32).toInt = 42 := by decide
theorem z_l43 : (43 : Int32).toInt = 43 := by decide
theorem z_l44 : (44 : Int32).toInt = 44 := by decide
theorem z_l45 : (45 : Int32).toInt = 45 := by decide
theorem z_l47 : (47 : Int32).toInt = 47 := by decide
theorem z_l48 : (48 : Int32).toInt = 48 := by decide
theorem z_l57 : (57 : Int32).toInt = 57 := by decide
theorem z_l61 : (61 : Int32).toInt = 61 := by decide
theorem z_l62 : (62 : Int32).toInt = 62 := by decide
theorem z_l97 : (97 : Int32).toInt = 97 := by decide
theorem z_l122 : (122 : Int32).toInt = 122 := by decide
theorem z_l123 : (123 : Int32).toInt = 123 := by decide
theorem z_l125 : (125 : Int32).toInt = 125 := by decide
noncomputable def z_irq (I : z_I) : Prop := 0 ≤ (I 0 34).toInt ∧ (I 0 34).toInt ≤ (I 0 33).toInt ∧ (I 0 33).toInt ≤ 500
noncomputable def z_iru (I : z_I) : Prop := 0 ≤ (I 0 35).toInt ∧ (I 0 35).toInt ≤ (I 0 34).toInt ∧ (I 0 34).toInt ≤ (I 0 33).toInt ∧ (I 0 33).toInt ≤ 500
noncomputable def z_irp (I : z_I) : Prop := 0 ≤ (I 0 35).toInt ∧ (I 0 35).toInt ≤ (I 0 34).toInt ∧ (I 0 34).toInt ≤ (I 0 33).toInt ∧ (I 0 33).toInt ≤ 500 ∧ ((I 0 36).toInt = 0 ∨ (I 0 35).toInt + 1 ≤ (I 0 34).toInt)

/-- what here() says -/
noncomputable def z_hr (I : z_I) : Int32 := if (I 0 33).toInt ≤ (I 0 34).toInt then -1 else I 25 (I 0 34).toNatClampNeg &&& 255
theorem z_hr_c {I K : z_I} (h1 : K 0 34 = I 0 34) (h2 : K 0 33 = I 0 33) (h3 : ∀ k, K 25 k = I 25 k) : z_hr K = z_hr I := by
  unfold z_hr
  rw [h1, h2, h3]
/-! the parser's stack: what its rows hold, how deep it may be, how much it may still make -/
noncomputable def z_fo (w a : Int) : Int := if (w = 2 ∧ a ≠ 0) ∨ (w = 5 ∧ (a = 1 ∨ a = 2)) then 1 else 0
noncomputable def z_rk (w : Int) : Int := if w = 3 then 0 else if w = 4 then 1 else if w = 5 then 2 else if w = 0 then 3 else if w = 1 then 4 else 5
noncomputable def z_fw (w a o : Int) : Int := if w = 0 then (if a = 0 then 5 else if o < 0 then 1 else 1001) else if w = 1 then (if a = 0 then 3 else if o < 0 then 1 else 1001) else if w = 2 then (if a = 0 then 1 else 0) else if w = 3 then (if a = 0 then 10 else if o < 0 then 1 else 1001) else if w = 4 then (if a = 0 then 8 else if o < 0 then 1 else 1001) else (if a = 0 then 6 else if a = 1 ∨ a = 4 then 1001 else 0)
noncomputable def z_fv (w a o s : Int) : Prop := 0 ≤ w ∧ w ≤ 5 ∧ 0 ≤ a ∧ a ≤ 4 ∧ -1 ≤ o ∧ o ≤ 6199 ∧ (a ≠ 0 ∨ o < 0) ∧ (a ≠ 4 ∨ 0 ≤ o) ∧ (a ≠ 3 ∨ w = 5 ∨ 0 ≤ o) ∧ s ≠ 1
noncomputable def z_sop (I : z_I) : Nat → Int
  | 0 => 0
  | n + 1 => z_sop I n + z_fo (I 26 n).toInt (I 27 n).toInt
noncomputable def z_sw (I : z_I) : Nat → Int
  | 0 => 0
  | n + 1 => z_sw I n + z_fw (I 26 n).toInt (I 27 n).toInt (I 28 n).toInt
noncomputable def z_fip (I : z_I) (i : Nat) : Prop := z_fv (I 26 i).toInt (I 27 i).toInt (I 28 i).toInt (I 29 i).toInt ∧ (i : Int) ≤ z_rk (I 26 i).toInt + 3 * z_sop I i
noncomputable def z_PS (I : z_I) (n : Nat) (B : Int) : Prop := (I 0 47).toInt = (n : Int) ∧ (∀ i, i < n → z_fip I i) ∧ z_sop I n = (I 0 39).toInt ∧ (I 0 39).toInt ≤ 9 ∧ 1010 * (500 - (I 0 35).toInt) + 1000 * (I 0 15).toInt + z_sw I n ≤ B ∧ B ≤ 6100000 ∧ (I 0 35).toInt ≤ 500 ∧ 0 ≤ (I 0 15).toInt
theorem z_fo_b (w a : Int) : 0 ≤ z_fo w a ∧ z_fo w a ≤ 1 := by
  unfold z_fo
  split <;> omega
theorem z_fw_b (w a o : Int) : 0 ≤ z_fw w a o := by
  unfold z_fw
  repeat' split
  all_goals omega
theorem z_rk_b (w : Int) : 0 ≤ z_rk w ∧ z_rk w ≤ 5 := by
  unfold z_rk
  repeat' split
  all_goals omega
theorem z_sop_b (I : z_I) : ∀ n, 0 ≤ z_sop I n
  | 0 => Int.le_refl 0
  | n + 1 => by
    have h1 := z_sop_b I n
    have h2 := z_fo_b (I 26 n).toInt (I 27 n).toInt
    show 0 ≤ z_sop I n + z_fo (I 26 n).toInt (I 27 n).toInt
    omega
theorem z_sw_b (I : z_I) : ∀ n, 0 ≤ z_sw I n
  | 0 => Int.le_refl 0
  | n + 1 => by
    have h1 := z_sw_b I n
    have h2 := z_fw_b (I 26 n).toInt (I 27 n).toInt (I 28 n).toInt
    show 0 ≤ z_sw I n + z_fw (I 26 n).toInt (I 27 n).toInt (I 28 n).toInt
    omega
noncomputable def z_eq4 (K I : z_I) (i : Nat) : Prop := K 26 i = I 26 i ∧ K 27 i = I 27 i ∧ K 28 i = I 28 i ∧ K 29 i = I 29 i
theorem z_sop_c {I K : z_I} : ∀ n, (∀ i, i < n → z_eq4 K I i) → z_sop K n = z_sop I n
  | 0, _ => rfl
  | n + 1, h => by
    have h1 := h n (by omega)
    show z_sop K n + z_fo (K 26 n).toInt (K 27 n).toInt = z_sop I n + z_fo (I 26 n).toInt (I 27 n).toInt
    rw [z_sop_c n (fun i hi => h i (by omega)), h1.1, h1.2.1]
theorem z_sw_c {I K : z_I} : ∀ n, (∀ i, i < n → z_eq4 K I i) → z_sw K n = z_sw I n
  | 0, _ => rfl
  | n + 1, h => by
    have h1 := h n (by omega)
    show z_sw K n + z_fw (K 26 n).toInt (K 27 n).toInt (K 28 n).toInt = z_sw I n + z_fw (I 26 n).toInt (I 27 n).toInt (I 28 n).toInt
    rw [z_sw_c n (fun i hi => h i (by omega)), h1.1, h1.2.1, h1.2.2.1]
theorem z_fip_c {I K : z_I} {i : Nat} (h : ∀ j, j < i + 1 → z_eq4 K I j) (hi : z_fip I i) : z_fip K i := by
  have h1 := h i (by omega)
  unfold z_fip
  rw [z_sop_c i (fun j hj => h j (by omega)), h1.1, h1.2.1, h1.2.2.1, h1.2.2.2]
  exact hi
theorem z_top {I : z_I} {d : Nat} {B : Int} (h : z_PS I (d + 1) B) : (I 0 47).toInt = (d : Int) + 1 ∧ (d : Int) ≤ 33 ∧ (d : Int) ≤ z_rk (I 26 d).toInt + 3 * z_sop I d ∧ z_sop I d + z_fo (I 26 d).toInt (I 27 d).toInt = (I 0 39).toInt ∧ 0 ≤ z_sop I d ∧ (I 0 39).toInt ≤ 9 ∧ 0 ≤ z_sw I d ∧ 1010 * (500 - (I 0 35).toInt) + 1000 * (I 0 15).toInt + (z_sw I d + z_fw (I 26 d).toInt (I 27 d).toInt (I 28 d).toInt) ≤ B ∧ B ≤ 6100000 ∧ (I 0 35).toInt ≤ 500 ∧ 0 ≤ (I 0 15).toInt ∧ z_fv (I 26 d).toInt (I 27 d).toInt (I 28 d).toInt (I 29 d).toInt := by
  obtain ⟨h1, h2, h3, h4, h5, h6, h7, h8⟩ := h
  have hd := h2 d (by omega)
  have b1 := z_sop_b I d
  have b2 := z_sw_b I d
  have b3 := z_rk_b (I 26 d).toInt
  have b4 := z_fo_b (I 26 d).toInt (I 27 d).toInt
  have h3 : z_sop I d + z_fo (I 26 d).toInt (I 27 d).toInt = (I 0 39).toInt := h3
  have h5 : 1010 * (500 - (I 0 35).toInt) + 1000 * (I 0 15).toInt + (z_sw I d + z_fw (I 26 d).toInt (I 27 d).toInt (I 28 d).toInt) ≤ B := h5
  exact ⟨by omega, by have := hd.2; omega, hd.2, h3, b1, h4, b2, h5, h6, h7, h8, hd.1⟩
theorem z_psn {I : z_I} {n : Nat} {B : Int} (h : z_PS I n B) : (I 0 47).toInt = (n : Int) ∧ (n : Int) ≤ 34 ∧ (I 0 39).toInt ≤ 9 ∧ 0 ≤ (I 0 39).toInt ∧ 1010 * (500 - (I 0 35).toInt) + 1000 * (I 0 15).toInt ≤ B ∧ 0 ≤ B ∧ B ≤ 6100000 := by
  have b1 := z_sop_b I n
  have b2 := z_sw_b I n
  obtain ⟨h1, h2, h3, h4, h5, h6, h7, h8⟩ := h
  have hn : (n : Int) ≤ 34 := by
    cases n with
    | zero => omega
    | succ d =>
      have := (z_top ⟨h1, h2, h3, h4, h5, h6, h7, h8⟩).2.1
      omega
  exact ⟨h1, hn, h4, by omega, by omega, by omega, h6⟩
theorem z_pst {I : z_I} {n : Nat} {B : Int} {x : Int32} (h : z_PS I n B) (hx : x.toInt = (I 0 47).toInt - 1) (hd : 0 < (I 0 47).toInt) : z_PS I (x.toNatClampNeg + 1) B := by
  have h1 := h.1
  have h2 := z_clt hx (by omega)
  have h3 : x.toNatClampNeg + 1 = n := by omega
  rw [h3]
  exact h
/-- what begin does -/
noncomputable def z_BG (J K : z_I) (w : Int32) : Prop := (∀ i, i ≠ (J 0 47).toNatClampNeg → z_eq4 K J i) ∧ K 26 (J 0 47).toNatClampNeg = w ∧ (K 27 (J 0 47).toNatClampNeg).toInt = 0 ∧ (K 28 (J 0 47).toNatClampNeg).toInt = -1 ∧ (K 29 (J 0 47).toNatClampNeg).toInt = 0 ∧ (K 0 47).toInt = (J 0 47).toInt + 1
theorem z_fo_0 (w : Int) : z_fo w 0 = 0 := by
  unfold z_fo
  rw [if_neg (by omega)]
theorem z_PUSH {I J K : z_I} {d : Nat} {B B1 : Int} {w2 : Int32} {wi w a o s : Int} (h : z_PS I (d + 1) B) (hb : ∀ i, i < d → z_eq4 J I i) (hW : (J 26 d).toInt = w) (hA : (J 27 d).toInt = a) (hO : (J 28 d).toInt = o) (hS : (J 29 d).toInt = s) (hv : z_fv w a o s) (hwI : (I 26 d).toInt = w)
    (hd : (J 0 47).toInt = (d : Int) + 1) (hg : z_BG J K w2) (hw2 : w2.toInt = wi) (hw3 : 0 ≤ wi ∧ wi ≤ 5) (hr : z_rk w + 1 ≤ z_rk wi + 3 * z_fo w a) (ho : (K 0 39).toInt = z_sop I d + z_fo w a) (ho9 : (K 0 39).toInt ≤ 9)
    (hB : 1010 * (500 - (K 0 35).toInt) + 1000 * (K 0 15).toInt + (z_sw I d + z_fw w a o + z_fw wi 0 (-1)) ≤ B1) (hB1 : B1 ≤ 6100000) (hf : (K 0 35).toInt ≤ 500) (hn : 0 ≤ (K 0 15).toInt) : z_PS K (d + 2) B1 := by
  obtain ⟨g1, g2, g3, g4, g5, g6⟩ := hg
  have hk : (J 0 47).toNatClampNeg = d + 1 := by have := z_clt (x := J 0 47) hd (by omega); omega
  rw [hk] at g1 g2 g3 g4 g5
  have hbK : ∀ i, i < d → z_eq4 K I i := fun i hi => by
    have q1 := g1 i (by omega)
    have q2 := hb i hi
    exact ⟨q1.1.trans q2.1, q1.2.1.trans q2.2.1, q1.2.2.1.trans q2.2.2.1, q1.2.2.2.trans q2.2.2.2⟩
  have qd := g1 d (by omega)
  have eW : (K 26 d).toInt = w := by rw [qd.1]; exact hW
  have eA : (K 27 d).toInt = a := by rw [qd.2.1]; exact hA
  have eO : (K 28 d).toInt = o := by rw [qd.2.2.1]; exact hO
  have eS : (K 29 d).toInt = s := by rw [qd.2.2.2]; exact hS
  have eW2 : (K 26 (d + 1)).toInt = wi := by rw [g2]; exact hw2
  have s1 : z_sop K (d + 1) = z_sop I d + z_fo w a := by
    show z_sop K d + z_fo (K 26 d).toInt (K 27 d).toInt = _
    rw [z_sop_c d hbK, eW, eA]
  have s2 : z_sop K (d + 2) = z_sop I d + z_fo w a := by
    show z_sop K (d + 1) + z_fo (K 26 (d + 1)).toInt (K 27 (d + 1)).toInt = _
    rw [s1, eW2, g3, z_fo_0]
    omega
  have w1 : z_sw K (d + 2) = z_sw I d + z_fw w a o + z_fw wi 0 (-1) := by
    show z_sw K d + z_fw (K 26 d).toInt (K 27 d).toInt (K 28 d).toInt + z_fw (K 26 (d + 1)).toInt (K 27 (d + 1)).toInt (K 28 (d + 1)).toInt = _
    rw [z_sw_c d hbK, eW, eA, eO, eW2, g3, g4]
  have ht := z_top h
  rw [hwI] at ht
  refine ⟨by omega, fun i hi => ?_, by rw [s2]; exact ho.symm, ho9, by omega, hB1, hf, hn⟩
  by_cases q1 : i < d
  · exact z_fip_c (fun j hj => hbK j (by omega)) (h.2.1 i (by omega))
  · by_cases q2 : i = d
    · subst q2
      unfold z_fip
      rw [eW, eA, eO, eS, z_sop_c i hbK]
      exact ⟨hv, by omega⟩
    · have q3 : i = d + 1 := by omega
      subst q3
      unfold z_fip z_fv
      rw [eW2, g3, g4, g5, s1]
      have b := z_rk_b wi
      have b2 := z_fo_b w a
      refine ⟨⟨by omega, by omega, by omega, by omega, by omega, by omega, by omega, by omega, by omega, by omega⟩, by omega⟩
theorem z_POP {I K : z_I} {d : Nat} {B B1 : Int} (h : z_PS I (d + 1) B) (hb : ∀ i, i < d → z_eq4 K I i) (hd : (K 0 47).toInt = (d : Int)) (ho : (K 0 39).toInt = z_sop I d) (hB : 1010 * (500 - (K 0 35).toInt) + 1000 * (K 0 15).toInt + z_sw I d ≤ B1) (hB1 : B1 ≤ 6100000) (hf : (K 0 35).toInt ≤ 500) (hn : 0 ≤ (K 0 15).toInt) : z_PS K d B1 := by
  have ht := z_top h
  have hfo := z_fo_b (I 26 d).toInt (I 27 d).toInt
  refine ⟨hd, fun i hi => z_fip_c (fun j hj => hb j (by omega)) (h.2.1 i (by omega)), by rw [z_sop_c d hb]; exact ho.symm, by omega, by rw [z_sw_c d hb]; exact hB, hB1, hf, hn⟩
theorem z_START {J K : z_I} {w2 : Int32} {wi : Int} {B : Int} (hg : z_BG J K w2) (hw2 : w2.toInt = wi) (hw3 : 0 ≤ wi ∧ wi ≤ 5) (hd : (J 0 47).toInt = 0) (ho : (K 0 39).toInt = 0) (hB : 1010 * (500 - (K 0 35).toInt) + 1000 * (K 0 15).toInt + 10 ≤ B) (hB1 : B ≤ 6100000) (hf : (K 0 35).toInt ≤ 500) (hn : 0 ≤ (K 0 15).toInt) : z_PS K 1 B := by
  obtain ⟨g1, g2, g3, g4, g5, g6⟩ := hg
  have hk : (J 0 47).toNatClampNeg = 0 := by have := z_clt (x := J 0 47) hd (by omega); omega
  rw [hk] at g2 g3 g4 g5
  have eW : (K 26 0).toInt = wi := by rw [g2]; exact hw2
  have s1 : z_sop K 1 = 0 := by
    show 0 + z_fo (K 26 0).toInt (K 27 0).toInt = 0
    rw [g3, z_fo_0]
    rfl
  have b2 : z_fw wi 0 (-1) ≤ 10 := by
    unfold z_fw
    repeat' split
    all_goals omega
  have w1 : z_sw K 1 = z_fw wi 0 (-1) := by
    show 0 + z_fw (K 26 0).toInt (K 27 0).toInt (K 28 0).toInt = _
    rw [eW, g3, g4]
    omega
  refine ⟨by rw [g6, hd]; rfl, fun i hi => ?_, by rw [s1]; exact ho.symm, by omega, by omega, hB1, hf, hn⟩
  have q : i = 0 := by omega
  subst q
  have b := z_rk_b wi
  unfold z_fip z_fv
  rw [eW, g3, g4, g5]
  refine ⟨⟨by omega, by omega, by omega, by omega, by omega, by omega, by omega, by omega, by omega, by omega⟩, ?_⟩
  show (0 : Int) ≤ z_rk wi + 3 * 0
  omega
theorem z_Nd_w {I K1 K2 K3 : z_I} {n : Nat} {k a b : Int32} (h : z_Nd I) (e1 : K1 = z_up I 21 n k) (e2 : K2 = z_up K1 22 n a) (e3 : K3 = z_up K2 23 n b) (h1 : k.toInt ≤ 1 ∨ (0 ≤ a.toInt ∧ a.toInt ≤ 6199)) (h2 : ¬ k.toInt = 1 ∨ (0 ≤ a.toInt ∧ a.toInt ≤ 6)) (h3 : k.toInt ≤ 1 ∨ k.toInt = 11 ∨ (0 ≤ b.toInt ∧ b.toInt ≤ 6199)) : z_Nd K3 := fun i => by
  by_cases q : i = n
  · subst q
    have eK : K3 21 i = k := by rw [e3, z_up_n (by decide), e2, z_up_n (by decide), e1, z_up_s]
    have eA : K3 22 i = a := by rw [e3, z_up_n (by decide), e2, z_up_s]
    have eB : K3 23 i = b := by rw [e3, z_up_s]
    rw [eK, eA, eB]
    exact ⟨h1, h2, h3⟩
  · have eK : K3 21 i = I 21 i := by rw [e3, z_up_n (by decide), e2, z_up_n (by decide), e1, z_up_k q]
    have eA : K3 22 i = I 22 i := by rw [e3, z_up_n (by decide), e2, z_up_k q, e1, z_up_n (by decide)]
    have eB : K3 23 i = I 23 i := by rw [e3, z_up_k q, e2, z_up_n (by decide), e1, z_up_n (by decide)]
    rw [eK, eA, eB]
    exact h i
theorem z_fw_00 {a o : Int} (h1 : a = 0) : z_fw 0 a o = 5 := by
  unfold z_fw
  repeat' split
  all_goals omega
theorem z_fw_0nm {a o : Int} (h1 : a ≠ 0) (h2 : o < 0) : z_fw 0 a o = 1 := by
  unfold z_fw
  repeat' split
  all_goals omega
theorem z_fw_0np {a o : Int} (h1 : a ≠ 0) (h2 : 0 ≤ o) : z_fw 0 a o = 1001 := by
  unfold z_fw
  repeat' split
  all_goals omega
theorem z_rk_0 : z_rk 0 = 3 := by decide
theorem z_fo_0n {a : Int} : z_fo 0 a = 0 := by
  unfold z_fo
  rw [if_neg (by omega)]
theorem z_fwc_0 (a o : Int) : (a = 0 ∧ z_fw 0 a o = 5) ∨ (a ≠ 0 ∧ o < 0 ∧ z_fw 0 a o = 1) ∨ (a ≠ 0 ∧ 0 ≤ o ∧ z_fw 0 a o = 1001) := by
  unfold z_fw
  repeat' split
  all_goals omega
theorem z_foc_0 (a : Int) : z_fo 0 a = 0 := z_fo_0n
theorem z_fw_10 {a o : Int} (h1 : a = 0) : z_fw 1 a o = 3 := by
  unfold z_fw
  repeat' split
  all_goals omega
theorem z_fw_1nm {a o : Int} (h1 : a ≠ 0) (h2 : o < 0) : z_fw 1 a o = 1 := by
  unfold z_fw
  repeat' split
  all_goals omega
theorem z_fw_1np {a o : Int} (h1 : a ≠ 0) (h2 : 0 ≤ o) : z_fw 1 a o = 1001 := by
  unfold z_fw
  repeat' split
  all_goals omega
theorem z_rk_1 : z_rk 1 = 4 := by decide
theorem z_fo_1n {a : Int} : z_fo 1 a = 0 := by
  unfold z_fo
  rw [if_neg (by omega)]
theorem z_fwc_1 (a o : Int) : (a = 0 ∧ z_fw 1 a o = 3) ∨ (a ≠ 0 ∧ o < 0 ∧ z_fw 1 a o = 1) ∨ (a ≠ 0 ∧ 0 ≤ o ∧ z_fw 1 a o = 1001) := by
  unfold z_fw
  repeat' split
  all_goals omega
theorem z_foc_1 (a : Int) : z_fo 1 a = 0 := z_fo_1n
theorem z_fw_20 {a o : Int} (h1 : a = 0) : z_fw 2 a o = 1 := by
  unfold z_fw
  repeat' split
  all_goals omega
theorem z_fw_2n {a o : Int} (h1 : a ≠ 0) : z_fw 2 a o = 0 := by
  unfold z_fw
  repeat' split
  all_goals omega
theorem z_rk_2 : z_rk 2 = 5 := by decide
theorem z_fo_2y {a : Int} (h : a ≠ 0) : z_fo 2 a = 1 := by
  unfold z_fo
  rw [if_pos (by omega)]
theorem z_fo_2n {a : Int} (h : a = 0) : z_fo 2 a = 0 := by
  unfold z_fo
  rw [if_neg (by omega)]
theorem z_fwc_2 (a o : Int) : (a = 0 ∧ z_fw 2 a o = 1) ∨ (a ≠ 0 ∧ z_fw 2 a o = 0) := by
  unfold z_fw
  repeat' split
  all_goals omega
theorem z_foc_2 (a : Int) : (a = 0 ∧ z_fo 2 a = 0) ∨ (a ≠ 0 ∧ z_fo 2 a = 1) := by
  unfold z_fo
  split <;> omega
theorem z_fw_30 {a o : Int} (h1 : a = 0) : z_fw 3 a o = 10 := by
  unfold z_fw
  repeat' split
  all_goals omega
theorem z_fw_3nm {a o : Int} (h1 : a ≠ 0) (h2 : o < 0) : z_fw 3 a o = 1 := by
  unfold z_fw
  repeat' split
  all_goals omega
theorem z_fw_3np {a o : Int} (h1 : a ≠ 0) (h2 : 0 ≤ o) : z_fw 3 a o = 1001 := by
  unfold z_fw
  repeat' split
  all_goals omega
theorem z_rk_3 : z_rk 3 = 0 := by decide
theorem z_fo_3n {a : Int} : z_fo 3 a = 0 := by
  unfold z_fo
  rw [if_neg (by omega)]
theorem z_fwc_3 (a o : Int) : (a = 0 ∧ z_fw 3 a o = 10) ∨ (a ≠ 0 ∧ o < 0 ∧ z_fw 3 a o = 1) ∨ (a ≠ 0 ∧ 0 ≤ o ∧ z_fw 3 a o = 1001) := by
  unfold z_fw
  repeat' split
  all_goals omega
theorem z_foc_3 (a : Int) : z_fo 3 a = 0 := z_fo_3n
theorem z_fw_40 {a o : Int} (h1 : a = 0) : z_fw 4 a o = 8 := by
  unfold z_fw
  repeat' split
  all_goals omega
theorem z_fw_4nm {a o : Int} (h1 : a ≠ 0) (h2 : o < 0) : z_fw 4 a o = 1 := by
  unfold z_fw
  repeat' split
  all_goals omega
theorem z_fw_4np {a o : Int} (h1 : a ≠ 0) (h2 : 0 ≤ o) : z_fw 4 a o = 1001 := by
  unfold z_fw
  repeat' split
  all_goals omega
theorem z_rk_4 : z_rk 4 = 1 := by decide
theorem z_fo_4n {a : Int} : z_fo 4 a = 0 := by
  unfold z_fo
  rw [if_neg (by omega)]
theorem z_fwc_4 (a o : Int) : (a = 0 ∧ z_fw 4 a o = 8) ∨ (a ≠ 0 ∧ o < 0 ∧ z_fw 4 a o = 1) ∨ (a ≠ 0 ∧ 0 ≤ o ∧ z_fw 4 a o = 1001) := by
  unfold z_fw
  repeat' split
  all_goals omega
theorem z_foc_4 (a : Int) : z_fo 4 a = 0 := z_fo_4n
theorem z_fw_50 {a o : Int} (h1 : a = 0) : z_fw 5 a o = 6 := by
  unfold z_fw
  repeat' split
  all_goals omega
theorem z_fw_514 {a o : Int} (h1 : a = 1 ∨ a = 4) : z_fw 5 a o = 1001 := by
  unfold z_fw
  repeat' split
  all_goals omega
theorem z_fw_523 {a o : Int} (h1 : a = 2 ∨ a = 3) : z_fw 5 a o = 0 := by
  unfold z_fw
  repeat' split
  all_goals omega
theorem z_rk_5 : z_rk 5 = 2 := by decide
theorem z_fo_5y {a : Int} (h : a = 1 ∨ a = 2) : z_fo 5 a = 1 := by
  unfold z_fo
  rw [if_pos (by omega)]
theorem z_fo_5n {a : Int} (h : a = 0 ∨ a = 3 ∨ a = 4) : z_fo 5 a = 0 := by
  unfold z_fo
  rw [if_neg (by omega)]
theorem z_fwc_5 (a o : Int) : (a = 0 ∧ z_fw 5 a o = 6) ∨ ((a = 1 ∨ a = 4) ∧ z_fw 5 a o = 1001) ∨ (a ≠ 0 ∧ a ≠ 1 ∧ a ≠ 4 ∧ z_fw 5 a o = 0) := by
  unfold z_fw
  repeat' split
  all_goals omega
theorem z_foc_5 (a : Int) : ((a = 1 ∨ a = 2) ∧ z_fo 5 a = 1) ∨ (a ≠ 1 ∧ a ≠ 2 ∧ z_fo 5 a = 0) := by
  unfold z_fo
  split <;> omega
theorem zj_X12_here_X12 : ∀ w ∈ wsX120, w ∈ wsX12_here := fun w h => (List.mem_cons_of_mem _ (List.mem_append_right _ h))
set_option maxHeartbeats 8000000 in
set_option maxRecDepth 100000 in
theorem sx_X12_here (l : Launch) (G : z_G) (ad : Nat → Nat) (I : z_I) (J : z_J) (hmp : z_imp I) (hrq : z_irq I) : z_M l yX12_here wsX12_here { frames := 1, cells := 0, slots := 0, locals := 12 } [.ref (ad 0)] G (shM, ad, I, J, PM ad) (fun r u1 => u1 = (shM, ad, I, J, PM ad) ∧ (r = z_hr I ∧ (r.toInt = -1 ∨ (I 0 34).toInt + 1 ≤ (I 0 33).toInt))) 0 0 := by
  intro sz
  refine z_headQ (cc := cX12_here) (maxL := 1) (ret := (some .int)) (by decide) rfl (Nat.le_of_ble_eq_true rfl) ?_
  intro p e s m below meth c0 ls hIn hK hsz hW hl
  obtain ⟨hx, hb, hr, hml, hown, hts, hlocks, hname⟩ := hIn
  subst hsz
  have hown : s.vm.findClass RX12 = some m.cls := hown
  have hA : ∀ q : Nat, s.heap.size ≤ q → z_A (shM, ad, I, J, PM ad) s.heap.size q := fun q h => Or.inr h
  generalize hAe : z_A (shM, ad, I, J, PM ad) s.heap.size = A at *
  have hS : va_S A s.heap s.heap [] := va_S.rf
  have hl : lv_has ls 1 [(0, .ref (ad 0))] := hl
  have krq : 0 ≤ (I 0 34).toInt ∧ (I 0 34).toInt ≤ (I 0 33).toInt ∧ (I 0 33).toInt ≤ 500 := hrq
  refine lv_aload_n hx hb dX12_here_0 rfl (lv_at hl 0 rfl) ?_
  have r1 : 0 ≤ (I 0 34).toInt ∧ (I 0 34).toInt ≤ 500 := hmp.2.2.1
  refine z_get (T := TX12) (N := 96) (ci := 12) (i := 0) (v := .int (I 0 34)) hx hb hts zj_X12_here_X12 hown hK hW rfl rfl 34 (by decide) (hts (.fieldLink RX12 256 "PetrolBoardModel" "point" "I") (me_s (me_l (List.mem_of_getElem? (i := 0) rfl)))) (fun _ h => h) rfl dX12_here_1 ?_
  refine lv_aload_n hx hb dX12_here_4 rfl (lv_at hl 0 rfl) ?_
  have r2 : 0 ≤ (I 0 33).toInt ∧ (I 0 33).toInt ≤ 500 := hmp.2.1
  refine z_get (T := TX12) (N := 96) (ci := 12) (i := 0) (v := .int (I 0 33)) hx hb hts zj_X12_here_X12 hown hK hW rfl rfl 33 (by decide) (hts (.fieldLink RX12 259 "PetrolBoardModel" "limit" "I") (me_s (me_l (List.mem_of_getElem? (i := 1) rfl)))) (fun _ h => h) rfl dX12_here_5 ?_
  refine lv_icmp_ge (tgt := 27) hx hb dX12_here_8 (by decide) (fun c3 => ?_) (fun c3 => ?_)
  · have g4 := z_f_ge rfl rfl c3
    refine lv_iconst (v := (-1)) hx hb dX12_here_27 (by decide) ?_
    exact z_iret hx hb hr hK hS (Nat.le_of_ble_eq_true rfl) (Nat.le_of_ble_eq_true rfl) hlocks dX12_here_28 (shM, ad, I, J, PM ad) hW ⟨rfl, ⟨(by unfold z_hr; rw [if_pos (by omega)]), Or.inl (by decide)⟩⟩
  · have g5 := z_f_nge rfl rfl c3
    refine lv_aload_n hx hb dX12_here_11 rfl (lv_at hl 0 rfl) ?_
    refine z_get (T := TX12) (N := 96) (ci := 12) (i := 0) (v := .ref (ad 25)) hx hb hts zj_X12_here_X12 hown hK hW rfl rfl 30 (by decide) (hts (.fieldLink RX12 83 "PetrolBoardModel" "tape" "[B") (me_s (me_l (List.mem_of_getElem? (i := 2) rfl)))) (fun _ h => h) rfl dX12_here_12 ?_
    refine lv_aload_n hx hb dX12_here_15 rfl (lv_at hl 0 rfl) ?_
    refine z_get (T := TX12) (N := 96) (ci := 12) (i := 0) (v := .int (I 0 34)) hx hb hts zj_X12_here_X12 hown hK hW rfl rfl 34 (by decide) (hts (.fieldLink RX12 256 "PetrolBoardModel" "point" "I") (me_s (me_l (List.mem_of_getElem? (i := 0) rfl)))) (fun _ h => h) rfl dX12_here_16 ?_
    refine z_bald (i := 25) hx hb hK hW rfl (z_ix rfl (by omega) (by omega)) dX12_here_19 ?_
    refine lv_topi (fun x6 ex6 => ?_)
    refine lv_sipush (v := 255) hx hb dX12_here_20 (by decide) ?_
    refine lv_iand hx hb dX12_here_23 ?_
    refine lv_topi (fun x7 ex7 => ?_)
    refine lv_goto (tgt := 28) hx hb dX12_here_24 (by decide) ?_
    exact z_iret hx hb hr hK hS (Nat.le_of_ble_eq_true rfl) (Nat.le_of_ble_eq_true rfl) hlocks dX12_here_28 (shM, ad, I, J, PM ad) hW ⟨rfl, ⟨(by unfold z_hr; rw [if_neg (by omega), ex7, ex6]), Or.inr (by omega)⟩⟩
set_option maxHeartbeats 8000000 in
set_option maxRecDepth 100000 in
theorem sx_X12_within2 (l : Launch) (G : z_G) (ad : Nat → Nat) (I : z_I) (J : z_J) (a1 : Int32) (a2 : Int32) (a3 : Int32) : z_M l yX12_within wsX12_within { frames := 1, cells := 0, slots := 0, locals := 12 } [.int a1, .int a2, .int a3] G (shM, ad, I, J, PM ad) (fun r u1 => u1 = (shM, ad, I, J, PM ad) ∧ ((r = 1 ∧ a2.toInt ≤ a1.toInt ∧ a1.toInt ≤ a3.toInt) ∨ (r = 0 ∧ (a1.toInt < a2.toInt ∨ a3.toInt < a1.toInt)))) 0 0 := by
  intro sz
  refine z_headQ (cc := cX12_within) (maxL := 3) (ret := (some .boolean)) (by decide) rfl (Nat.le_of_ble_eq_true rfl) ?_
  intro p e s m below meth c0 ls hIn hK hsz hW hl
  obtain ⟨hx, hb, hr, hml, hown, hts, hlocks, hname⟩ := hIn
  subst hsz
  have hown : s.vm.findClass RX12 = some m.cls := hown
  have hA : ∀ q : Nat, s.heap.size ≤ q → z_A (shM, ad, I, J, PM ad) s.heap.size q := fun q h => Or.inr h
  generalize hAe : z_A (shM, ad, I, J, PM ad) s.heap.size = A at *
  have hS : va_S A s.heap s.heap [] := va_S.rf
  have hl : lv_has ls 3 [(0, .int a1), (1, .int a2), (2, .int a3)] := hl
  refine lv_iload_n hx hb dX12_within_0 rfl (lv_at hl 0 rfl) ?_
  refine lv_iload_n hx hb dX12_within_1 rfl (lv_at hl 1 rfl) ?_
  refine lv_icmp_lt (tgt := 14) hx hb dX12_within_2 (by decide) (fun c1 => ?_) (fun c1 => ?_)
  · have g2 := z_f_lt rfl rfl c1
    have b3 := Int32.toInt_lt a1
    have b4 := Int32.toInt_lt a2
    refine lv_iconst (v := 0) hx hb dX12_within_14 (by decide) ?_
    exact z_zret hx hb hr (by decide) hK hS (Nat.le_of_ble_eq_true rfl) (Nat.le_of_ble_eq_true rfl) hlocks dX12_within_15 (shM, ad, I, J, PM ad) hW ⟨rfl, Or.inr ⟨rfl, by omega⟩⟩
  · have g5 := z_f_nlt rfl rfl c1
    have b6 := Int32.toInt_lt a1
    have b7 := Int32.toInt_lt a2
    refine lv_iload_n hx hb dX12_within_5 rfl (lv_at hl 0 rfl) ?_
    refine lv_iload_n hx hb dX12_within_6 rfl (lv_at hl 2 rfl) ?_
    refine lv_icmp_gt (tgt := 14) hx hb dX12_within_7 (by decide) (fun c8 => ?_) (fun c8 => ?_)
    · have g9 := z_f_gt rfl rfl c8
      have b10 := Int32.toInt_lt a3
      refine lv_iconst (v := 0) hx hb dX12_within_14 (by decide) ?_
      exact z_zret hx hb hr (by decide) hK hS (Nat.le_of_ble_eq_true rfl) (Nat.le_of_ble_eq_true rfl) hlocks dX12_within_15 (shM, ad, I, J, PM ad) hW ⟨rfl, Or.inr ⟨rfl, by omega⟩⟩
    · have g11 := z_f_ngt rfl rfl c8
      have b12 := Int32.toInt_lt a3
      refine lv_iconst (v := 1) hx hb dX12_within_10 (by decide) ?_
      refine lv_goto (tgt := 15) hx hb dX12_within_11 (by decide) ?_
      exact z_zret hx hb hr (by decide) hK hS (Nat.le_of_ble_eq_true rfl) (Nat.le_of_ble_eq_true rfl) hlocks dX12_within_15 (shM, ad, I, J, PM ad) hW ⟨rfl, Or.inl ⟨rfl, by omega, by omega⟩⟩
set_option maxHeartbeats 8000000 in
set_option maxRecDepth 100000 in
theorem sx_X12_isSignByte (l : Launch) (G : z_G) (ad : Nat → Nat) (I : z_I) (J : z_J) (a1 : Int32) : z_M l yX12_isSignByte wsX12_isSignByte { frames := 1, cells := 0, slots := 0, locals := 12 } [.int a1] G (shM, ad, I, J, PM ad) (fun r u1 => u1 = (shM, ad, I, J, PM ad) ∧ (r = 1 ∨ r = 0)) 0 0 := by
  intro sz
  refine z_headQ (cc := cX12_isSignByte) (maxL := 1) (ret := (some .boolean)) (by decide) rfl (Nat.le_of_ble_eq_true rfl) ?_
  intro p e s m below meth c0 ls hIn hK hsz hW hl
  obtain ⟨hx, hb, hr, hml, hown, hts, hlocks, hname⟩ := hIn
  subst hsz
  have hown : s.vm.findClass RX12 = some m.cls := hown
  have hA : ∀ q : Nat, s.heap.size ≤ q → z_A (shM, ad, I, J, PM ad) s.heap.size q := fun q h => Or.inr h
  generalize hAe : z_A (shM, ad, I, J, PM ad) s.heap.size = A at *
  have hS : va_S A s.heap s.heap [] := va_S.rf
  have hl : lv_has ls 1 [(0, .int a1)] := hl
  refine lv_iload_n hx hb dX12_isSignByte_0 rfl (lv_at hl 0 rfl) ?_
  refine lv_bipush (v := 59) hx hb dX12_isSignByte_1 (by decide) ?_
  refine lv_icmp_eq (tgt := 78) hx hb dX12_isSignByte_3 (by decide) (fun c1 => ?_) (fun c1 => ?_)
  · have g2 := z_f_eq rfl z_l59 c1
    have b3 := Int32.toInt_lt a1
    refine lv_iconst (v := 1) hx hb dX12_isSignByte_78 (by decide) ?_
    refine lv_goto (tgt := 83) hx hb dX12_isSignByte_79 (by decide) ?_
    exact z_zret hx hb hr (by decide) hK hS (Nat.le_of_ble_eq_true rfl) (Nat.le_of_ble_eq_true rfl) hlocks dX12_isSignByte_83 (shM, ad, I, J, PM ad) hW ⟨rfl, Or.inl rfl⟩
  · have g4 := z_f_ne rfl z_l59 c1
    have b5 := Int32.toInt_lt a1
    refine lv_iload_n hx hb dX12_isSignByte_6 rfl (lv_at hl 0 rfl) ?_
    refine lv_bipush (v := 40) hx hb dX12_isSignByte_7 (by decide) ?_
    refine lv_icmp_eq (tgt := 78) hx hb dX12_isSignByte_9 (by decide) (fun c6 => ?_) (fun c6 => ?_)
    · have g7 := z_f_eq rfl z_l40 c6
      refine lv_iconst (v := 1) hx hb dX12_isSignByte_78 (by decide) ?_
      refine lv_goto (tgt := 83) hx hb dX12_isSignByte_79 (by decide) ?_
      exact z_zret hx hb hr (by decide) hK hS (Nat.le_of_ble_eq_true rfl) (Nat.le_of_ble_eq_true rfl) hlocks dX12_isSignByte_83 (shM, ad, I, J, PM ad) hW ⟨rfl, Or.inl rfl⟩
    · have g8 := z_f_ne rfl z_l40 c6
      refine lv_iload_n hx hb dX12_isSignByte_12 rfl (lv_at hl 0 rfl) ?_
      refine lv_bipush (v := 41) hx hb dX12_isSignByte_13 (by decide) ?_
      refine lv_icmp_eq (tgt := 78) hx hb dX12_isSignByte_15 (by decide) (fun c9 => ?_) (fun c9 => ?_)
      · have g10 := z_f_eq rfl z_l41 c9
        refine lv_iconst (v := 1) hx hb dX12_isSignByte_78 (by decide) ?_
        refine lv_goto (tgt := 83) hx hb dX12_isSignByte_79 (by decide) ?_
        exact z_zret hx hb hr (by decide) hK hS (Nat.le_of_ble_eq_true rfl) (Nat.le_of_ble_eq_true rfl) hlocks dX12_isSignByte_83 (shM, ad, I, J, PM ad) hW ⟨rfl, Or.inl rfl⟩
      · have g11 := z_f_ne rfl z_l41 c9
        refine lv_iload_n hx hb dX12_isSignByte_18 rfl (lv_at hl 0 rfl) ?_
        refine lv_bipush (v := 123) hx hb dX12_isSignByte_19 (by decide) ?_
        refine lv_icmp_eq (tgt := 78) hx hb dX12_isSignByte_21 (by decide) (fun c12 => ?_) (fun c12 => ?_)
        · have g13 := z_f_eq rfl z_l123 c12
          refine lv_iconst (v := 1) hx hb dX12_isSignByte_78 (by decide) ?_
          refine lv_goto (tgt := 83) hx hb dX12_isSignByte_79 (by decide) ?_
          exact z_zret hx hb hr (by decide) hK hS (Nat.le_of_ble_eq_true rfl) (Nat.le_of_ble_eq_true rfl) hlocks dX12_isSignByte_83 (shM, ad, I, J, PM ad) hW ⟨rfl, Or.inl rfl⟩
        · have g14 := z_f_ne rfl z_l123 c12
          refine lv_iload_n hx hb dX12_isSignByte_24 rfl (lv_at hl 0 rfl) ?_
          refine lv_bipush (v := 125) hx hb dX12_isSignByte_25 (by decide) ?_
          refine lv_icmp_eq (tgt := 78) hx hb dX12_isSignByte_27 (by decide) (fun c15 => ?_) (fun c15 => ?_)
          · have g16 := z_f_eq rfl z_l125 c15
            refine lv_iconst (v := 1) hx hb dX12_isSignByte_78 (by decide) ?_
            refine lv_goto (tgt := 83) hx hb dX12_isSignByte_79 (by decide) ?_
            exact z_zret hx hb hr (by decide) hK hS (Nat.le_of_ble_eq_true rfl) (Nat.le_of_ble_eq_true rfl) hlocks dX12_isSignByte_83 (shM, ad, I, J, PM ad) hW ⟨rfl, Or.inl rfl⟩
          · have g17 := z_f_ne rfl z_l125 c15
            refine lv_iload_n hx hb dX12_isSignByte_30 rfl (lv_at hl 0 rfl) ?_
            refine lv_bipush (v := 44) hx hb dX12_isSignByte_31 (by decide) ?_
            refine lv_icmp_eq (tgt := 78) hx hb dX12_isSignByte_33 (by decide) (fun c18 => ?_) (fun c18 => ?_)
            · have g19 := z_f_eq rfl z_l44 c18
              refine lv_iconst (v := 1) hx hb dX12_isSignByte_78 (by decide) ?_
              refine lv_goto (tgt := 83) hx hb dX12_isSignByte_79 (by decide) ?_
              exact z_zret hx hb hr (by decide) hK hS (Nat.le_of_ble_eq_true rfl) (Nat.le_of_ble_eq_true rfl) hlocks dX12_isSignByte_83 (shM, ad, I, J, PM ad) hW ⟨rfl, Or.inl rfl⟩
            · have g20 := z_f_ne rfl z_l44 c18
              refine lv_iload_n hx hb dX12_isSignByte_36 rfl (lv_at hl 0 rfl) ?_
              refine lv_bipush (v := 60) hx hb dX12_isSignByte_37 (by decide) ?_
              refine lv_icmp_eq (tgt := 78) hx hb dX12_isSignByte_39 (by decide) (fun c21 => ?_) (fun c21 => ?_)
              · have g22 := z_f_eq rfl z_l60 c21
                refine lv_iconst (v := 1) hx hb dX12_isSignByte_78 (by decide) ?_
                refine lv_goto (tgt := 83) hx hb dX12_isSignByte_79 (by decide) ?_
                exact z_zret hx hb hr (by decide) hK hS (Nat.le_of_ble_eq_true rfl) (Nat.le_of_ble_eq_true rfl) hlocks dX12_isSignByte_83 (shM, ad, I, J, PM ad) hW ⟨rfl, Or.inl rfl⟩
              · have g23 := z_f_ne rfl z_l60 c21
                refine lv_iload_n hx hb dX12_isSignByte_42 rfl (lv_at hl 0 rfl) ?_
                refine lv_bipush (v := 62) hx hb dX12_isSignByte_43 (by decide) ?_
                refine lv_icmp_eq (tgt := 78) hx hb dX12_isSignByte_45 (by decide) (fun c24 => ?_) (fun c24 => ?_)
                · have g25 := z_f_eq rfl z_l62 c24
                  refine lv_iconst (v := 1) hx hb dX12_isSignByte_78 (by decide) ?_
                  refine lv_goto (tgt := 83) hx hb dX12_isSignByte_79 (by decide) ?_
                  exact z_zret hx hb hr (by decide) hK hS (Nat.le_of_ble_eq_true rfl) (Nat.le_of_ble_eq_true rfl) hlocks dX12_isSignByte_83 (shM, ad, I, J, PM ad) hW ⟨rfl, Or.inl rfl⟩
                · have g26 := z_f_ne rfl z_l62 c24
                  refine lv_iload_n hx hb dX12_isSignByte_48 rfl (lv_at hl 0 rfl) ?_
                  refine lv_bipush (v := 61) hx hb dX12_isSignByte_49 (by decide) ?_
                  refine lv_icmp_eq (tgt := 78) hx hb dX12_isSignByte_51 (by decide) (fun c27 => ?_) (fun c27 => ?_)
                  · have g28 := z_f_eq rfl z_l61 c27
                    refine lv_iconst (v := 1) hx hb dX12_isSignByte_78 (by decide) ?_
                    refine lv_goto (tgt := 83) hx hb dX12_isSignByte_79 (by decide) ?_
                    exact z_zret hx hb hr (by decide) hK hS (Nat.le_of_ble_eq_true rfl) (Nat.le_of_ble_eq_true rfl) hlocks dX12_isSignByte_83 (shM, ad, I, J, PM ad) hW ⟨rfl, Or.inl rfl⟩
                  · have g29 := z_f_ne rfl z_l61 c27
                    refine lv_iload_n hx hb dX12_isSignByte_54 rfl (lv_at hl 0 rfl) ?_
                    refine lv_bipush (v := 43) hx hb dX12_isSignByte_55 (by decide) ?_
                    refine lv_icmp_eq (tgt := 78) hx hb dX12_isSignByte_57 (by decide) (fun c30 => ?_) (fun c30 => ?_)
                    · have g31 := z_f_eq rfl z_l43 c30
                      refine lv_iconst (v := 1) hx hb dX12_isSignByte_78 (by decide) ?_
                      refine lv_goto (tgt := 83) hx hb dX12_isSignByte_79 (by decide) ?_
                      exact z_zret hx hb hr (by decide) hK hS (Nat.le_of_ble_eq_true rfl) (Nat.le_of_ble_eq_true rfl) hlocks dX12_isSignByte_83 (shM, ad, I, J, PM ad) hW ⟨rfl, Or.inl rfl⟩
                    · have g32 := z_f_ne rfl z_l43 c30
                      refine lv_iload_n hx hb dX12_isSignByte_60 rfl (lv_at hl 0 rfl) ?_
                      refine lv_bipush (v := 45) hx hb dX12_isSignByte_61 (by decide) ?_
                      refine lv_icmp_eq (tgt := 78) hx hb dX12_isSignByte_63 (by decide) (fun c33 => ?_) (fun c33 => ?_)
                      · have g34 := z_f_eq rfl z_l45 c33
                        refine lv_iconst (v := 1) hx hb dX12_isSignByte_78 (by decide) ?_
                        refine lv_goto (tgt := 83) hx hb dX12_isSignByte_79 (by decide) ?_
                        exact z_zret hx hb hr (by decide) hK hS (Nat.le_of_ble_eq_true rfl) (Nat.le_of_ble_eq_true rfl) hlocks dX12_isSignByte_83 (shM, ad, I, J, PM ad) hW ⟨rfl, Or.inl rfl⟩
                      · have g35 := z_f_ne rfl z_l45 c33
                        refine lv_iload_n hx hb dX12_isSignByte_66 rfl (lv_at hl 0 rfl) ?_
                        refine lv_bipush (v := 42) hx hb dX12_isSignByte_67 (by decide) ?_
                        refine lv_icmp_eq (tgt := 78) hx hb dX12_isSignByte_69 (by decide) (fun c36 => ?_) (fun c36 => ?_)
                        · have g37 := z_f_eq rfl z_l42 c36
                          refine lv_iconst (v := 1) hx hb dX12_isSignByte_78 (by decide) ?_
                          refine lv_goto (tgt := 83) hx hb dX12_isSignByte_79 (by decide) ?_
                          exact z_zret hx hb hr (by decide) hK hS (Nat.le_of_ble_eq_true rfl) (Nat.le_of_ble_eq_true rfl) hlocks dX12_isSignByte_83 (shM, ad, I, J, PM ad) hW ⟨rfl, Or.inl rfl⟩
                        · have g38 := z_f_ne rfl z_l42 c36
                          refine lv_iload_n hx hb dX12_isSignByte_72 rfl (lv_at hl 0 rfl) ?_
                          refine lv_bipush (v := 47) hx hb dX12_isSignByte_73 (by decide) ?_
                          refine lv_icmp_ne (tgt := 82) hx hb dX12_isSignByte_75 (by decide) (fun c39 => ?_) (fun c39 => ?_)
                          · have g40 := z_f_ne rfl z_l47 c39
                            refine lv_iconst (v := 0) hx hb dX12_isSignByte_82 (by decide) ?_
                            exact z_zret hx hb hr (by decide) hK hS (Nat.le_of_ble_eq_true rfl) (Nat.le_of_ble_eq_true rfl) hlocks dX12_isSignByte_83 (shM, ad, I, J, PM ad) hW ⟨rfl, Or.inr rfl⟩
                          · have g41 := z_f_eq rfl z_l47 c39
                            refine lv_iconst (v := 1) hx hb dX12_isSignByte_78 (by decide) ?_
                            refine lv_goto (tgt := 83) hx hb dX12_isSignByte_79 (by decide) ?_
                            exact z_zret hx hb hr (by decide) hK hS (Nat.le_of_ble_eq_true rfl) (Nat.le_of_ble_eq_true rfl) hlocks dX12_isSignByte_83 (shM, ad, I, J, PM ad) hW ⟨rfl, Or.inl rfl⟩
noncomputable def L_X12_next : z_L := [(0, 35), (0, 36), (0, 37), (0, 38), (0, 34)]
theorem zj_X12_next_X12 : ∀ w ∈ wsX120, w ∈ wsX12_next := fun w h => (List.mem_cons_of_mem _ (List.mem_append_right _ h))
set_option maxHeartbeats 8000000 in
set_option maxRecDepth 100000 in
theorem sx_X12_next (l : Launch) (G : z_G) (ad : Nat → Nat) (I : z_I) (J : z_J) (hmp : z_imp I) (hmt : z_imt I) (hrq : z_irq I) : z_Mv l yX12_next wsX12_next { frames := 2, cells := 0, slots := 0, locals := 34 } [.ref (ad 0)] G (shM, ad, I, J, PM ad) (fun u1 => ∃ (I1 : z_I) (J1 : z_J), u1 = (shM, ad, I1, J1, PM ad) ∧ z_imp I1 ∧ z_imt I1 ∧ z_irp I1 ∧ z_fr L_X12_next I1 I ∧ (I 0 34).toInt ≤ (I1 0 35).toInt) 0 0 := by
  intro sz
  refine z_headQ (cc := cX12_next) (maxL := 2) (ret := none) (by decide) rfl (Nat.le_of_ble_eq_true rfl) ?_
  intro p e s m below meth c0 ls hIn hK hsz hW hl
  obtain ⟨hx, hb, hr, hml, hown, hts, hlocks, hname⟩ := hIn
  subst hsz
  have hown : s.vm.findClass RX12 = some m.cls := hown
  have hA : ∀ q : Nat, s.heap.size ≤ q → z_A (shM, ad, I, J, PM ad) s.heap.size q := fun q h => Or.inr h
  generalize hAe : z_A (shM, ad, I, J, PM ad) s.heap.size = A at *
  have hS : va_S A s.heap s.heap [] := va_S.rf
  have hl : lv_has ls 2 [(0, .ref (ad 0))] := hl
  have krq : 0 ≤ (I 0 34).toInt ∧ (I 0 34).toInt ≤ (I 0 33).toInt ∧ (I 0 33).toInt ≤ 500 := hrq
  have lp1 : ∀ (f : Nat)  (I2 : z_I) (J3 : z_J) (H : Heap) (locs : List Loc) (ls : Array Slot), (501 - (I2 0 34).toInt ≤ (f : Int)) → (z_imp I2) → (z_imt I2) → (z_irq I2) → ((I 0 34).toInt ≤ (I2 0 34).toInt) → (z_fr L_X12_next I2 I) → z_W G A (shM, ad, I2, J3, PM ad) H → va_S A s.heap H locs → lv_has ls 2 [(0, .ref (ad 0))] → W p l e (headSpec wsX12_next { frames := 2, cells := 0, slots := 0, locals := 34 }).room s m ([.ref (ad 0)] : List Value).toArray below meth c0 H locs 0 0 (MQ below (va_Qv (fun (u1 : z_U) => ∃ (I1 : z_I) (J1 : z_J), u1 = (shM, ad, I1, J1, PM ad) ∧ z_imp I1 ∧ z_imt I1 ∧ z_irp I1 ∧ z_fr L_X12_next I1 I ∧ (I 0 34).toInt ≤ (I1 0 35).toInt) (z_B G A) A) ([.ref (ad 0)] : List Value).toArray s 0 0 A) (F0 m 0 ls []) := by
    intro f
    induction f with
    | zero => intro  I2 J3 H locs ls lp1m lp1mp lp1mt lp1rq lp1P0 lp1fr hW hS hl; exact False.elim (by have : 0 ≤ (I2 0 34).toInt ∧ (I2 0 34).toInt ≤ (I2 0 33).toInt ∧ (I2 0 33).toInt ≤ 500 := lp1rq; omega)
    | succ f lp1ih =>
      intro  I2 J3 H locs ls lp1m lp1mp lp1mt lp1rq lp1P0 lp1fr hW hS hl
      have k4 : 0 ≤ (I2 0 34).toInt ∧ (I2 0 34).toInt ≤ (I2 0 33).toInt ∧ (I2 0 33).toInt ≤ 500 := lp1rq
      refine lv_aload_n hx hb dX12_next_0 rfl (lv_at hl 0 rfl) ?_
      refine z_ci hW hS hA (va_runV (As := []) (rest := []) ⟨hx, hb, hml, hown, hts⟩ (sx_X12_here l G ad I2 J3 ⟨(by show 0 ≤ (I2 0 31).toInt ∧ (I2 0 31).toInt ≤ 500; exact lp1mp.1), (by show 0 ≤ (I2 0 33).toInt ∧ (I2 0 33).toInt ≤ 500; exact lp1mp.2.1), (by show 0 ≤ (I2 0 34).toInt ∧ (I2 0 34).toInt ≤ 500; exact lp1mp.2.2.1), (by show 0 ≤ (I2 0 35).toInt ∧ (I2 0 35).toInt ≤ 500; exact lp1mp.2.2.2)⟩ (by show 0 ≤ (I2 0 34).toInt ∧ (I2 0 34).toInt ≤ (I2 0 33).toInt ∧ (I2 0 33).toInt ≤ 500; first | omega | decide)  _) (cwV 0 hts gX12_next_X12_here rfl rfl rfl hy_X12_here ⟨Nat.le_of_ble_eq_true rfl, Nat.le_of_ble_eq_true rfl⟩) (z_preV (i := 0) hK hW rfl rfl) rfl rfl hl.1 rfl (lv_room (Nat.le_of_ble_eq_true rfl)) dX12_next_1 ⟨Nat.le_of_ble_eq_true rfl, Nat.le_of_ble_eq_true rfl⟩) (fun r u1 H locs hp hW hS => ?_)
      obtain ⟨e9, hp⟩ := hp
      rw [e9] at hW
      refine lv_topi (fun x5 ex5 => ?_)
      have hhx5 : x5 = z_hr I2 := ex5.trans hp.1
      have h6 := hp.2
      rw [← ex5] at h6
      refine lv_bipush (v := 32) hx hb dX12_next_4 (by decide) ?_
      refine lv_icmp_eq (tgt := 18) hx hb dX12_next_6 (by decide) (fun c7 => ?_) (fun c7 => ?_)
      · have g8 := z_f_eq rfl z_l32 c7
        have b9 := Int32.toInt_lt x5
        refine lv_aload_n hx hb dX12_next_18 rfl (lv_at hl 0 rfl) ?_
        refine lv_dup hx hb dX12_next_19 rfl ?_
        have r10 : 0 ≤ (I2 0 34).toInt ∧ (I2 0 34).toInt ≤ 500 := lp1mp.2.2.1
        refine z_get (T := TX12) (N := 96) (ci := 12) (i := 0) (v := .int (I2 0 34)) hx hb hts zj_X12_next_X12 hown hK hW rfl rfl 34 (by decide) (hts (.fieldLink RX12 256 "PetrolBoardModel" "point" "I") (me_s (me_l (me_l (List.mem_of_getElem? (i := 0) rfl))))) (fun _ h => h) rfl dX12_next_20 ?_
        refine lv_iconst (v := 1) hx hb dX12_next_23 (by decide) ?_
        refine lv_iadd hx hb dX12_next_24 ?_
        refine lv_topi (fun x11 ex11 => ?_)
        have tx11 : x11.toInt = (I2 0 34).toInt + 1 := z_tadd ex11 rfl z_l1 (by omega) (by omega)
        refine z_put (T := TX12) (N := 96) (ci := 12) (i := 0) (v := .int x11) (I1 := z_up I2 0 34 x11) (J1 := J3) (P1 := PM ad) hx hb hts zj_X12_next_X12 tyX12 tyX12_ok nmX12 hown hK hW hS rfl rfl 34 (by decide) (hts (.fieldLink RX12 256 "PetrolBoardModel" "point" "I") (me_s (me_l (me_l (List.mem_of_getElem? (i := 0) rfl))))) (fun _ h => h) rfl rfl rfl (by first | rfl | exact congrArg _ z_up_s) (fun a b h ty => z_vI h ty) dX12_next_25 (fun H locs hz1 hW hS => ?_)
        obtain ⟨I12, eI12⟩ : ∃ K : z_I, K = z_up I2 0 34 x11 := ⟨_, rfl⟩
        rw [← eI12] at hW
        have f13 := z_fr_k lp1fr (show z_wr L_X12_next 0 34 = true by decide) eI12
        refine lv_goto (tgt := 0) hx hb dX12_next_28 (by decide) ?_
        exact lp1ih  I12 J3 _ _ _ (by show 501 - (I12 0 34).toInt ≤ (f : Int); have q9 : (I12 0 34) = x11 := (by rw [eI12, z_up_s]); rw [q9]; first | omega | decide) ⟨(by show 0 ≤ (I12 0 31).toInt ∧ (I12 0 31).toInt ≤ 500; rw [eI12, z_up_k (by decide)]; exact lp1mp.1), (by show 0 ≤ (I12 0 33).toInt ∧ (I12 0 33).toInt ≤ 500; rw [eI12, z_up_k (by decide)]; exact lp1mp.2.1), (by show 0 ≤ (I12 0 34).toInt ∧ (I12 0 34).toInt ≤ 500; rw [eI12, z_up_s]; omega), (by show 0 ≤ (I12 0 35).toInt ∧ (I12 0 35).toInt ≤ 500; rw [eI12, z_up_k (by decide)]; exact lp1mp.2.2.2)⟩ ⟨(by show 0 ≤ (I12 0 36).toInt ∧ (I12 0 36).toInt ≤ 4; rw [eI12, z_up_k (by decide)]; exact lp1mt.1), (by show 0 ≤ (I12 0 42).toInt ∧ (I12 0 42).toInt ≤ 1; rw [eI12, z_up_k (by decide)]; exact lp1mt.2)⟩ (by have q0 : (I12 0 34) = x11 := (by rw [eI12, z_up_s]); have q1 : (I12 0 33) = (I2 0 33) := (by rw [eI12, z_up_k (by decide)]); show 0 ≤ (I12 0 34).toInt ∧ (I12 0 34).toInt ≤ (I12 0 33).toInt ∧ (I12 0 33).toInt ≤ 500; rw [q0, q1]; first | omega | decide) (by have q0 : (I12 0 34) = x11 := (by rw [eI12, z_up_s]); show (I 0 34).toInt ≤ (I12 0 34).toInt; rw [q0]; omega) f13 hW hS (lv_sub hl [0] rfl)
      · have g14 := z_f_ne rfl z_l32 c7
        have b15 := Int32.toInt_lt x5
        refine lv_aload_n hx hb dX12_next_9 rfl (lv_at hl 0 rfl) ?_
        refine z_ci hW hS hA (va_runV (As := []) (rest := []) ⟨hx, hb, hml, hown, hts⟩ (sx_X12_here l G ad I2 J3 ⟨(by show 0 ≤ (I2 0 31).toInt ∧ (I2 0 31).toInt ≤ 500; exact lp1mp.1), (by show 0 ≤ (I2 0 33).toInt ∧ (I2 0 33).toInt ≤ 500; exact lp1mp.2.1), (by show 0 ≤ (I2 0 34).toInt ∧ (I2 0 34).toInt ≤ 500; exact lp1mp.2.2.1), (by show 0 ≤ (I2 0 35).toInt ∧ (I2 0 35).toInt ≤ 500; exact lp1mp.2.2.2)⟩ (by show 0 ≤ (I2 0 34).toInt ∧ (I2 0 34).toInt ≤ (I2 0 33).toInt ∧ (I2 0 33).toInt ≤ 500; first | omega | decide)  _) (cwV 0 hts gX12_next_X12_here rfl rfl rfl hy_X12_here ⟨Nat.le_of_ble_eq_true rfl, Nat.le_of_ble_eq_true rfl⟩) (z_preV (i := 0) hK hW rfl rfl) rfl rfl hl.1 rfl (lv_room (Nat.le_of_ble_eq_true rfl)) dX12_next_10 ⟨Nat.le_of_ble_eq_true rfl, Nat.le_of_ble_eq_true rfl⟩) (fun r u1 H locs hp hW hS => ?_)
        obtain ⟨e9, hp⟩ := hp
        rw [e9] at hW
        refine lv_topi (fun x16 ex16 => ?_)
        have hhx16 : x16 = z_hr I2 := ex16.trans hp.1
        have h17 := hp.2
        rw [← ex16] at h17
        refine lv_bipush (v := 10) hx hb dX12_next_13 (by decide) ?_
        refine lv_icmp_ne (tgt := 31) hx hb dX12_next_15 (by decide) (fun c18 => ?_) (fun c18 => ?_)
        · have g19 := z_f_ne rfl z_l10 c18
          have b20 := Int32.toInt_lt x16
          refine lv_aload_n hx hb dX12_next_31 rfl (lv_at hl 0 rfl) ?_
          refine lv_aload_n hx hb dX12_next_32 rfl (lv_at hl 0 rfl) ?_
          have r21 : 0 ≤ (I2 0 34).toInt ∧ (I2 0 34).toInt ≤ 500 := lp1mp.2.2.1
          refine z_get (T := TX12) (N := 96) (ci := 12) (i := 0) (v := .int (I2 0 34)) hx hb hts zj_X12_next_X12 hown hK hW rfl rfl 34 (by decide) (hts (.fieldLink RX12 256 "PetrolBoardModel" "point" "I") (me_s (me_l (me_l (List.mem_of_getElem? (i := 0) rfl))))) (fun _ h => h) rfl dX12_next_33 ?_
          refine z_put (T := TX12) (N := 96) (ci := 12) (i := 0) (v := .int (I2 0 34)) (I1 := z_up I2 0 35 (I2 0 34)) (J1 := J3) (P1 := PM ad) hx hb hts zj_X12_next_X12 tyX12 tyX12_ok nmX12 hown hK hW hS rfl rfl 35 (by decide) (hts (.fieldLink RX12 266 "PetrolBoardModel" "from" "I") (me_s (me_l (me_l (List.mem_of_getElem? (i := 1) rfl))))) (fun _ h => h) rfl rfl rfl (by first | rfl | exact congrArg _ z_up_s) (fun a b h ty => z_vI h ty) dX12_next_36 (fun H locs hz1 hW hS => ?_)
          obtain ⟨I22, eI22⟩ : ∃ K : z_I, K = z_up I2 0 35 (I2 0 34) := ⟨_, rfl⟩
          rw [← eI22] at hW
          have f23 := z_fr_k lp1fr (show z_wr L_X12_next 0 35 = true by decide) eI22
          refine lv_aload_n hx hb dX12_next_39 rfl (lv_at hl 0 rfl) ?_
          refine z_ci hW hS hA (va_runV (As := []) (rest := []) ⟨hx, hb, hml, hown, hts⟩ (sx_X12_here l G ad I22 J3 ⟨(by show 0 ≤ (I22 0 31).toInt ∧ (I22 0 31).toInt ≤ 500; rw [eI22, z_up_k (by decide)]; exact lp1mp.1), (by show 0 ≤ (I22 0 33).toInt ∧ (I22 0 33).toInt ≤ 500; rw [eI22, z_up_k (by decide)]; exact lp1mp.2.1), (by show 0 ≤ (I22 0 34).toInt ∧ (I22 0 34).toInt ≤ 500; rw [eI22, z_up_k (by decide)]; exact lp1mp.2.2.1), (by show 0 ≤ (I22 0 35).toInt ∧ (I22 0 35).toInt ≤ 500; rw [eI22, z_up_s]; omega)⟩ (by have q0 : (I22 0 34) = (I2 0 34) := (by rw [eI22, z_up_k (by decide)]); have q1 : (I22 0 33) = (I2 0 33) := (by rw [eI22, z_up_k (by decide)]); show 0 ≤ (I22 0 34).toInt ∧ (I22 0 34).toInt ≤ (I22 0 33).toInt ∧ (I22 0 33).toInt ≤ 500; rw [q0, q1]; first | omega | decide)  _) (cwV 0 hts gX12_next_X12_here rfl rfl rfl hy_X12_here ⟨Nat.le_of_ble_eq_true rfl, Nat.le_of_ble_eq_true rfl⟩) (z_preV (i := 0) hK hW rfl rfl) rfl rfl hl.1 rfl (lv_room (Nat.le_of_ble_eq_true rfl)) dX12_next_40 ⟨Nat.le_of_ble_eq_true rfl, Nat.le_of_ble_eq_true rfl⟩) (fun r u1 H locs hp hW hS => ?_)
          obtain ⟨e9, hp⟩ := hp
          rw [e9] at hW
          refine lv_topi (fun x24 ex24 => ?_)
          have hhx24 : x24 = z_hr I22 := ex24.trans hp.1
          have h25 := hp.2
          rw [← ex24] at h25
          rw [show (I22 0 34) = (I2 0 34) from by rw [eI22, z_up_k (by decide)]] at h25
          rw [show (I22 0 33) = (I2 0 33) from by rw [eI22, z_up_k (by decide)]] at h25
          refine lv_istore_n (lv' := [(1, .int x24), (0, .ref (ad 0))]) hx hb dX12_next_43 rfl hl (by decide) rfl (fun ls hl => ?_)
          refine lv_aload_n hx hb dX12_next_44 rfl (lv_at hl 1 rfl) ?_
          refine lv_ldc2 (v := (-1)) hx hb hown (hts (.constantLong RX12 269 (-1)) (me_s (me_l (me_l (List.mem_of_getElem? (i := 2) rfl))))) dX12_next_45 ?_
          refine z_put (T := TX12) (N := 96) (ci := 12) (i := 0) (v := .long (-1)) (I1 := I22) (J1 := z_up J3 0 41 (-1)) (P1 := PM ad) hx hb hts zj_X12_next_X12 tyX12 tyX12_ok nmX12 hown hK hW hS rfl rfl 41 (by decide) (hts (.fieldLink RX12 271 "PetrolBoardModel" "word" "J") (me_s (me_l (me_l (List.mem_of_getElem? (i := 3) rfl))))) (fun _ h => h) rfl rfl rfl (by first | rfl | exact congrArg _ z_up_s) (fun a b h ty => z_vJ h ty) dX12_next_48 (fun H locs hz1 hW hS => ?_)
          obtain ⟨J26, eJ26⟩ : ∃ K : z_J, K = z_up J3 0 41 (-1) := ⟨_, rfl⟩
          rw [← eJ26] at hW
          refine lv_aload_n hx hb dX12_next_51 rfl (lv_at hl 1 rfl) ?_
          refine lv_iconst (v := 0) hx hb dX12_next_52 (by decide) ?_
          refine z_put (T := TX12) (N := 96) (ci := 12) (i := 0) (v := .int 0) (I1 := z_up I22 0 37 0) (J1 := J26) (P1 := PM ad) hx hb hts zj_X12_next_X12 tyX12 tyX12_ok nmX12 hown hK hW hS rfl rfl 37 (by decide) (hts (.fieldLink RX12 275 "PetrolBoardModel" "sign" "I") (me_s (me_l (me_l (List.mem_of_getElem? (i := 4) rfl))))) (fun _ h => h) rfl rfl rfl (by first | rfl | exact congrArg _ z_up_s) (fun a b h ty => z_vI h ty) dX12_next_53 (fun H locs hz1 hW hS => ?_)
          obtain ⟨I27, eI27⟩ : ∃ K : z_I, K = z_up I22 0 37 0 := ⟨_, rfl⟩
          rw [← eI27] at hW
          have f28 := z_fr_k f23 (show z_wr L_X12_next 0 37 = true by decide) eI27
          refine lv_aload_n hx hb dX12_next_56 rfl (lv_at hl 1 rfl) ?_
          refine lv_iconst (v := 0) hx hb dX12_next_57 (by decide) ?_
          refine z_put (T := TX12) (N := 96) (ci := 12) (i := 0) (v := .int 0) (I1 := z_up I27 0 38 0) (J1 := J26) (P1 := PM ad) hx hb hts zj_X12_next_X12 tyX12 tyX12_ok nmX12 hown hK hW hS rfl rfl 38 (by decide) (hts (.fieldLink RX12 278 "PetrolBoardModel" "value" "I") (me_s (me_l (me_l (List.mem_of_getElem? (i := 5) rfl))))) (fun _ h => h) rfl rfl rfl (by first | rfl | exact congrArg _ z_up_s) (fun a b h ty => z_vI h ty) dX12_next_58 (fun H locs hz1 hW hS => ?_)
          obtain ⟨I29, eI29⟩ : ∃ K : z_I, K = z_up I27 0 38 0 := ⟨_, rfl⟩
          rw [← eI29] at hW
          have f30 := z_fr_k f28 (show z_wr L_X12_next 0 38 = true by decide) eI29
          refine lv_iload_n hx hb dX12_next_61 rfl (lv_at hl 0 rfl) ?_
          refine lv_if_ge (tgt := 73) hx hb dX12_next_62 (by decide) (fun c31 => ?_) (fun c31 => ?_)
          · have g32 := z_f_ge rfl z_l0 c31
            have b33 := Int32.toInt_lt x24
            refine lv_iload_n hx hb dX12_next_73 rfl (lv_at hl 0 rfl) ?_
            refine lv_bipush (v := 97) hx hb dX12_next_74 (by decide) ?_
            refine lv_bipush (v := 122) hx hb dX12_next_76 (by decide) ?_
            refine z_ci hW hS hA (va_runS (As := [.int x24, .int 97, .int 122]) (rest := []) ⟨hx, hb, hml, hown, hts⟩ (sx_X12_within2 l G ad I29 J26  x24 97 122 _) (va_cwS 3 hts gX12_next_X12_within rfl rfl rfl hy_X12_within.2 ⟨Nat.le_of_ble_eq_true rfl, Nat.le_of_ble_eq_true rfl⟩) (z_preS hK hW) rfl rfl hl.1 rfl (lv_room (Nat.le_of_ble_eq_true rfl)) dX12_next_78 ⟨Nat.le_of_ble_eq_true rfl, Nat.le_of_ble_eq_true rfl⟩) (fun r u1 H locs hp hW hS => ?_)
            obtain ⟨e9, hp⟩ := hp
            rw [e9] at hW
            rcases hp with ⟨rfl, h8, h9⟩ | ⟨rfl, h8⟩
            · have h34 := z_t_le z_l97 rfl h8
              have h35 := z_t_le rfl z_l122 h9
              refine lv_if_eq (tgt := 162) hx hb dX12_next_81 (by decide) (fun c36 => absurd c36 (by decide)) (fun c36 => ?_)
              refine lv_aload_n hx hb dX12_next_84 rfl (lv_at hl 1 rfl) ?_
              refine lv_iconst (v := 1) hx hb dX12_next_85 (by decide) ?_
              refine z_put (T := TX12) (N := 96) (ci := 12) (i := 0) (v := .int 1) (I1 := z_up I29 0 36 1) (J1 := J26) (P1 := PM ad) hx hb hts zj_X12_next_X12 tyX12 tyX12_ok nmX12 hown hK hW hS rfl rfl 36 (by decide) (hts (.fieldLink RX12 281 "PetrolBoardModel" "token" "I") (me_s (me_l (me_l (List.mem_of_getElem? (i := 6) rfl))))) (fun _ h => h) rfl rfl rfl (by first | rfl | exact congrArg _ z_up_s) (fun a b h ty => z_vI h ty) dX12_next_86 (fun H locs hz1 hW hS => ?_)
              obtain ⟨I37, eI37⟩ : ∃ K : z_I, K = z_up I29 0 36 1 := ⟨_, rfl⟩
              rw [← eI37] at hW
              have f38 := z_fr_k f30 (show z_wr L_X12_next 0 36 = true by decide) eI37
              refine lv_aload_n hx hb dX12_next_89 rfl (lv_at hl 1 rfl) ?_
              refine lv_lconst (v := 0) hx hb dX12_next_90 (by decide) ?_
              refine z_put (T := TX12) (N := 96) (ci := 12) (i := 0) (v := .long 0) (I1 := I37) (J1 := z_up J26 0 41 0) (P1 := PM ad) hx hb hts zj_X12_next_X12 tyX12 tyX12_ok nmX12 hown hK hW hS rfl rfl 41 (by decide) (hts (.fieldLink RX12 271 "PetrolBoardModel" "word" "J") (me_s (me_l (me_l (List.mem_of_getElem? (i := 3) rfl))))) (fun _ h => h) rfl rfl rfl (by first | rfl | exact congrArg _ z_up_s) (fun a b h ty => z_vJ h ty) dX12_next_91 (fun H locs hz1 hW hS => ?_)
              obtain ⟨J39, eJ39⟩ : ∃ K : z_J, K = z_up J26 0 41 0 := ⟨_, rfl⟩
              rw [← eJ39] at hW
              have lp40 : ∀ (f : Nat)  (I41 : z_I) (J42 : z_J) (H : Heap) (locs : List Loc) (ls : Array Slot), (501 - (I41 0 34).toInt ≤ (f : Int)) → (z_imp I41) → (z_imt I41) → (z_iru I41) → ((I 0 34).toInt ≤ (I41 0 35).toInt) → ((I41 0 34).toInt = (I41 0 35).toInt → z_hr I41 = x24) → (z_fr L_X12_next I41 I) → z_W G A (shM, ad, I41, J42, PM ad) H → va_S A s.heap H locs → lv_has ls 2 [(1, .int x24), (0, .ref (ad 0))] → W p l e (headSpec wsX12_next { frames := 2, cells := 0, slots := 0, locals := 34 }).room s m ([.ref (ad 0)] : List Value).toArray below meth c0 H locs 0 0 (MQ below (va_Qv (fun (u1 : z_U) => ∃ (I1 : z_I) (J1 : z_J), u1 = (shM, ad, I1, J1, PM ad) ∧ z_imp I1 ∧ z_imt I1 ∧ z_irp I1 ∧ z_fr L_X12_next I1 I ∧ (I 0 34).toInt ≤ (I1 0 35).toInt) (z_B G A) A) ([.ref (ad 0)] : List Value).toArray s 0 0 A) (F0 m 94 ls []) := by
                intro f
                induction f with
                | zero => intro  I41 J42 H locs ls lp40m lp40mp lp40mt lp40ru lp40P0 lp40X lp40fr hW hS hl; exact False.elim (by have : 0 ≤ (I41 0 35).toInt ∧ (I41 0 35).toInt ≤ (I41 0 34).toInt ∧ (I41 0 34).toInt ≤ (I41 0 33).toInt ∧ (I41 0 33).toInt ≤ 500 := lp40ru; omega)
                | succ f lp40ih =>
                  intro  I41 J42 H locs ls lp40m lp40mp lp40mt lp40ru lp40P0 lp40X lp40fr hW hS hl
                  have k43 : 0 ≤ (I41 0 35).toInt ∧ (I41 0 35).toInt ≤ (I41 0 34).toInt ∧ (I41 0 34).toInt ≤ (I41 0 33).toInt ∧ (I41 0 33).toInt ≤ 500 := lp40ru
                  refine lv_aload_n hx hb dX12_next_94 rfl (lv_at hl 1 rfl) ?_
                  refine z_ci hW hS hA (va_runV (As := []) (rest := []) ⟨hx, hb, hml, hown, hts⟩ (sx_X12_here l G ad I41 J42 ⟨(by show 0 ≤ (I41 0 31).toInt ∧ (I41 0 31).toInt ≤ 500; exact lp40mp.1), (by show 0 ≤ (I41 0 33).toInt ∧ (I41 0 33).toInt ≤ 500; exact lp40mp.2.1), (by show 0 ≤ (I41 0 34).toInt ∧ (I41 0 34).toInt ≤ 500; exact lp40mp.2.2.1), (by show 0 ≤ (I41 0 35).toInt ∧ (I41 0 35).toInt ≤ 500; exact lp40mp.2.2.2)⟩ (by show 0 ≤ (I41 0 34).toInt ∧ (I41 0 34).toInt ≤ (I41 0 33).toInt ∧ (I41 0 33).toInt ≤ 500; first | omega | decide)  _) (cwV 0 hts gX12_next_X12_here rfl rfl rfl hy_X12_here ⟨Nat.le_of_ble_eq_true rfl, Nat.le_of_ble_eq_true rfl⟩) (z_preV (i := 0) hK hW rfl rfl) rfl rfl hl.1 rfl (lv_room (Nat.le_of_ble_eq_true rfl)) dX12_next_95 ⟨Nat.le_of_ble_eq_true rfl, Nat.le_of_ble_eq_true rfl⟩) (fun r u1 H locs hp hW hS => ?_)
                  obtain ⟨e9, hp⟩ := hp
                  rw [e9] at hW
                  refine lv_topi (fun x44 ex44 => ?_)
                  have hhx44 : x44 = z_hr I41 := ex44.trans hp.1
                  have h45 := hp.2
                  rw [← ex44] at h45
                  refine lv_bipush (v := 97) hx hb dX12_next_98 (by decide) ?_
                  refine lv_bipush (v := 122) hx hb dX12_next_100 (by decide) ?_
                  refine z_ci hW hS hA (va_runS (As := [.int x44, .int 97, .int 122]) (rest := []) ⟨hx, hb, hml, hown, hts⟩ (sx_X12_within2 l G ad I41 J42  x44 97 122 _) (va_cwS 3 hts gX12_next_X12_within rfl rfl rfl hy_X12_within.2 ⟨Nat.le_of_ble_eq_true rfl, Nat.le_of_ble_eq_true rfl⟩) (z_preS hK hW) rfl rfl hl.1 rfl (lv_room (Nat.le_of_ble_eq_true rfl)) dX12_next_102 ⟨Nat.le_of_ble_eq_true rfl, Nat.le_of_ble_eq_true rfl⟩) (fun r u1 H locs hp hW hS => ?_)
                  obtain ⟨e9, hp⟩ := hp
                  rw [e9] at hW
                  rcases hp with ⟨rfl, h8, h9⟩ | ⟨rfl, h8⟩
                  · have h46 := z_t_le z_l97 rfl h8
                    have h47 := z_t_le rfl z_l122 h9
                    refine lv_if_eq (tgt := 282) hx hb dX12_next_105 (by decide) (fun c48 => absurd c48 (by decide)) (fun c48 => ?_)
                    refine lv_aload_n hx hb dX12_next_108 rfl (lv_at hl 1 rfl) ?_
                    refine lv_aload_n hx hb dX12_next_109 rfl (lv_at hl 1 rfl) ?_
                    have r49 : 0 ≤ (I41 0 34).toInt ∧ (I41 0 34).toInt ≤ 500 := lp40mp.2.2.1
                    refine z_get (T := TX12) (N := 96) (ci := 12) (i := 0) (v := .int (I41 0 34)) hx hb hts zj_X12_next_X12 hown hK hW rfl rfl 34 (by decide) (hts (.fieldLink RX12 256 "PetrolBoardModel" "point" "I") (me_s (me_l (me_l (List.mem_of_getElem? (i := 0) rfl))))) (fun _ h => h) rfl dX12_next_110 ?_
                    refine lv_aload_n hx hb dX12_next_113 rfl (lv_at hl 1 rfl) ?_
                    have r50 : 0 ≤ (I41 0 35).toInt ∧ (I41 0 35).toInt ≤ 500 := lp40mp.2.2.2
                    refine z_get (T := TX12) (N := 96) (ci := 12) (i := 0) (v := .int (I41 0 35)) hx hb hts zj_X12_next_X12 hown hK hW rfl rfl 35 (by decide) (hts (.fieldLink RX12 266 "PetrolBoardModel" "from" "I") (me_s (me_l (me_l (List.mem_of_getElem? (i := 1) rfl))))) (fun _ h => h) rfl dX12_next_114 ?_
                    refine lv_isub hx hb dX12_next_117 ?_
                    refine lv_topi (fun x51 ex51 => ?_)
                    have tx51 : x51.toInt = (I41 0 34).toInt - (I41 0 35).toInt := z_tsub ex51 rfl rfl (by omega) (by omega)
                    refine lv_bipush (v := 10) hx hb dX12_next_118 (by decide) ?_
                    refine lv_icmp_ge (tgt := 143) hx hb dX12_next_120 (by decide) (fun c52 => ?_) (fun c52 => ?_)
                    · have g53 := z_f_ge rfl z_l10 c52
                      refine lv_ldc2 (v := (-1)) hx hb hown (hts (.constantLong RX12 269 (-1)) (me_s (me_l (me_l (List.mem_of_getElem? (i := 2) rfl))))) dX12_next_143 ?_
                      refine z_put (T := TX12) (N := 96) (ci := 12) (i := 0) (v := .long (-1)) (I1 := I41) (J1 := z_up J42 0 41 (-1)) (P1 := PM ad) hx hb hts zj_X12_next_X12 tyX12 tyX12_ok nmX12 hown hK hW hS rfl rfl 41 (by decide) (hts (.fieldLink RX12 271 "PetrolBoardModel" "word" "J") (me_s (me_l (me_l (List.mem_of_getElem? (i := 3) rfl))))) (fun _ h => h) rfl rfl rfl (by first | rfl | exact congrArg _ z_up_s) (fun a b h ty => z_vJ h ty) dX12_next_146 (fun H locs hz1 hW hS => ?_)
                      obtain ⟨J54, eJ54⟩ : ∃ K : z_J, K = z_up J42 0 41 (-1) := ⟨_, rfl⟩
                      rw [← eJ54] at hW
                      refine lv_aload_n hx hb dX12_next_149 rfl (lv_at hl 1 rfl) ?_
                      refine lv_dup hx hb dX12_next_150 rfl ?_
                      refine z_get (T := TX12) (N := 96) (ci := 12) (i := 0) (v := .int (I41 0 34)) hx hb hts zj_X12_next_X12 hown hK hW rfl rfl 34 (by decide) (hts (.fieldLink RX12 256 "PetrolBoardModel" "point" "I") (me_s (me_l (me_l (List.mem_of_getElem? (i := 0) rfl))))) (fun _ h => h) rfl dX12_next_151 ?_
                      refine lv_iconst (v := 1) hx hb dX12_next_154 (by decide) ?_
                      refine lv_iadd hx hb dX12_next_155 ?_
                      refine lv_topi (fun x55 ex55 => ?_)
                      have tx55 : x55.toInt = (I41 0 34).toInt + 1 := z_tadd ex55 rfl z_l1 (by omega) (by omega)
                      refine z_put (T := TX12) (N := 96) (ci := 12) (i := 0) (v := .int x55) (I1 := z_up I41 0 34 x55) (J1 := J54) (P1 := PM ad) hx hb hts zj_X12_next_X12 tyX12 tyX12_ok nmX12 hown hK hW hS rfl rfl 34 (by decide) (hts (.fieldLink RX12 256 "PetrolBoardModel" "point" "I") (me_s (me_l (me_l (List.mem_of_getElem? (i := 0) rfl))))) (fun _ h => h) rfl rfl rfl (by first | rfl | exact congrArg _ z_up_s) (fun a b h ty => z_vI h ty) dX12_next_156 (fun H locs hz1 hW hS => ?_)
                      obtain ⟨I56, eI56⟩ : ∃ K : z_I, K = z_up I41 0 34 x55 := ⟨_, rfl⟩
                      rw [← eI56] at hW
                      have f57 := z_fr_k lp40fr (show z_wr L_X12_next 0 34 = true by decide) eI56
                      refine lv_goto (tgt := 94) hx hb dX12_next_159 (by decide) ?_
                      exact lp40ih  I56 J54 _ _ _ (by show 501 - (I56 0 34).toInt ≤ (f : Int); have q9 : (I56 0 34) = x55 := (by rw [eI56, z_up_s]); rw [q9]; first | omega | decide) ⟨(by show 0 ≤ (I56 0 31).toInt ∧ (I56 0 31).toInt ≤ 500; rw [eI56, z_up_k (by decide)]; exact lp40mp.1), (by show 0 ≤ (I56 0 33).toInt ∧ (I56 0 33).toInt ≤ 500; rw [eI56, z_up_k (by decide)]; exact lp40mp.2.1), (by show 0 ≤ (I56 0 34).toInt ∧ (I56 0 34).toInt ≤ 500; rw [eI56, z_up_s]; omega), (by show 0 ≤ (I56 0 35).toInt ∧ (I56 0 35).toInt ≤ 500; rw [eI56, z_up_k (by decide)]; exact lp40mp.2.2.2)⟩ ⟨(by show 0 ≤ (I56 0 36).toInt ∧ (I56 0 36).toInt ≤ 4; rw [eI56, z_up_k (by decide)]; exact lp40mt.1), (by show 0 ≤ (I56 0 42).toInt ∧ (I56 0 42).toInt ≤ 1; rw [eI56, z_up_k (by decide)]; exact lp40mt.2)⟩ (by have q0 : (I56 0 35) = (I41 0 35) := (by rw [eI56, z_up_k (by decide)]); have q1 : (I56 0 34) = x55 := (by rw [eI56, z_up_s]); have q2 : (I56 0 33) = (I41 0 33) := (by rw [eI56, z_up_k (by decide)]); show 0 ≤ (I56 0 35).toInt ∧ (I56 0 35).toInt ≤ (I56 0 34).toInt ∧ (I56 0 34).toInt ≤ (I56 0 33).toInt ∧ (I56 0 33).toInt ≤ 500; rw [q0, q1, q2]; first | omega | decide) (by have q0 : (I56 0 35) = (I41 0 35) := (by rw [eI56, z_up_k (by decide)]); show (I 0 34).toInt ≤ (I56 0 35).toInt; rw [q0]; omega) (fun q => absurd q (by have q1 : (I56 0 34) = x55 := (by rw [eI56, z_up_s]); have q2 : (I56 0 35) = (I41 0 35) := (by rw [eI56, z_up_k (by decide)]); rw [q1, q2]; omega)) f57 hW hS (lv_sub hl [0, 1] rfl)
                    · have g58 := z_f_nge rfl z_l10 c52
                      refine lv_aload_n hx hb dX12_next_123 rfl (lv_at hl 1 rfl) ?_
                      refine z_get (T := TX12) (N := 96) (ci := 12) (i := 0) (v := .long (J42 0 41)) hx hb hts zj_X12_next_X12 hown hK hW rfl rfl 41 (by decide) (hts (.fieldLink RX12 271 "PetrolBoardModel" "word" "J") (me_s (me_l (me_l (List.mem_of_getElem? (i := 3) rfl))))) (fun _ h => h) rfl dX12_next_124 ?_
                      refine lv_ldc2 (v := 27) hx hb hown (hts (.constantLong RX12 284 (27)) (me_s (me_l (me_l (List.mem_of_getElem? (i := 7) rfl))))) dX12_next_127 ?_
                      refine lv_lmul hx hb dX12_next_130 ?_
                      refine lv_topl (fun w59 ew59 => ?_)
                      refine lv_aload_n hx hb dX12_next_131 rfl (lv_at hl 1 rfl) ?_
                      refine z_ci hW hS hA (va_runV (As := []) (rest := [.long w59, .ref (ad 0)]) ⟨hx, hb, hml, hown, hts⟩ (sx_X12_here l G ad I41 J42 ⟨(by show 0 ≤ (I41 0 31).toInt ∧ (I41 0 31).toInt ≤ 500; exact lp40mp.1), (by show 0 ≤ (I41 0 33).toInt ∧ (I41 0 33).toInt ≤ 500; exact lp40mp.2.1), (by show 0 ≤ (I41 0 34).toInt ∧ (I41 0 34).toInt ≤ 500; exact lp40mp.2.2.1), (by show 0 ≤ (I41 0 35).toInt ∧ (I41 0 35).toInt ≤ 500; exact lp40mp.2.2.2)⟩ (by show 0 ≤ (I41 0 34).toInt ∧ (I41 0 34).toInt ≤ (I41 0 33).toInt ∧ (I41 0 33).toInt ≤ 500; first | omega | decide)  _) (cwV 0 hts gX12_next_X12_here rfl rfl rfl hy_X12_here ⟨Nat.le_of_ble_eq_true rfl, Nat.le_of_ble_eq_true rfl⟩) (z_preV (i := 0) hK hW rfl rfl) rfl rfl hl.1 rfl (lv_room (Nat.le_of_ble_eq_true rfl)) dX12_next_132 ⟨Nat.le_of_ble_eq_true rfl, Nat.le_of_ble_eq_true rfl⟩) (fun r u1 H locs hp hW hS => ?_)
                      obtain ⟨e9, hp⟩ := hp
                      rw [e9] at hW
                      refine lv_topi (fun x60 ex60 => ?_)
                      have hhx60 : x60 = z_hr I41 := ex60.trans hp.1
                      have h61 := hp.2
                      rw [← ex60] at h61
                      refine lv_bipush (v := 96) hx hb dX12_next_135 (by decide) ?_
                      refine lv_isub hx hb dX12_next_137 ?_
                      refine lv_topi (fun x62 ex62 => ?_)
                      refine lv_i2l (v := x62.toInt64) hx hb dX12_next_138 rfl ?_
                      refine lv_topl (fun w63 ew63 => ?_)
                      refine lv_ladd hx hb dX12_next_139 ?_
                      refine lv_topl (fun w64 ew64 => ?_)
                      refine lv_goto (tgt := 146) hx hb dX12_next_140 (by decide) ?_
                      refine z_put (T := TX12) (N := 96) (ci := 12) (i := 0) (v := .long w64) (I1 := I41) (J1 := z_up J42 0 41 w64) (P1 := PM ad) hx hb hts zj_X12_next_X12 tyX12 tyX12_ok nmX12 hown hK hW hS rfl rfl 41 (by decide) (hts (.fieldLink RX12 271 "PetrolBoardModel" "word" "J") (me_s (me_l (me_l (List.mem_of_getElem? (i := 3) rfl))))) (fun _ h => h) rfl rfl rfl (by first | rfl | exact congrArg _ z_up_s) (fun a b h ty => z_vJ h ty) dX12_next_146 (fun H locs hz1 hW hS => ?_)
                      obtain ⟨J65, eJ65⟩ : ∃ K : z_J, K = z_up J42 0 41 w64 := ⟨_, rfl⟩
                      rw [← eJ65] at hW
                      refine lv_aload_n hx hb dX12_next_149 rfl (lv_at hl 1 rfl) ?_
                      refine lv_dup hx hb dX12_next_150 rfl ?_
                      refine z_get (T := TX12) (N := 96) (ci := 12) (i := 0) (v := .int (I41 0 34)) hx hb hts zj_X12_next_X12 hown hK hW rfl rfl 34 (by decide) (hts (.fieldLink RX12 256 "PetrolBoardModel" "point" "I") (me_s (me_l (me_l (List.mem_of_getElem? (i := 0) rfl))))) (fun _ h => h) rfl dX12_next_151 ?_
                      refine lv_iconst (v := 1) hx hb dX12_next_154 (by decide) ?_
                      refine lv_iadd hx hb dX12_next_155 ?_
                      refine lv_topi (fun x66 ex66 => ?_)
                      have tx66 : x66.toInt = (I41 0 34).toInt + 1 := z_tadd ex66 rfl z_l1 (by omega) (by omega)
                      refine z_put (T := TX12) (N := 96) (ci := 12) (i := 0) (v := .int x66) (I1 := z_up I41 0 34 x66) (J1 := J65) (P1 := PM ad) hx hb hts zj_X12_next_X12 tyX12 tyX12_ok nmX12 hown hK hW hS rfl rfl 34 (by decide) (hts (.fieldLink RX12 256 "PetrolBoardModel" "point" "I") (me_s (me_l (me_l (List.mem_of_getElem? (i := 0) rfl))))) (fun _ h => h) rfl rfl rfl (by first | rfl | exact congrArg _ z_up_s) (fun a b h ty => z_vI h ty) dX12_next_156 (fun H locs hz1 hW hS => ?_)
                      obtain ⟨I67, eI67⟩ : ∃ K : z_I, K = z_up I41 0 34 x66 := ⟨_, rfl⟩
                      rw [← eI67] at hW
                      have f68 := z_fr_k lp40fr (show z_wr L_X12_next 0 34 = true by decide) eI67
                      refine lv_goto (tgt := 94) hx hb dX12_next_159 (by decide) ?_
                      exact lp40ih  I67 J65 _ _ _ (by show 501 - (I67 0 34).toInt ≤ (f : Int); have q9 : (I67 0 34) = x66 := (by rw [eI67, z_up_s]); rw [q9]; first | omega | decide) ⟨(by show 0 ≤ (I67 0 31).toInt ∧ (I67 0 31).toInt ≤ 500; rw [eI67, z_up_k (by decide)]; exact lp40mp.1), (by show 0 ≤ (I67 0 33).toInt ∧ (I67 0 33).toInt ≤ 500; rw [eI67, z_up_k (by decide)]; exact lp40mp.2.1), (by show 0 ≤ (I67 0 34).toInt ∧ (I67 0 34).toInt ≤ 500; rw [eI67, z_up_s]; omega), (by show 0 ≤ (I67 0 35).toInt ∧ (I67 0 35).toInt ≤ 500; rw [eI67, z_up_k (by decide)]; exact lp40mp.2.2.2)⟩ ⟨(by show 0 ≤ (I67 0 36).toInt ∧ (I67 0 36).toInt ≤ 4; rw [eI67, z_up_k (by decide)]; exact lp40mt.1), (by show 0 ≤ (I67 0 42).toInt ∧ (I67 0 42).toInt ≤ 1; rw [eI67, z_up_k (by decide)]; exact lp40mt.2)⟩ (by have q0 : (I67 0 35) = (I41 0 35) := (by rw [eI67, z_up_k (by decide)]); have q1 : (I67 0 34) = x66 := (by rw [eI67, z_up_s]); have q2 : (I67 0 33) = (I41 0 33) := (by rw [eI67, z_up_k (by decide)]); show 0 ≤ (I67 0 35).toInt ∧ (I67 0 35).toInt ≤ (I67 0 34).toInt ∧ (I67 0 34).toInt ≤ (I67 0 33).toInt ∧ (I67 0 33).toInt ≤ 500; rw [q0, q1, q2]; first | omega | decide) (by have q0 : (I67 0 35) = (I41 0 35) := (by rw [eI67, z_up_k (by decide)]); show (I 0 34).toInt ≤ (I67 0 35).toInt; rw [q0]; omega) (fun q => absurd q (by have q1 : (I67 0 34) = x66 := (by rw [eI67, z_up_s]); have q2 : (I67 0 35) = (I41 0 35) := (by rw [eI67, z_up_k (by decide)]); rw [q1, q2]; omega)) f68 hW hS (lv_sub hl [0, 1] rfl)
                  · rw [z_l97, z_l122] at h8
                    have h69 := h8
                    refine lv_if_eq (tgt := 282) hx hb dX12_next_105 (by decide) (fun c70 => ?_) (fun c70 => absurd (by decide) c70)
                    have h71 : (I41 0 34).toInt ≠ (I41 0 35).toInt := fun q => by have q1 := lp40X q; rw [← hhx44] at q1; have q2 := congrArg Int32.toInt q1; omega
                    exact z_vret hx hb hr hK hS (Nat.le_of_ble_eq_true rfl) (Nat.le_of_ble_eq_true rfl) hlocks dX12_next_282 (shM, ad, I41, J42, PM ad) hW ⟨I41, J42, rfl, ⟨(by show 0 ≤ (I41 0 31).toInt ∧ (I41 0 31).toInt ≤ 500; exact lp40mp.1), (by show 0 ≤ (I41 0 33).toInt ∧ (I41 0 33).toInt ≤ 500; exact lp40mp.2.1), (by show 0 ≤ (I41 0 34).toInt ∧ (I41 0 34).toInt ≤ 500; exact lp40mp.2.2.1), (by show 0 ≤ (I41 0 35).toInt ∧ (I41 0 35).toInt ≤ 500; exact lp40mp.2.2.2)⟩, ⟨(by show 0 ≤ (I41 0 36).toInt ∧ (I41 0 36).toInt ≤ 4; exact lp40mt.1), (by show 0 ≤ (I41 0 42).toInt ∧ (I41 0 42).toInt ≤ 1; exact lp40mt.2)⟩, (by show 0 ≤ (I41 0 35).toInt ∧ (I41 0 35).toInt ≤ (I41 0 34).toInt ∧ (I41 0 34).toInt ≤ (I41 0 33).toInt ∧ (I41 0 33).toInt ≤ 500 ∧ ((I41 0 36).toInt = 0 ∨ (I41 0 35).toInt + 1 ≤ (I41 0 34).toInt); first | omega | decide), lp40fr, (by show (I 0 34).toInt ≤ (I41 0 35).toInt; omega)⟩
              exact lp40 502  I37 J39 _ _ _ (by show 501 - (I37 0 34).toInt ≤ ((502 : Nat) : Int); have q9 : (I37 0 34) = (I2 0 34) := (by rw [eI37, z_up_k (by decide), eI29, z_up_k (by decide), eI27, z_up_k (by decide), eI22, z_up_k (by decide)]); rw [q9]; first | omega | decide) ⟨(by show 0 ≤ (I37 0 31).toInt ∧ (I37 0 31).toInt ≤ 500; rw [eI37, z_up_k (by decide), eI29, z_up_k (by decide), eI27, z_up_k (by decide), eI22, z_up_k (by decide)]; exact lp1mp.1), (by show 0 ≤ (I37 0 33).toInt ∧ (I37 0 33).toInt ≤ 500; rw [eI37, z_up_k (by decide), eI29, z_up_k (by decide), eI27, z_up_k (by decide), eI22, z_up_k (by decide)]; exact lp1mp.2.1), (by show 0 ≤ (I37 0 34).toInt ∧ (I37 0 34).toInt ≤ 500; rw [eI37, z_up_k (by decide), eI29, z_up_k (by decide), eI27, z_up_k (by decide), eI22, z_up_k (by decide)]; exact lp1mp.2.2.1), (by show 0 ≤ (I37 0 35).toInt ∧ (I37 0 35).toInt ≤ 500; rw [eI37, z_up_k (by decide), eI29, z_up_k (by decide), eI27, z_up_k (by decide), eI22, z_up_s]; omega)⟩ ⟨(by show 0 ≤ (I37 0 36).toInt ∧ (I37 0 36).toInt ≤ 4; rw [eI37, z_up_s]; decide), (by show 0 ≤ (I37 0 42).toInt ∧ (I37 0 42).toInt ≤ 1; rw [eI37, z_up_k (by decide), eI29, z_up_k (by decide), eI27, z_up_k (by decide), eI22, z_up_k (by decide)]; exact lp1mt.2)⟩ (by have q0 : (I37 0 35) = (I2 0 34) := (by rw [eI37, z_up_k (by decide), eI29, z_up_k (by decide), eI27, z_up_k (by decide), eI22, z_up_s]); have q1 : (I37 0 34) = (I2 0 34) := (by rw [eI37, z_up_k (by decide), eI29, z_up_k (by decide), eI27, z_up_k (by decide), eI22, z_up_k (by decide)]); have q2 : (I37 0 33) = (I2 0 33) := (by rw [eI37, z_up_k (by decide), eI29, z_up_k (by decide), eI27, z_up_k (by decide), eI22, z_up_k (by decide)]); show 0 ≤ (I37 0 35).toInt ∧ (I37 0 35).toInt ≤ (I37 0 34).toInt ∧ (I37 0 34).toInt ≤ (I37 0 33).toInt ∧ (I37 0 33).toInt ≤ 500; rw [q0, q1, q2]; first | omega | decide) (by have q0 : (I37 0 35) = (I2 0 34) := (by rw [eI37, z_up_k (by decide), eI29, z_up_k (by decide), eI27, z_up_k (by decide), eI22, z_up_s]); show (I 0 34).toInt ≤ (I37 0 35).toInt; rw [q0]; omega) (fun _ => (z_hr_c (I := I2) (K := I37) (by rw [eI37, z_up_k (by decide), eI29, z_up_k (by decide), eI27, z_up_k (by decide), eI22, z_up_k (by decide)]) (by rw [eI37, z_up_k (by decide), eI29, z_up_k (by decide), eI27, z_up_k (by decide), eI22, z_up_k (by decide)]) (fun k => by rw [eI37, z_up_n (by decide), eI29, z_up_n (by decide), eI27, z_up_n (by decide), eI22, z_up_n (by decide)])).trans (((z_hr_c (I := I2) (K := I22) (by rw [eI22, z_up_k (by decide)]) (by rw [eI22, z_up_k (by decide)]) (fun k => by rw [eI22, z_up_n (by decide)])).symm).trans hhx24.symm)) f38 hW hS (lv_sub hl [0, 1] rfl)
            · rw [z_l97, z_l122] at h8
              have h72 := h8
              refine lv_if_eq (tgt := 162) hx hb dX12_next_81 (by decide) (fun c73 => ?_) (fun c73 => absurd (by decide) c73)
              refine lv_iload_n hx hb dX12_next_162 rfl (lv_at hl 0 rfl) ?_
              refine lv_bipush (v := 48) hx hb dX12_next_163 (by decide) ?_
              refine lv_bipush (v := 57) hx hb dX12_next_165 (by decide) ?_
              refine z_ci hW hS hA (va_runS (As := [.int x24, .int 48, .int 57]) (rest := []) ⟨hx, hb, hml, hown, hts⟩ (sx_X12_within2 l G ad I29 J26  x24 48 57 _) (va_cwS 3 hts gX12_next_X12_within rfl rfl rfl hy_X12_within.2 ⟨Nat.le_of_ble_eq_true rfl, Nat.le_of_ble_eq_true rfl⟩) (z_preS hK hW) rfl rfl hl.1 rfl (lv_room (Nat.le_of_ble_eq_true rfl)) dX12_next_167 ⟨Nat.le_of_ble_eq_true rfl, Nat.le_of_ble_eq_true rfl⟩) (fun r u1 H locs hp hW hS => ?_)
              obtain ⟨e9, hp⟩ := hp
              rw [e9] at hW
              rcases hp with ⟨rfl, h8, h9⟩ | ⟨rfl, h8⟩
              · have h74 := z_t_le z_l48 rfl h8
                have h75 := z_t_le rfl z_l57 h9
                refine lv_if_eq (tgt := 251) hx hb dX12_next_170 (by decide) (fun c76 => absurd c76 (by decide)) (fun c76 => ?_)
                have lp77 : ∀ (f : Nat)  (I78 : z_I) (J79 : z_J) (H : Heap) (locs : List Loc) (ls : Array Slot), (501 - (I78 0 34).toInt ≤ (f : Int)) → (z_imp I78) → (z_imt I78) → (z_iru I78) → ((I 0 34).toInt ≤ (I78 0 35).toInt) → ((I78 0 34).toInt = (I78 0 35).toInt → z_hr I78 = x24) → (z_fr L_X12_next I78 I) → z_W G A (shM, ad, I78, J79, PM ad) H → va_S A s.heap H locs → lv_has ls 2 [(1, .int x24), (0, .ref (ad 0))] → W p l e (headSpec wsX12_next { frames := 2, cells := 0, slots := 0, locals := 34 }).room s m ([.ref (ad 0)] : List Value).toArray below meth c0 H locs 0 0 (MQ below (va_Qv (fun (u1 : z_U) => ∃ (I1 : z_I) (J1 : z_J), u1 = (shM, ad, I1, J1, PM ad) ∧ z_imp I1 ∧ z_imt I1 ∧ z_irp I1 ∧ z_fr L_X12_next I1 I ∧ (I 0 34).toInt ≤ (I1 0 35).toInt) (z_B G A) A) ([.ref (ad 0)] : List Value).toArray s 0 0 A) (F0 m 173 ls []) := by
                  intro f
                  induction f with
                  | zero => intro  I78 J79 H locs ls lp77m lp77mp lp77mt lp77ru lp77P0 lp77X lp77fr hW hS hl; exact False.elim (by have : 0 ≤ (I78 0 35).toInt ∧ (I78 0 35).toInt ≤ (I78 0 34).toInt ∧ (I78 0 34).toInt ≤ (I78 0 33).toInt ∧ (I78 0 33).toInt ≤ 500 := lp77ru; omega)
                  | succ f lp77ih =>
                    intro  I78 J79 H locs ls lp77m lp77mp lp77mt lp77ru lp77P0 lp77X lp77fr hW hS hl
                    have k80 : 0 ≤ (I78 0 35).toInt ∧ (I78 0 35).toInt ≤ (I78 0 34).toInt ∧ (I78 0 34).toInt ≤ (I78 0 33).toInt ∧ (I78 0 33).toInt ≤ 500 := lp77ru
                    refine lv_aload_n hx hb dX12_next_173 rfl (lv_at hl 1 rfl) ?_
                    refine z_ci hW hS hA (va_runV (As := []) (rest := []) ⟨hx, hb, hml, hown, hts⟩ (sx_X12_here l G ad I78 J79 ⟨(by show 0 ≤ (I78 0 31).toInt ∧ (I78 0 31).toInt ≤ 500; exact lp77mp.1), (by show 0 ≤ (I78 0 33).toInt ∧ (I78 0 33).toInt ≤ 500; exact lp77mp.2.1), (by show 0 ≤ (I78 0 34).toInt ∧ (I78 0 34).toInt ≤ 500; exact lp77mp.2.2.1), (by show 0 ≤ (I78 0 35).toInt ∧ (I78 0 35).toInt ≤ 500; exact lp77mp.2.2.2)⟩ (by show 0 ≤ (I78 0 34).toInt ∧ (I78 0 34).toInt ≤ (I78 0 33).toInt ∧ (I78 0 33).toInt ≤ 500; first | omega | decide)  _) (cwV 0 hts gX12_next_X12_here rfl rfl rfl hy_X12_here ⟨Nat.le_of_ble_eq_true rfl, Nat.le_of_ble_eq_true rfl⟩) (z_preV (i := 0) hK hW rfl rfl) rfl rfl hl.1 rfl (lv_room (Nat.le_of_ble_eq_true rfl)) dX12_next_174 ⟨Nat.le_of_ble_eq_true rfl, Nat.le_of_ble_eq_true rfl⟩) (fun r u1 H locs hp hW hS => ?_)
                    obtain ⟨e9, hp⟩ := hp
                    rw [e9] at hW
                    refine lv_topi (fun x81 ex81 => ?_)
                    have hhx81 : x81 = z_hr I78 := ex81.trans hp.1
                    have h82 := hp.2
                    rw [← ex81] at h82
                    refine lv_bipush (v := 48) hx hb dX12_next_177 (by decide) ?_
                    refine lv_bipush (v := 57) hx hb dX12_next_179 (by decide) ?_
                    refine z_ci hW hS hA (va_runS (As := [.int x81, .int 48, .int 57]) (rest := []) ⟨hx, hb, hml, hown, hts⟩ (sx_X12_within2 l G ad I78 J79  x81 48 57 _) (va_cwS 3 hts gX12_next_X12_within rfl rfl rfl hy_X12_within.2 ⟨Nat.le_of_ble_eq_true rfl, Nat.le_of_ble_eq_true rfl⟩) (z_preS hK hW) rfl rfl hl.1 rfl (lv_room (Nat.le_of_ble_eq_true rfl)) dX12_next_181 ⟨Nat.le_of_ble_eq_true rfl, Nat.le_of_ble_eq_true rfl⟩) (fun r u1 H locs hp hW hS => ?_)
                    obtain ⟨e9, hp⟩ := hp
                    rw [e9] at hW
                    rcases hp with ⟨rfl, h8, h9⟩ | ⟨rfl, h8⟩
                    · have h83 := z_t_le z_l48 rfl h8
                      have h84 := z_t_le rfl z_l57 h9
                      refine lv_if_eq (tgt := 225) hx hb dX12_next_184 (by decide) (fun c85 => absurd c85 (by decide)) (fun c85 => ?_)
                      refine lv_aload_n hx hb dX12_next_187 rfl (lv_at hl 1 rfl) ?_
                      refine lv_aload_n hx hb dX12_next_188 rfl (lv_at hl 1 rfl) ?_
                      refine z_get (T := TX12) (N := 96) (ci := 12) (i := 0) (v := .int (I78 0 38)) hx hb hts zj_X12_next_X12 hown hK hW rfl rfl 38 (by decide) (hts (.fieldLink RX12 278 "PetrolBoardModel" "value" "I") (me_s (me_l (me_l (List.mem_of_getElem? (i := 5) rfl))))) (fun _ h => h) rfl dX12_next_189 ?_
                      refine lv_ldcw (v := 10000000) hx hb hown (hts (.constant RX12 286 (10000000)) (me_s (me_l (me_l (List.mem_of_getElem? (i := 8) rfl))))) dX12_next_192 ?_
                      refine z_ci hW hS hA (va_runS (As := [.int (I78 0 38), .int 10000000]) (rest := [.ref (ad 0)]) ⟨hx, hb, hml, hown, hts⟩ (sx_X12_min l G ad I78 J79  (I78 0 38) 10000000 _) (va_cwS 2 hts gX12_next_X12_min rfl rfl rfl hy_X12_min.2 ⟨Nat.le_of_ble_eq_true rfl, Nat.le_of_ble_eq_true rfl⟩) (z_preS hK hW) rfl rfl hl.1 rfl (lv_room (Nat.le_of_ble_eq_true rfl)) dX12_next_195 ⟨Nat.le_of_ble_eq_true rfl, Nat.le_of_ble_eq_true rfl⟩) (fun r u1 H locs hp hW hS => ?_)
                      obtain ⟨e9, hp⟩ := hp
                      rw [e9] at hW
                      refine lv_topi (fun x86 ex86 => ?_)
                      refine lv_bipush (v := 10) hx hb dX12_next_198 (by decide) ?_
                      refine lv_imul hx hb dX12_next_200 ?_
                      refine lv_topi (fun x87 ex87 => ?_)
                      refine lv_aload_n hx hb dX12_next_201 rfl (lv_at hl 1 rfl) ?_
                      refine z_ci hW hS hA (va_runV (As := []) (rest := [.int x87, .ref (ad 0)]) ⟨hx, hb, hml, hown, hts⟩ (sx_X12_here l G ad I78 J79 ⟨(by show 0 ≤ (I78 0 31).toInt ∧ (I78 0 31).toInt ≤ 500; exact lp77mp.1), (by show 0 ≤ (I78 0 33).toInt ∧ (I78 0 33).toInt ≤ 500; exact lp77mp.2.1), (by show 0 ≤ (I78 0 34).toInt ∧ (I78 0 34).toInt ≤ 500; exact lp77mp.2.2.1), (by show 0 ≤ (I78 0 35).toInt ∧ (I78 0 35).toInt ≤ 500; exact lp77mp.2.2.2)⟩ (by show 0 ≤ (I78 0 34).toInt ∧ (I78 0 34).toInt ≤ (I78 0 33).toInt ∧ (I78 0 33).toInt ≤ 500; first | omega | decide)  _) (cwV 0 hts gX12_next_X12_here rfl rfl rfl hy_X12_here ⟨Nat.le_of_ble_eq_true rfl, Nat.le_of_ble_eq_true rfl⟩) (z_preV (i := 0) hK hW rfl rfl) rfl rfl hl.1 rfl (lv_room (Nat.le_of_ble_eq_true rfl)) dX12_next_202 ⟨Nat.le_of_ble_eq_true rfl, Nat.le_of_ble_eq_true rfl⟩) (fun r u1 H locs hp hW hS => ?_)
                      obtain ⟨e9, hp⟩ := hp
                      rw [e9] at hW
                      refine lv_topi (fun x88 ex88 => ?_)
                      have hhx88 : x88 = z_hr I78 := ex88.trans hp.1
                      have h89 := hp.2
                      rw [← ex88] at h89
                      refine lv_iadd hx hb dX12_next_205 ?_
                      refine lv_topi (fun x90 ex90 => ?_)
                      refine lv_bipush (v := 48) hx hb dX12_next_206 (by decide) ?_
                      refine lv_isub hx hb dX12_next_208 ?_
                      refine lv_topi (fun x91 ex91 => ?_)
                      refine z_put (T := TX12) (N := 96) (ci := 12) (i := 0) (v := .int x91) (I1 := z_up I78 0 38 x91) (J1 := J79) (P1 := PM ad) hx hb hts zj_X12_next_X12 tyX12 tyX12_ok nmX12 hown hK hW hS rfl rfl 38 (by decide) (hts (.fieldLink RX12 278 "PetrolBoardModel" "value" "I") (me_s (me_l (me_l (List.mem_of_getElem? (i := 5) rfl))))) (fun _ h => h) rfl rfl rfl (by first | rfl | exact congrArg _ z_up_s) (fun a b h ty => z_vI h ty) dX12_next_209 (fun H locs hz1 hW hS => ?_)
                      obtain ⟨I92, eI92⟩ : ∃ K : z_I, K = z_up I78 0 38 x91 := ⟨_, rfl⟩
                      rw [← eI92] at hW
                      have f93 := z_fr_k lp77fr (show z_wr L_X12_next 0 38 = true by decide) eI92
                      refine lv_aload_n hx hb dX12_next_212 rfl (lv_at hl 1 rfl) ?_
                      refine lv_dup hx hb dX12_next_213 rfl ?_
                      have r94 : 0 ≤ (I78 0 34).toInt ∧ (I78 0 34).toInt ≤ 500 := lp77mp.2.2.1
                      refine z_get (T := TX12) (N := 96) (ci := 12) (i := 0) (v := .int (I78 0 34)) hx hb hts zj_X12_next_X12 hown hK hW rfl rfl 34 (by decide) (hts (.fieldLink RX12 256 "PetrolBoardModel" "point" "I") (me_s (me_l (me_l (List.mem_of_getElem? (i := 0) rfl))))) (fun _ h => h) (congrArg Value.int (by rw [eI92, z_up_k (by decide)])) dX12_next_214 ?_
                      refine lv_iconst (v := 1) hx hb dX12_next_217 (by decide) ?_
                      refine lv_iadd hx hb dX12_next_218 ?_
                      refine lv_topi (fun x95 ex95 => ?_)
                      have tx95 : x95.toInt = (I78 0 34).toInt + 1 := z_tadd ex95 rfl z_l1 (by omega) (by omega)
                      refine z_put (T := TX12) (N := 96) (ci := 12) (i := 0) (v := .int x95) (I1 := z_up I92 0 34 x95) (J1 := J79) (P1 := PM ad) hx hb hts zj_X12_next_X12 tyX12 tyX12_ok nmX12 hown hK hW hS rfl rfl 34 (by decide) (hts (.fieldLink RX12 256 "PetrolBoardModel" "point" "I") (me_s (me_l (me_l (List.mem_of_getElem? (i := 0) rfl))))) (fun _ h => h) rfl rfl rfl (by first | rfl | exact congrArg _ z_up_s) (fun a b h ty => z_vI h ty) dX12_next_219 (fun H locs hz1 hW hS => ?_)
                      obtain ⟨I96, eI96⟩ : ∃ K : z_I, K = z_up I92 0 34 x95 := ⟨_, rfl⟩
                      rw [← eI96] at hW
                      have f97 := z_fr_k f93 (show z_wr L_X12_next 0 34 = true by decide) eI96
                      refine lv_goto (tgt := 173) hx hb dX12_next_222 (by decide) ?_
                      exact lp77ih  I96 J79 _ _ _ (by show 501 - (I96 0 34).toInt ≤ (f : Int); have q9 : (I96 0 34) = x95 := (by rw [eI96, z_up_s]); rw [q9]; first | omega | decide) ⟨(by show 0 ≤ (I96 0 31).toInt ∧ (I96 0 31).toInt ≤ 500; rw [eI96, z_up_k (by decide), eI92, z_up_k (by decide)]; exact lp77mp.1), (by show 0 ≤ (I96 0 33).toInt ∧ (I96 0 33).toInt ≤ 500; rw [eI96, z_up_k (by decide), eI92, z_up_k (by decide)]; exact lp77mp.2.1), (by show 0 ≤ (I96 0 34).toInt ∧ (I96 0 34).toInt ≤ 500; rw [eI96, z_up_s]; omega), (by show 0 ≤ (I96 0 35).toInt ∧ (I96 0 35).toInt ≤ 500; rw [eI96, z_up_k (by decide), eI92, z_up_k (by decide)]; exact lp77mp.2.2.2)⟩ ⟨(by show 0 ≤ (I96 0 36).toInt ∧ (I96 0 36).toInt ≤ 4; rw [eI96, z_up_k (by decide), eI92, z_up_k (by decide)]; exact lp77mt.1), (by show 0 ≤ (I96 0 42).toInt ∧ (I96 0 42).toInt ≤ 1; rw [eI96, z_up_k (by decide), eI92, z_up_k (by decide)]; exact lp77mt.2)⟩ (by have q0 : (I96 0 35) = (I78 0 35) := (by rw [eI96, z_up_k (by decide), eI92, z_up_k (by decide)]); have q1 : (I96 0 34) = x95 := (by rw [eI96, z_up_s]); have q2 : (I96 0 33) = (I78 0 33) := (by rw [eI96, z_up_k (by decide), eI92, z_up_k (by decide)]); show 0 ≤ (I96 0 35).toInt ∧ (I96 0 35).toInt ≤ (I96 0 34).toInt ∧ (I96 0 34).toInt ≤ (I96 0 33).toInt ∧ (I96 0 33).toInt ≤ 500; rw [q0, q1, q2]; first | omega | decide) (by have q0 : (I96 0 35) = (I78 0 35) := (by rw [eI96, z_up_k (by decide), eI92, z_up_k (by decide)]); show (I 0 34).toInt ≤ (I96 0 35).toInt; rw [q0]; omega) (fun q => absurd q (by have q1 : (I96 0 34) = x95 := (by rw [eI96, z_up_s]); have q2 : (I96 0 35) = (I78 0 35) := (by rw [eI96, z_up_k (by decide), eI92, z_up_k (by decide)]); rw [q1, q2]; omega)) f97 hW hS (lv_sub hl [0, 1] rfl)
                    · rw [z_l48, z_l57] at h8
                      have h98 := h8
                      refine lv_if_eq (tgt := 225) hx hb dX12_next_184 (by decide) (fun c99 => ?_) (fun c99 => absurd (by decide) c99)
                      have h100 : (I78 0 34).toInt ≠ (I78 0 35).toInt := fun q => by have q1 := lp77X q; rw [← hhx81] at q1; have q2 := congrArg Int32.toInt q1; omega
                      refine lv_aload_n hx hb dX12_next_225 rfl (lv_at hl 1 rfl) ?_
                      refine lv_aload_n hx hb dX12_next_226 rfl (lv_at hl 1 rfl) ?_
                      have r101 : 0 ≤ (I78 0 34).toInt ∧ (I78 0 34).toInt ≤ 500 := lp77mp.2.2.1
                      refine z_get (T := TX12) (N := 96) (ci := 12) (i := 0) (v := .int (I78 0 34)) hx hb hts zj_X12_next_X12 hown hK hW rfl rfl 34 (by decide) (hts (.fieldLink RX12 256 "PetrolBoardModel" "point" "I") (me_s (me_l (me_l (List.mem_of_getElem? (i := 0) rfl))))) (fun _ h => h) rfl dX12_next_227 ?_
                      refine lv_aload_n hx hb dX12_next_230 rfl (lv_at hl 1 rfl) ?_
                      have r102 : 0 ≤ (I78 0 35).toInt ∧ (I78 0 35).toInt ≤ 500 := lp77mp.2.2.2
                      refine z_get (T := TX12) (N := 96) (ci := 12) (i := 0) (v := .int (I78 0 35)) hx hb hts zj_X12_next_X12 hown hK hW rfl rfl 35 (by decide) (hts (.fieldLink RX12 266 "PetrolBoardModel" "from" "I") (me_s (me_l (me_l (List.mem_of_getElem? (i := 1) rfl))))) (fun _ h => h) rfl dX12_next_231 ?_
                      refine lv_isub hx hb dX12_next_234 ?_
                      refine lv_topi (fun x103 ex103 => ?_)
                      have tx103 : x103.toInt = (I78 0 34).toInt - (I78 0 35).toInt := z_tsub ex103 rfl rfl (by omega) (by omega)
                      refine lv_bipush (v := 6) hx hb dX12_next_235 (by decide) ?_
                      refine lv_icmp_gt (tgt := 244) hx hb dX12_next_237 (by decide) (fun c104 => ?_) (fun c104 => ?_)
                      · have g105 := z_f_gt rfl z_l6 c104
                        refine lv_iconst (v := 4) hx hb dX12_next_244 (by decide) ?_
                        refine z_put (T := TX12) (N := 96) (ci := 12) (i := 0) (v := .int 4) (I1 := z_up I78 0 36 4) (J1 := J79) (P1 := PM ad) hx hb hts zj_X12_next_X12 tyX12 tyX12_ok nmX12 hown hK hW hS rfl rfl 36 (by decide) (hts (.fieldLink RX12 281 "PetrolBoardModel" "token" "I") (me_s (me_l (me_l (List.mem_of_getElem? (i := 6) rfl))))) (fun _ h => h) rfl rfl rfl (by first | rfl | exact congrArg _ z_up_s) (fun a b h ty => z_vI h ty) dX12_next_245 (fun H locs hz1 hW hS => ?_)
                        obtain ⟨I106, eI106⟩ : ∃ K : z_I, K = z_up I78 0 36 4 := ⟨_, rfl⟩
                        rw [← eI106] at hW
                        have f107 := z_fr_k lp77fr (show z_wr L_X12_next 0 36 = true by decide) eI106
                        refine lv_goto (tgt := 282) hx hb dX12_next_248 (by decide) ?_
                        exact z_vret hx hb hr hK hS (Nat.le_of_ble_eq_true rfl) (Nat.le_of_ble_eq_true rfl) hlocks dX12_next_282 (shM, ad, I106, J79, PM ad) hW ⟨I106, J79, rfl, ⟨(by show 0 ≤ (I106 0 31).toInt ∧ (I106 0 31).toInt ≤ 500; rw [eI106, z_up_k (by decide)]; exact lp77mp.1), (by show 0 ≤ (I106 0 33).toInt ∧ (I106 0 33).toInt ≤ 500; rw [eI106, z_up_k (by decide)]; exact lp77mp.2.1), (by show 0 ≤ (I106 0 34).toInt ∧ (I106 0 34).toInt ≤ 500; rw [eI106, z_up_k (by decide)]; exact lp77mp.2.2.1), (by show 0 ≤ (I106 0 35).toInt ∧ (I106 0 35).toInt ≤ 500; rw [eI106, z_up_k (by decide)]; exact lp77mp.2.2.2)⟩, ⟨(by show 0 ≤ (I106 0 36).toInt ∧ (I106 0 36).toInt ≤ 4; rw [eI106, z_up_s]; decide), (by show 0 ≤ (I106 0 42).toInt ∧ (I106 0 42).toInt ≤ 1; rw [eI106, z_up_k (by decide)]; exact lp77mt.2)⟩, (by have q0 : (I106 0 35) = (I78 0 35) := (by rw [eI106, z_up_k (by decide)]); have q1 : (I106 0 34) = (I78 0 34) := (by rw [eI106, z_up_k (by decide)]); have q2 : (I106 0 33) = (I78 0 33) := (by rw [eI106, z_up_k (by decide)]); have q3 : (I106 0 36) = 4 := (by rw [eI106, z_up_s]); have z3 := z_l4; show 0 ≤ (I106 0 35).toInt ∧ (I106 0 35).toInt ≤ (I106 0 34).toInt ∧ (I106 0 34).toInt ≤ (I106 0 33).toInt ∧ (I106 0 33).toInt ≤ 500 ∧ ((I106 0 36).toInt = 0 ∨ (I106 0 35).toInt + 1 ≤ (I106 0 34).toInt); rw [q0, q1, q2, q3]; first | omega | decide), f107, (by have q0 : (I106 0 35) = (I78 0 35) := (by rw [eI106, z_up_k (by decide)]); show (I 0 34).toInt ≤ (I106 0 35).toInt; rw [q0]; omega)⟩
                      · have g108 := z_f_ngt rfl z_l6 c104
                        refine lv_iconst (v := 2) hx hb dX12_next_240 (by decide) ?_
                        refine lv_goto (tgt := 245) hx hb dX12_next_241 (by decide) ?_
                        refine z_put (T := TX12) (N := 96) (ci := 12) (i := 0) (v := .int 2) (I1 := z_up I78 0 36 2) (J1 := J79) (P1 := PM ad) hx hb hts zj_X12_next_X12 tyX12 tyX12_ok nmX12 hown hK hW hS rfl rfl 36 (by decide) (hts (.fieldLink RX12 281 "PetrolBoardModel" "token" "I") (me_s (me_l (me_l (List.mem_of_getElem? (i := 6) rfl))))) (fun _ h => h) rfl rfl rfl (by first | rfl | exact congrArg _ z_up_s) (fun a b h ty => z_vI h ty) dX12_next_245 (fun H locs hz1 hW hS => ?_)
                        obtain ⟨I109, eI109⟩ : ∃ K : z_I, K = z_up I78 0 36 2 := ⟨_, rfl⟩
                        rw [← eI109] at hW
                        have f110 := z_fr_k lp77fr (show z_wr L_X12_next 0 36 = true by decide) eI109
                        refine lv_goto (tgt := 282) hx hb dX12_next_248 (by decide) ?_
                        exact z_vret hx hb hr hK hS (Nat.le_of_ble_eq_true rfl) (Nat.le_of_ble_eq_true rfl) hlocks dX12_next_282 (shM, ad, I109, J79, PM ad) hW ⟨I109, J79, rfl, ⟨(by show 0 ≤ (I109 0 31).toInt ∧ (I109 0 31).toInt ≤ 500; rw [eI109, z_up_k (by decide)]; exact lp77mp.1), (by show 0 ≤ (I109 0 33).toInt ∧ (I109 0 33).toInt ≤ 500; rw [eI109, z_up_k (by decide)]; exact lp77mp.2.1), (by show 0 ≤ (I109 0 34).toInt ∧ (I109 0 34).toInt ≤ 500; rw [eI109, z_up_k (by decide)]; exact lp77mp.2.2.1), (by show 0 ≤ (I109 0 35).toInt ∧ (I109 0 35).toInt ≤ 500; rw [eI109, z_up_k (by decide)]; exact lp77mp.2.2.2)⟩, ⟨(by show 0 ≤ (I109 0 36).toInt ∧ (I109 0 36).toInt ≤ 4; rw [eI109, z_up_s]; decide), (by show 0 ≤ (I109 0 42).toInt ∧ (I109 0 42).toInt ≤ 1; rw [eI109, z_up_k (by decide)]; exact lp77mt.2)⟩, (by have q0 : (I109 0 35) = (I78 0 35) := (by rw [eI109, z_up_k (by decide)]); have q1 : (I109 0 34) = (I78 0 34) := (by rw [eI109, z_up_k (by decide)]); have q2 : (I109 0 33) = (I78 0 33) := (by rw [eI109, z_up_k (by decide)]); have q3 : (I109 0 36) = 2 := (by rw [eI109, z_up_s]); have z3 := z_l2; show 0 ≤ (I109 0 35).toInt ∧ (I109 0 35).toInt ≤ (I109 0 34).toInt ∧ (I109 0 34).toInt ≤ (I109 0 33).toInt ∧ (I109 0 33).toInt ≤ 500 ∧ ((I109 0 36).toInt = 0 ∨ (I109 0 35).toInt + 1 ≤ (I109 0 34).toInt); rw [q0, q1, q2, q3]; first | omega | decide), f110, (by have q0 : (I109 0 35) = (I78 0 35) := (by rw [eI109, z_up_k (by decide)]); show (I 0 34).toInt ≤ (I109 0 35).toInt; rw [q0]; omega)⟩
                exact lp77 502  I29 J26 _ _ _ (by show 501 - (I29 0 34).toInt ≤ ((502 : Nat) : Int); have q9 : (I29 0 34) = (I2 0 34) := (by rw [eI29, z_up_k (by decide), eI27, z_up_k (by decide), eI22, z_up_k (by decide)]); rw [q9]; first | omega | decide) ⟨(by show 0 ≤ (I29 0 31).toInt ∧ (I29 0 31).toInt ≤ 500; rw [eI29, z_up_k (by decide), eI27, z_up_k (by decide), eI22, z_up_k (by decide)]; exact lp1mp.1), (by show 0 ≤ (I29 0 33).toInt ∧ (I29 0 33).toInt ≤ 500; rw [eI29, z_up_k (by decide), eI27, z_up_k (by decide), eI22, z_up_k (by decide)]; exact lp1mp.2.1), (by show 0 ≤ (I29 0 34).toInt ∧ (I29 0 34).toInt ≤ 500; rw [eI29, z_up_k (by decide), eI27, z_up_k (by decide), eI22, z_up_k (by decide)]; exact lp1mp.2.2.1), (by show 0 ≤ (I29 0 35).toInt ∧ (I29 0 35).toInt ≤ 500; rw [eI29, z_up_k (by decide), eI27, z_up_k (by decide), eI22, z_up_s]; omega)⟩ ⟨(by show 0 ≤ (I29 0 36).toInt ∧ (I29 0 36).toInt ≤ 4; rw [eI29, z_up_k (by decide), eI27, z_up_k (by decide), eI22, z_up_k (by decide)]; exact lp1mt.1), (by show 0 ≤ (I29 0 42).toInt ∧ (I29 0 42).toInt ≤ 1; rw [eI29, z_up_k (by decide), eI27, z_up_k (by decide), eI22, z_up_k (by decide)]; exact lp1mt.2)⟩ (by have q0 : (I29 0 35) = (I2 0 34) := (by rw [eI29, z_up_k (by decide), eI27, z_up_k (by decide), eI22, z_up_s]); have q1 : (I29 0 34) = (I2 0 34) := (by rw [eI29, z_up_k (by decide), eI27, z_up_k (by decide), eI22, z_up_k (by decide)]); have q2 : (I29 0 33) = (I2 0 33) := (by rw [eI29, z_up_k (by decide), eI27, z_up_k (by decide), eI22, z_up_k (by decide)]); show 0 ≤ (I29 0 35).toInt ∧ (I29 0 35).toInt ≤ (I29 0 34).toInt ∧ (I29 0 34).toInt ≤ (I29 0 33).toInt ∧ (I29 0 33).toInt ≤ 500; rw [q0, q1, q2]; first | omega | decide) (by have q0 : (I29 0 35) = (I2 0 34) := (by rw [eI29, z_up_k (by decide), eI27, z_up_k (by decide), eI22, z_up_s]); show (I 0 34).toInt ≤ (I29 0 35).toInt; rw [q0]; omega) (fun _ => (z_hr_c (I := I2) (K := I29) (by rw [eI29, z_up_k (by decide), eI27, z_up_k (by decide), eI22, z_up_k (by decide)]) (by rw [eI29, z_up_k (by decide), eI27, z_up_k (by decide), eI22, z_up_k (by decide)]) (fun k => by rw [eI29, z_up_n (by decide), eI27, z_up_n (by decide), eI22, z_up_n (by decide)])).trans (((z_hr_c (I := I2) (K := I22) (by rw [eI22, z_up_k (by decide)]) (by rw [eI22, z_up_k (by decide)]) (fun k => by rw [eI22, z_up_n (by decide)])).symm).trans hhx24.symm)) f30 hW hS (lv_sub hl [0, 1] rfl)
              · rw [z_l48, z_l57] at h8
                have h111 := h8
                refine lv_if_eq (tgt := 251) hx hb dX12_next_170 (by decide) (fun c112 => ?_) (fun c112 => absurd (by decide) c112)
                refine lv_aload_n hx hb dX12_next_251 rfl (lv_at hl 1 rfl) ?_
                refine lv_iload_n hx hb dX12_next_252 rfl (lv_at hl 0 rfl) ?_
                refine z_ci hW hS hA (va_runS (As := [.int x24]) (rest := [.ref (ad 0)]) ⟨hx, hb, hml, hown, hts⟩ (sx_X12_isSignByte l G ad I29 J26  x24 _) (va_cwS 1 hts gX12_next_X12_isSignByte rfl rfl rfl hy_X12_isSignByte.2 ⟨Nat.le_of_ble_eq_true rfl, Nat.le_of_ble_eq_true rfl⟩) (z_preS hK hW) rfl rfl hl.1 rfl (lv_room (Nat.le_of_ble_eq_true rfl)) dX12_next_253 ⟨Nat.le_of_ble_eq_true rfl, Nat.le_of_ble_eq_true rfl⟩) (fun r u1 H locs hp hW hS => ?_)
                obtain ⟨e9, hp⟩ := hp
                rw [e9] at hW
                rcases hp with rfl | rfl
                · refine lv_if_eq (tgt := 263) hx hb dX12_next_256 (by decide) (fun c113 => absurd c113 (by decide)) (fun c113 => ?_)
                  refine lv_iconst (v := 3) hx hb dX12_next_259 (by decide) ?_
                  refine lv_goto (tgt := 264) hx hb dX12_next_260 (by decide) ?_
                  refine z_put (T := TX12) (N := 96) (ci := 12) (i := 0) (v := .int 3) (I1 := z_up I29 0 36 3) (J1 := J26) (P1 := PM ad) hx hb hts zj_X12_next_X12 tyX12 tyX12_ok nmX12 hown hK hW hS rfl rfl 36 (by decide) (hts (.fieldLink RX12 281 "PetrolBoardModel" "token" "I") (me_s (me_l (me_l (List.mem_of_getElem? (i := 6) rfl))))) (fun _ h => h) rfl rfl rfl (by first | rfl | exact congrArg _ z_up_s) (fun a b h ty => z_vI h ty) dX12_next_264 (fun H locs hz1 hW hS => ?_)
                  obtain ⟨I114, eI114⟩ : ∃ K : z_I, K = z_up I29 0 36 3 := ⟨_, rfl⟩
                  rw [← eI114] at hW
                  have f115 := z_fr_k f30 (show z_wr L_X12_next 0 36 = true by decide) eI114
                  refine lv_aload_n hx hb dX12_next_267 rfl (lv_at hl 1 rfl) ?_
                  refine lv_iload_n hx hb dX12_next_268 rfl (lv_at hl 0 rfl) ?_
                  refine z_put (T := TX12) (N := 96) (ci := 12) (i := 0) (v := .int x24) (I1 := z_up I114 0 37 x24) (J1 := J26) (P1 := PM ad) hx hb hts zj_X12_next_X12 tyX12 tyX12_ok nmX12 hown hK hW hS rfl rfl 37 (by decide) (hts (.fieldLink RX12 275 "PetrolBoardModel" "sign" "I") (me_s (me_l (me_l (List.mem_of_getElem? (i := 4) rfl))))) (fun _ h => h) rfl rfl rfl (by first | rfl | exact congrArg _ z_up_s) (fun a b h ty => z_vI h ty) dX12_next_269 (fun H locs hz1 hW hS => ?_)
                  obtain ⟨I116, eI116⟩ : ∃ K : z_I, K = z_up I114 0 37 x24 := ⟨_, rfl⟩
                  rw [← eI116] at hW
                  have f117 := z_fr_k f115 (show z_wr L_X12_next 0 37 = true by decide) eI116
                  refine lv_aload_n hx hb dX12_next_272 rfl (lv_at hl 1 rfl) ?_
                  refine lv_dup hx hb dX12_next_273 rfl ?_
                  refine z_get (T := TX12) (N := 96) (ci := 12) (i := 0) (v := .int (I2 0 34)) hx hb hts zj_X12_next_X12 hown hK hW rfl rfl 34 (by decide) (hts (.fieldLink RX12 256 "PetrolBoardModel" "point" "I") (me_s (me_l (me_l (List.mem_of_getElem? (i := 0) rfl))))) (fun _ h => h) (congrArg Value.int (by rw [eI116, z_up_k (by decide), eI114, z_up_k (by decide), eI29, z_up_k (by decide), eI27, z_up_k (by decide), eI22, z_up_k (by decide)])) dX12_next_274 ?_
                  refine lv_iconst (v := 1) hx hb dX12_next_277 (by decide) ?_
                  refine lv_iadd hx hb dX12_next_278 ?_
                  refine lv_topi (fun x118 ex118 => ?_)
                  have tx118 : x118.toInt = (I2 0 34).toInt + 1 := z_tadd ex118 rfl z_l1 (by omega) (by omega)
                  refine z_put (T := TX12) (N := 96) (ci := 12) (i := 0) (v := .int x118) (I1 := z_up I116 0 34 x118) (J1 := J26) (P1 := PM ad) hx hb hts zj_X12_next_X12 tyX12 tyX12_ok nmX12 hown hK hW hS rfl rfl 34 (by decide) (hts (.fieldLink RX12 256 "PetrolBoardModel" "point" "I") (me_s (me_l (me_l (List.mem_of_getElem? (i := 0) rfl))))) (fun _ h => h) rfl rfl rfl (by first | rfl | exact congrArg _ z_up_s) (fun a b h ty => z_vI h ty) dX12_next_279 (fun H locs hz1 hW hS => ?_)
                  obtain ⟨I119, eI119⟩ : ∃ K : z_I, K = z_up I116 0 34 x118 := ⟨_, rfl⟩
                  rw [← eI119] at hW
                  have f120 := z_fr_k f117 (show z_wr L_X12_next 0 34 = true by decide) eI119
                  exact z_vret hx hb hr hK hS (Nat.le_of_ble_eq_true rfl) (Nat.le_of_ble_eq_true rfl) hlocks dX12_next_282 (shM, ad, I119, J26, PM ad) hW ⟨I119, J26, rfl, ⟨(by show 0 ≤ (I119 0 31).toInt ∧ (I119 0 31).toInt ≤ 500; rw [eI119, z_up_k (by decide), eI116, z_up_k (by decide), eI114, z_up_k (by decide), eI29, z_up_k (by decide), eI27, z_up_k (by decide), eI22, z_up_k (by decide)]; exact lp1mp.1), (by show 0 ≤ (I119 0 33).toInt ∧ (I119 0 33).toInt ≤ 500; rw [eI119, z_up_k (by decide), eI116, z_up_k (by decide), eI114, z_up_k (by decide), eI29, z_up_k (by decide), eI27, z_up_k (by decide), eI22, z_up_k (by decide)]; exact lp1mp.2.1), (by show 0 ≤ (I119 0 34).toInt ∧ (I119 0 34).toInt ≤ 500; rw [eI119, z_up_s]; omega), (by show 0 ≤ (I119 0 35).toInt ∧ (I119 0 35).toInt ≤ 500; rw [eI119, z_up_k (by decide), eI116, z_up_k (by decide), eI114, z_up_k (by decide), eI29, z_up_k (by decide), eI27, z_up_k (by decide), eI22, z_up_s]; omega)⟩, ⟨(by show 0 ≤ (I119 0 36).toInt ∧ (I119 0 36).toInt ≤ 4; rw [eI119, z_up_k (by decide), eI116, z_up_k (by decide), eI114, z_up_s]; decide), (by show 0 ≤ (I119 0 42).toInt ∧ (I119 0 42).toInt ≤ 1; rw [eI119, z_up_k (by decide), eI116, z_up_k (by decide), eI114, z_up_k (by decide), eI29, z_up_k (by decide), eI27, z_up_k (by decide), eI22, z_up_k (by decide)]; exact lp1mt.2)⟩, (by have q0 : (I119 0 35) = (I2 0 34) := (by rw [eI119, z_up_k (by decide), eI116, z_up_k (by decide), eI114, z_up_k (by decide), eI29, z_up_k (by decide), eI27, z_up_k (by decide), eI22, z_up_s]); have q1 : (I119 0 34) = x118 := (by rw [eI119, z_up_s]); have q2 : (I119 0 33) = (I2 0 33) := (by rw [eI119, z_up_k (by decide), eI116, z_up_k (by decide), eI114, z_up_k (by decide), eI29, z_up_k (by decide), eI27, z_up_k (by decide), eI22, z_up_k (by decide)]); have q3 : (I119 0 36) = 3 := (by rw [eI119, z_up_k (by decide), eI116, z_up_k (by decide), eI114, z_up_s]); have z3 := z_l3; show 0 ≤ (I119 0 35).toInt ∧ (I119 0 35).toInt ≤ (I119 0 34).toInt ∧ (I119 0 34).toInt ≤ (I119 0 33).toInt ∧ (I119 0 33).toInt ≤ 500 ∧ ((I119 0 36).toInt = 0 ∨ (I119 0 35).toInt + 1 ≤ (I119 0 34).toInt); rw [q0, q1, q2, q3]; first | omega | decide), f120, (by have q0 : (I119 0 35) = (I2 0 34) := (by rw [eI119, z_up_k (by decide), eI116, z_up_k (by decide), eI114, z_up_k (by decide), eI29, z_up_k (by decide), eI27, z_up_k (by decide), eI22, z_up_s]); show (I 0 34).toInt ≤ (I119 0 35).toInt; rw [q0]; omega)⟩
                · refine lv_if_eq (tgt := 263) hx hb dX12_next_256 (by decide) (fun c121 => ?_) (fun c121 => absurd (by decide) c121)
                  refine lv_iconst (v := 4) hx hb dX12_next_263 (by decide) ?_
                  refine z_put (T := TX12) (N := 96) (ci := 12) (i := 0) (v := .int 4) (I1 := z_up I29 0 36 4) (J1 := J26) (P1 := PM ad) hx hb hts zj_X12_next_X12 tyX12 tyX12_ok nmX12 hown hK hW hS rfl rfl 36 (by decide) (hts (.fieldLink RX12 281 "PetrolBoardModel" "token" "I") (me_s (me_l (me_l (List.mem_of_getElem? (i := 6) rfl))))) (fun _ h => h) rfl rfl rfl (by first | rfl | exact congrArg _ z_up_s) (fun a b h ty => z_vI h ty) dX12_next_264 (fun H locs hz1 hW hS => ?_)
                  obtain ⟨I122, eI122⟩ : ∃ K : z_I, K = z_up I29 0 36 4 := ⟨_, rfl⟩
                  rw [← eI122] at hW
                  have f123 := z_fr_k f30 (show z_wr L_X12_next 0 36 = true by decide) eI122
                  refine lv_aload_n hx hb dX12_next_267 rfl (lv_at hl 1 rfl) ?_
                  refine lv_iload_n hx hb dX12_next_268 rfl (lv_at hl 0 rfl) ?_
                  refine z_put (T := TX12) (N := 96) (ci := 12) (i := 0) (v := .int x24) (I1 := z_up I122 0 37 x24) (J1 := J26) (P1 := PM ad) hx hb hts zj_X12_next_X12 tyX12 tyX12_ok nmX12 hown hK hW hS rfl rfl 37 (by decide) (hts (.fieldLink RX12 275 "PetrolBoardModel" "sign" "I") (me_s (me_l (me_l (List.mem_of_getElem? (i := 4) rfl))))) (fun _ h => h) rfl rfl rfl (by first | rfl | exact congrArg _ z_up_s) (fun a b h ty => z_vI h ty) dX12_next_269 (fun H locs hz1 hW hS => ?_)
                  obtain ⟨I124, eI124⟩ : ∃ K : z_I, K = z_up I122 0 37 x24 := ⟨_, rfl⟩
                  rw [← eI124] at hW
                  have f125 := z_fr_k f123 (show z_wr L_X12_next 0 37 = true by decide) eI124
                  refine lv_aload_n hx hb dX12_next_272 rfl (lv_at hl 1 rfl) ?_
                  refine lv_dup hx hb dX12_next_273 rfl ?_
                  refine z_get (T := TX12) (N := 96) (ci := 12) (i := 0) (v := .int (I2 0 34)) hx hb hts zj_X12_next_X12 hown hK hW rfl rfl 34 (by decide) (hts (.fieldLink RX12 256 "PetrolBoardModel" "point" "I") (me_s (me_l (me_l (List.mem_of_getElem? (i := 0) rfl))))) (fun _ h => h) (congrArg Value.int (by rw [eI124, z_up_k (by decide), eI122, z_up_k (by decide), eI29, z_up_k (by decide), eI27, z_up_k (by decide), eI22, z_up_k (by decide)])) dX12_next_274 ?_
                  refine lv_iconst (v := 1) hx hb dX12_next_277 (by decide) ?_
                  refine lv_iadd hx hb dX12_next_278 ?_
                  refine lv_topi (fun x126 ex126 => ?_)
                  have tx126 : x126.toInt = (I2 0 34).toInt + 1 := z_tadd ex126 rfl z_l1 (by omega) (by omega)
                  refine z_put (T := TX12) (N := 96) (ci := 12) (i := 0) (v := .int x126) (I1 := z_up I124 0 34 x126) (J1 := J26) (P1 := PM ad) hx hb hts zj_X12_next_X12 tyX12 tyX12_ok nmX12 hown hK hW hS rfl rfl 34 (by decide) (hts (.fieldLink RX12 256 "PetrolBoardModel" "point" "I") (me_s (me_l (me_l (List.mem_of_getElem? (i := 0) rfl))))) (fun _ h => h) rfl rfl rfl (by first | rfl | exact congrArg _ z_up_s) (fun a b h ty => z_vI h ty) dX12_next_279 (fun H locs hz1 hW hS => ?_)
                  obtain ⟨I127, eI127⟩ : ∃ K : z_I, K = z_up I124 0 34 x126 := ⟨_, rfl⟩
                  rw [← eI127] at hW
                  have f128 := z_fr_k f125 (show z_wr L_X12_next 0 34 = true by decide) eI127
                  exact z_vret hx hb hr hK hS (Nat.le_of_ble_eq_true rfl) (Nat.le_of_ble_eq_true rfl) hlocks dX12_next_282 (shM, ad, I127, J26, PM ad) hW ⟨I127, J26, rfl, ⟨(by show 0 ≤ (I127 0 31).toInt ∧ (I127 0 31).toInt ≤ 500; rw [eI127, z_up_k (by decide), eI124, z_up_k (by decide), eI122, z_up_k (by decide), eI29, z_up_k (by decide), eI27, z_up_k (by decide), eI22, z_up_k (by decide)]; exact lp1mp.1), (by show 0 ≤ (I127 0 33).toInt ∧ (I127 0 33).toInt ≤ 500; rw [eI127, z_up_k (by decide), eI124, z_up_k (by decide), eI122, z_up_k (by decide), eI29, z_up_k (by decide), eI27, z_up_k (by decide), eI22, z_up_k (by decide)]; exact lp1mp.2.1), (by show 0 ≤ (I127 0 34).toInt ∧ (I127 0 34).toInt ≤ 500; rw [eI127, z_up_s]; omega), (by show 0 ≤ (I127 0 35).toInt ∧ (I127 0 35).toInt ≤ 500; rw [eI127, z_up_k (by decide), eI124, z_up_k (by decide), eI122, z_up_k (by decide), eI29, z_up_k (by decide), eI27, z_up_k (by decide), eI22, z_up_s]; omega)⟩, ⟨(by show 0 ≤ (I127 0 36).toInt ∧ (I127 0 36).toInt ≤ 4; rw [eI127, z_up_k (by decide), eI124, z_up_k (by decide), eI122, z_up_s]; decide), (by show 0 ≤ (I127 0 42).toInt ∧ (I127 0 42).toInt ≤ 1; rw [eI127, z_up_k (by decide), eI124, z_up_k (by decide), eI122, z_up_k (by decide), eI29, z_up_k (by decide), eI27, z_up_k (by decide), eI22, z_up_k (by decide)]; exact lp1mt.2)⟩, (by have q0 : (I127 0 35) = (I2 0 34) := (by rw [eI127, z_up_k (by decide), eI124, z_up_k (by decide), eI122, z_up_k (by decide), eI29, z_up_k (by decide), eI27, z_up_k (by decide), eI22, z_up_s]); have q1 : (I127 0 34) = x126 := (by rw [eI127, z_up_s]); have q2 : (I127 0 33) = (I2 0 33) := (by rw [eI127, z_up_k (by decide), eI124, z_up_k (by decide), eI122, z_up_k (by decide), eI29, z_up_k (by decide), eI27, z_up_k (by decide), eI22, z_up_k (by decide)]); have q3 : (I127 0 36) = 4 := (by rw [eI127, z_up_k (by decide), eI124, z_up_k (by decide), eI122, z_up_s]); have z3 := z_l4; show 0 ≤ (I127 0 35).toInt ∧ (I127 0 35).toInt ≤ (I127 0 34).toInt ∧ (I127 0 34).toInt ≤ (I127 0 33).toInt ∧ (I127 0 33).toInt ≤ 500 ∧ ((I127 0 36).toInt = 0 ∨ (I127 0 35).toInt + 1 ≤ (I127 0 34).toInt); rw [q0, q1, q2, q3]; first | omega | decide), f128, (by have q0 : (I127 0 35) = (I2 0 34) := (by rw [eI127, z_up_k (by decide), eI124, z_up_k (by decide), eI122, z_up_k (by decide), eI29, z_up_k (by decide), eI27, z_up_k (by decide), eI22, z_up_s]); show (I 0 34).toInt ≤ (I127 0 35).toInt; rw [q0]; omega)⟩
          · have g129 := z_f_nge rfl z_l0 c31
            have b130 := Int32.toInt_lt x24
            refine lv_aload_n hx hb dX12_next_65 rfl (lv_at hl 1 rfl) ?_
            refine lv_iconst (v := 0) hx hb dX12_next_66 (by decide) ?_
            refine z_put (T := TX12) (N := 96) (ci := 12) (i := 0) (v := .int 0) (I1 := z_up I29 0 36 0) (J1 := J26) (P1 := PM ad) hx hb hts zj_X12_next_X12 tyX12 tyX12_ok nmX12 hown hK hW hS rfl rfl 36 (by decide) (hts (.fieldLink RX12 281 "PetrolBoardModel" "token" "I") (me_s (me_l (me_l (List.mem_of_getElem? (i := 6) rfl))))) (fun _ h => h) rfl rfl rfl (by first | rfl | exact congrArg _ z_up_s) (fun a b h ty => z_vI h ty) dX12_next_67 (fun H locs hz1 hW hS => ?_)
            obtain ⟨I131, eI131⟩ : ∃ K : z_I, K = z_up I29 0 36 0 := ⟨_, rfl⟩
            rw [← eI131] at hW
            have f132 := z_fr_k f30 (show z_wr L_X12_next 0 36 = true by decide) eI131
            refine lv_goto (tgt := 282) hx hb dX12_next_70 (by decide) ?_
            exact z_vret hx hb hr hK hS (Nat.le_of_ble_eq_true rfl) (Nat.le_of_ble_eq_true rfl) hlocks dX12_next_282 (shM, ad, I131, J26, PM ad) hW ⟨I131, J26, rfl, ⟨(by show 0 ≤ (I131 0 31).toInt ∧ (I131 0 31).toInt ≤ 500; rw [eI131, z_up_k (by decide), eI29, z_up_k (by decide), eI27, z_up_k (by decide), eI22, z_up_k (by decide)]; exact lp1mp.1), (by show 0 ≤ (I131 0 33).toInt ∧ (I131 0 33).toInt ≤ 500; rw [eI131, z_up_k (by decide), eI29, z_up_k (by decide), eI27, z_up_k (by decide), eI22, z_up_k (by decide)]; exact lp1mp.2.1), (by show 0 ≤ (I131 0 34).toInt ∧ (I131 0 34).toInt ≤ 500; rw [eI131, z_up_k (by decide), eI29, z_up_k (by decide), eI27, z_up_k (by decide), eI22, z_up_k (by decide)]; exact lp1mp.2.2.1), (by show 0 ≤ (I131 0 35).toInt ∧ (I131 0 35).toInt ≤ 500; rw [eI131, z_up_k (by decide), eI29, z_up_k (by decide), eI27, z_up_k (by decide), eI22, z_up_s]; omega)⟩, ⟨(by show 0 ≤ (I131 0 36).toInt ∧ (I131 0 36).toInt ≤ 4; rw [eI131, z_up_s]; decide), (by show 0 ≤ (I131 0 42).toInt ∧ (I131 0 42).toInt ≤ 1; rw [eI131, z_up_k (by decide), eI29, z_up_k (by decide), eI27, z_up_k (by decide), eI22, z_up_k (by decide)]; exact lp1mt.2)⟩, (by have q0 : (I131 0 35) = (I2 0 34) := (by rw [eI131, z_up_k (by decide), eI29, z_up_k (by decide), eI27, z_up_k (by decide), eI22, z_up_s]); have q1 : (I131 0 34) = (I2 0 34) := (by rw [eI131, z_up_k (by decide), eI29, z_up_k (by decide), eI27, z_up_k (by decide), eI22, z_up_k (by decide)]); have q2 : (I131 0 33) = (I2 0 33) := (by rw [eI131, z_up_k (by decide), eI29, z_up_k (by decide), eI27, z_up_k (by decide), eI22, z_up_k (by decide)]); have q3 : (I131 0 36) = 0 := (by rw [eI131, z_up_s]); have z3 := z_l0; show 0 ≤ (I131 0 35).toInt ∧ (I131 0 35).toInt ≤ (I131 0 34).toInt ∧ (I131 0 34).toInt ≤ (I131 0 33).toInt ∧ (I131 0 33).toInt ≤ 500 ∧ ((I131 0 36).toInt = 0 ∨ (I131 0 35).toInt + 1 ≤ (I131 0 34).toInt); rw [q0, q1, q2, q3]; first | omega | decide), f132, (by have q0 : (I131 0 35) = (I2 0 34) := (by rw [eI131, z_up_k (by decide), eI29, z_up_k (by decide), eI27, z_up_k (by decide), eI22, z_up_s]); show (I 0 34).toInt ≤ (I131 0 35).toInt; rw [q0]; omega)⟩
        · have g133 := z_f_eq rfl z_l10 c18
          have b134 := Int32.toInt_lt x16
          refine lv_aload_n hx hb dX12_next_18 rfl (lv_at hl 0 rfl) ?_
          refine lv_dup hx hb dX12_next_19 rfl ?_
          have r135 : 0 ≤ (I2 0 34).toInt ∧ (I2 0 34).toInt ≤ 500 := lp1mp.2.2.1
          refine z_get (T := TX12) (N := 96) (ci := 12) (i := 0) (v := .int (I2 0 34)) hx hb hts zj_X12_next_X12 hown hK hW rfl rfl 34 (by decide) (hts (.fieldLink RX12 256 "PetrolBoardModel" "point" "I") (me_s (me_l (me_l (List.mem_of_getElem? (i := 0) rfl))))) (fun _ h => h) rfl dX12_next_20 ?_
          refine lv_iconst (v := 1) hx hb dX12_next_23 (by decide) ?_
          refine lv_iadd hx hb dX12_next_24 ?_
          refine lv_topi (fun x136 ex136 => ?_)
          have tx136 : x136.toInt = (I2 0 34).toInt + 1 := z_tadd ex136 rfl z_l1 (by omega) (by omega)
          refine z_put (T := TX12) (N := 96) (ci := 12) (i := 0) (v := .int x136) (I1 := z_up I2 0 34 x136) (J1 := J3) (P1 := PM ad) hx hb hts zj_X12_next_X12 tyX12 tyX12_ok nmX12 hown hK hW hS rfl rfl 34 (by decide) (hts (.fieldLink RX12 256 "PetrolBoardModel" "point" "I") (me_s (me_l (me_l (List.mem_of_getElem? (i := 0) rfl))))) (fun _ h => h) rfl rfl rfl (by first | rfl | exact congrArg _ z_up_s) (fun a b h ty => z_vI h ty) dX12_next_25 (fun H locs hz1 hW hS => ?_)
          obtain ⟨I137, eI137⟩ : ∃ K : z_I, K = z_up I2 0 34 x136 := ⟨_, rfl⟩
          rw [← eI137] at hW
          have f138 := z_fr_k lp1fr (show z_wr L_X12_next 0 34 = true by decide) eI137
          refine lv_goto (tgt := 0) hx hb dX12_next_28 (by decide) ?_
          exact lp1ih  I137 J3 _ _ _ (by show 501 - (I137 0 34).toInt ≤ (f : Int); have q9 : (I137 0 34) = x136 := (by rw [eI137, z_up_s]); rw [q9]; first | omega | decide) ⟨(by show 0 ≤ (I137 0 31).toInt ∧ (I137 0 31).toInt ≤ 500; rw [eI137, z_up_k (by decide)]; exact lp1mp.1), (by show 0 ≤ (I137 0 33).toInt ∧ (I137 0 33).toInt ≤ 500; rw [eI137, z_up_k (by decide)]; exact lp1mp.2.1), (by show 0 ≤ (I137 0 34).toInt ∧ (I137 0 34).toInt ≤ 500; rw [eI137, z_up_s]; omega), (by show 0 ≤ (I137 0 35).toInt ∧ (I137 0 35).toInt ≤ 500; rw [eI137, z_up_k (by decide)]; exact lp1mp.2.2.2)⟩ ⟨(by show 0 ≤ (I137 0 36).toInt ∧ (I137 0 36).toInt ≤ 4; rw [eI137, z_up_k (by decide)]; exact lp1mt.1), (by show 0 ≤ (I137 0 42).toInt ∧ (I137 0 42).toInt ≤ 1; rw [eI137, z_up_k (by decide)]; exact lp1mt.2)⟩ (by have q0 : (I137 0 34) = x136 := (by rw [eI137, z_up_s]); have q1 : (I137 0 33) = (I2 0 33) := (by rw [eI137, z_up_k (by decide)]); show 0 ≤ (I137 0 34).toInt ∧ (I137 0 34).toInt ≤ (I137 0 33).toInt ∧ (I137 0 33).toInt ≤ 500; rw [q0, q1]; first | omega | decide) (by have q0 : (I137 0 34) = x136 := (by rw [eI137, z_up_s]); show (I 0 34).toInt ≤ (I137 0 34).toInt; rw [q0]; omega) f138 hW hS (lv_sub hl [0] rfl)
  exact lp1 502  I J _ _ _ (by show 501 - (I 0 34).toInt ≤ ((502 : Nat) : Int); first | omega | decide) ⟨(by show 0 ≤ (I 0 31).toInt ∧ (I 0 31).toInt ≤ 500; exact hmp.1), (by show 0 ≤ (I 0 33).toInt ∧ (I 0 33).toInt ≤ 500; exact hmp.2.1), (by show 0 ≤ (I 0 34).toInt ∧ (I 0 34).toInt ≤ 500; exact hmp.2.2.1), (by show 0 ≤ (I 0 35).toInt ∧ (I 0 35).toInt ≤ 500; exact hmp.2.2.2)⟩ ⟨(by show 0 ≤ (I 0 36).toInt ∧ (I 0 36).toInt ≤ 4; exact hmt.1), (by show 0 ≤ (I 0 42).toInt ∧ (I 0 42).toInt ≤ 1; exact hmt.2)⟩ (by show 0 ≤ (I 0 34).toInt ∧ (I 0 34).toInt ≤ (I 0 33).toInt ∧ (I 0 33).toInt ≤ 500; first | omega | decide) (by show (I 0 34).toInt ≤ (I 0 34).toInt; omega) z_fr_0 hW hS (lv_sub hl [0] rfl)
noncomputable def L_X12_errs : z_L := [(0, 42), (0, 32)]
theorem zj_X12_errs_X12 : ∀ w ∈ wsX120, w ∈ wsX12_errs := fun w h => (List.mem_cons_of_mem _ (List.mem_append_right _ h))
set_option maxHeartbeats 8000000 in
set_option maxRecDepth 100000 in
theorem sx_X12_errs (l : Launch) (G : z_G) (ad : Nat → Nat) (I : z_I) (J : z_J) (hmt : z_imt I) : z_Mv l yX12_errs wsX12_errs { frames := 1, cells := 0, slots := 0, locals := 12 } [.ref (ad 0)] G (shM, ad, I, J, PM ad) (fun u1 => ∃ (I1 : z_I) (J1 : z_J), u1 = (shM, ad, I1, J1, PM ad) ∧ z_imt I1 ∧ z_fr L_X12_errs I1 I ∧ ¬ (I1 0 42).toInt = 0) 0 0 := by
  intro sz
  refine z_headQ (cc := cX12_errs) (maxL := 1) (ret := none) (by decide) rfl (Nat.le_of_ble_eq_true rfl) ?_
  intro p e s m below meth c0 ls hIn hK hsz hW hl
  obtain ⟨hx, hb, hr, hml, hown, hts, hlocks, hname⟩ := hIn
  subst hsz
  have hown : s.vm.findClass RX12 = some m.cls := hown
  have hA : ∀ q : Nat, s.heap.size ≤ q → z_A (shM, ad, I, J, PM ad) s.heap.size q := fun q h => Or.inr h
  generalize hAe : z_A (shM, ad, I, J, PM ad) s.heap.size = A at *
  have hS : va_S A s.heap s.heap [] := va_S.rf
  have hl : lv_has ls 1 [(0, .ref (ad 0))] := hl
  refine lv_aload_n hx hb dX12_errs_0 rfl (lv_at hl 0 rfl) ?_
  have r1 : 0 ≤ (I 0 42).toInt ∧ (I 0 42).toInt ≤ 1 := hmt.2
  refine z_get (T := TX12) (N := 96) (ci := 12) (i := 0) (v := .int (I 0 42)) hx hb hts zj_X12_errs_X12 hown hK hW rfl rfl 42 (by decide) (hts (.fieldLink RX12 294 "PetrolBoardModel" "isWrong" "Z") (me_s (me_l (List.mem_of_getElem? (i := 0) rfl)))) (fun _ h => h) rfl dX12_errs_1 ?_
  refine lv_if_eq (tgt := 8) hx hb dX12_errs_4 (by decide) (fun c2 => ?_) (fun c2 => ?_)
  · have g3 := z_f_eq rfl z_l0 c2
    refine lv_aload_n hx hb dX12_errs_8 rfl (lv_at hl 0 rfl) ?_
    refine lv_iconst (v := 1) hx hb dX12_errs_9 (by decide) ?_
    refine z_put (T := TX12) (N := 96) (ci := 12) (i := 0) (v := .int 1) (I1 := z_up I 0 42 1) (J1 := J) (P1 := PM ad) hx hb hts zj_X12_errs_X12 tyX12 tyX12_ok nmX12 hown hK hW hS rfl rfl 42 (by decide) (hts (.fieldLink RX12 294 "PetrolBoardModel" "isWrong" "Z") (me_s (me_l (List.mem_of_getElem? (i := 0) rfl)))) (fun _ h => h) rfl (by decide) rfl (by first | rfl | exact congrArg _ z_up_s) (fun a b h ty => z_vI h ty) dX12_errs_10 (fun H locs hz1 hW hS => ?_)
    obtain ⟨I4, eI4⟩ : ∃ K : z_I, K = z_up I 0 42 1 := ⟨_, rfl⟩
    rw [← eI4] at hW
    have f5 := z_fr_k z_fr_0 (show z_wr L_X12_errs 0 42 = true by decide) eI4
    refine lv_aload_n hx hb dX12_errs_13 rfl (lv_at hl 0 rfl) ?_
    refine lv_aload_n hx hb dX12_errs_14 rfl (lv_at hl 0 rfl) ?_
    refine z_get (T := TX12) (N := 96) (ci := 12) (i := 0) (v := .int (I 0 35)) hx hb hts zj_X12_errs_X12 hown hK hW rfl rfl 35 (by decide) (hts (.fieldLink RX12 266 "PetrolBoardModel" "from" "I") (me_s (me_l (List.mem_of_getElem? (i := 1) rfl)))) (fun _ h => h) (congrArg Value.int (by rw [eI4, z_up_k (by decide)])) dX12_errs_15 ?_
    refine z_put (T := TX12) (N := 96) (ci := 12) (i := 0) (v := .int (I 0 35)) (I1 := z_up I4 0 32 (I 0 35)) (J1 := J) (P1 := PM ad) hx hb hts zj_X12_errs_X12 tyX12 tyX12_ok nmX12 hown hK hW hS rfl rfl 32 (by decide) (hts (.fieldLink RX12 87 "PetrolBoardModel" "faultAt" "I") (me_s (me_l (List.mem_of_getElem? (i := 2) rfl)))) (fun _ h => h) rfl rfl rfl (by first | rfl | exact congrArg _ z_up_s) (fun a b h ty => z_vI h ty) dX12_errs_18 (fun H locs hz1 hW hS => ?_)
    obtain ⟨I6, eI6⟩ : ∃ K : z_I, K = z_up I4 0 32 (I 0 35) := ⟨_, rfl⟩
    rw [← eI6] at hW
    have f7 := z_fr_k f5 (show z_wr L_X12_errs 0 32 = true by decide) eI6
    exact z_vret hx hb hr hK hS (Nat.le_of_ble_eq_true rfl) (Nat.le_of_ble_eq_true rfl) hlocks dX12_errs_21 (shM, ad, I6, J, PM ad) hW ⟨I6, J, rfl, ⟨(by show 0 ≤ (I6 0 36).toInt ∧ (I6 0 36).toInt ≤ 4; rw [eI6, z_up_k (by decide), eI4, z_up_k (by decide)]; exact hmt.1), (by show 0 ≤ (I6 0 42).toInt ∧ (I6 0 42).toInt ≤ 1; rw [eI6, z_up_k (by decide), eI4, z_up_s]; decide)⟩, f7, (by have q0 : (I6 0 42) = 1 := (by rw [eI6, z_up_k (by decide), eI4, z_up_s]); have z0 := z_l1; show ¬ (I6 0 42).toInt = 0; rw [q0]; omega)⟩
  · have g8 := z_f_ne rfl z_l0 c2
    exact z_vret hx hb hr hK hS (Nat.le_of_ble_eq_true rfl) (Nat.le_of_ble_eq_true rfl) hlocks dX12_errs_7 (shM, ad, I, J, PM ad) hW ⟨I, J, rfl, ⟨(by show 0 ≤ (I 0 36).toInt ∧ (I 0 36).toInt ≤ 4; exact hmt.1), (by show 0 ≤ (I 0 42).toInt ∧ (I 0 42).toInt ≤ 1; exact hmt.2)⟩, z_fr_0, (by show ¬ (I 0 42).toInt = 0; omega)⟩
theorem zj_X12_isWord_X12 : ∀ w ∈ wsX120, w ∈ wsX12_isWord := fun w h => (List.mem_cons_of_mem _ (List.mem_append_right _ h))
set_option maxHeartbeats 8000000 in
set_option maxRecDepth 100000 in
theorem sx_X12_isWord (l : Launch) (G : z_G) (ad : Nat → Nat) (I : z_I) (J : z_J) (hmt : z_imt I) (a1 : Int64) : z_M l yX12_isWord wsX12_isWord { frames := 1, cells := 0, slots := 0, locals := 12 } [.ref (ad 0), .long a1] G (shM, ad, I, J, PM ad) (fun r u1 => u1 = (shM, ad, I, J, PM ad) ∧ ((r = 1 ∧ (I 0 36).toInt = 1) ∨ r = 0)) 0 0 := by
  intro sz
  refine z_headQ (cc := cX12_isWord) (maxL := 3) (ret := (some .boolean)) (by decide) rfl (Nat.le_of_ble_eq_true rfl) ?_
  intro p e s m below meth c0 ls hIn hK hsz hW hl
  obtain ⟨hx, hb, hr, hml, hown, hts, hlocks, hname⟩ := hIn
  subst hsz
  have hown : s.vm.findClass RX12 = some m.cls := hown
  have hA : ∀ q : Nat, s.heap.size ≤ q → z_A (shM, ad, I, J, PM ad) s.heap.size q := fun q h => Or.inr h
  generalize hAe : z_A (shM, ad, I, J, PM ad) s.heap.size = A at *
  have hS : va_S A s.heap s.heap [] := va_S.rf
  have hl : lv_has ls 3 [(0, .ref (ad 0)), (1, .long a1)] := hl
  refine lv_aload_n hx hb dX12_isWord_0 rfl (lv_at hl 0 rfl) ?_
  have r1 : 0 ≤ (I 0 36).toInt ∧ (I 0 36).toInt ≤ 4 := hmt.1
  refine z_get (T := TX12) (N := 96) (ci := 12) (i := 0) (v := .int (I 0 36)) hx hb hts zj_X12_isWord_X12 hown hK hW rfl rfl 36 (by decide) (hts (.fieldLink RX12 281 "PetrolBoardModel" "token" "I") (me_s (me_l (List.mem_of_getElem? (i := 0) rfl)))) (fun _ h => h) rfl dX12_isWord_1 ?_
  refine lv_iconst (v := 1) hx hb dX12_isWord_4 (by decide) ?_
  refine lv_icmp_ne (tgt := 21) hx hb dX12_isWord_5 (by decide) (fun c2 => ?_) (fun c2 => ?_)
  · have g3 := z_f_ne rfl z_l1 c2
    refine lv_iconst (v := 0) hx hb dX12_isWord_21 (by decide) ?_
    exact z_zret hx hb hr (by decide) hK hS (Nat.le_of_ble_eq_true rfl) (Nat.le_of_ble_eq_true rfl) hlocks dX12_isWord_22 (shM, ad, I, J, PM ad) hW ⟨rfl, Or.inr rfl⟩
  · have g4 := z_f_eq rfl z_l1 c2
    refine lv_aload_n hx hb dX12_isWord_8 rfl (lv_at hl 0 rfl) ?_
    refine z_get (T := TX12) (N := 96) (ci := 12) (i := 0) (v := .long (J 0 41)) hx hb hts zj_X12_isWord_X12 hown hK hW rfl rfl 41 (by decide) (hts (.fieldLink RX12 271 "PetrolBoardModel" "word" "J") (me_s (me_l (List.mem_of_getElem? (i := 1) rfl)))) (fun _ h => h) rfl dX12_isWord_9 ?_
    refine lv_lload_n hx hb dX12_isWord_12 rfl (lv_at hl 1 rfl) ?_
    refine W.lcmp hx hb dX12_isWord_13 ?_
    refine lv_topi (fun x5 ex5 => ?_)
    have tx5 := z_tcmp ex5
    refine lv_if_ne (tgt := 21) hx hb dX12_isWord_14 (by decide) (fun c6 => ?_) (fun c6 => ?_)
    · have g7 := z_f_ne rfl z_l0 c6
      refine lv_iconst (v := 0) hx hb dX12_isWord_21 (by decide) ?_
      exact z_zret hx hb hr (by decide) hK hS (Nat.le_of_ble_eq_true rfl) (Nat.le_of_ble_eq_true rfl) hlocks dX12_isWord_22 (shM, ad, I, J, PM ad) hW ⟨rfl, Or.inr rfl⟩
    · have g8 := z_f_eq rfl z_l0 c6
      refine lv_iconst (v := 1) hx hb dX12_isWord_17 (by decide) ?_
      refine lv_goto (tgt := 22) hx hb dX12_isWord_18 (by decide) ?_
      exact z_zret hx hb hr (by decide) hK hS (Nat.le_of_ble_eq_true rfl) (Nat.le_of_ble_eq_true rfl) hlocks dX12_isWord_22 (shM, ad, I, J, PM ad) hW ⟨rfl, Or.inl ⟨rfl, by omega⟩⟩
theorem zj_X12_isSign_X12 : ∀ w ∈ wsX120, w ∈ wsX12_isSign := fun w h => (List.mem_cons_of_mem _ (List.mem_append_right _ h))
set_option maxHeartbeats 8000000 in
set_option maxRecDepth 100000 in
theorem sx_X12_isSign (l : Launch) (G : z_G) (ad : Nat → Nat) (I : z_I) (J : z_J) (hmt : z_imt I) (a1 : Int32) : z_M l yX12_isSign wsX12_isSign { frames := 1, cells := 0, slots := 0, locals := 12 } [.ref (ad 0), .int a1] G (shM, ad, I, J, PM ad) (fun r u1 => u1 = (shM, ad, I, J, PM ad) ∧ ((r = 1 ∧ (I 0 36).toInt = 3) ∨ r = 0)) 0 0 := by
  intro sz
  refine z_headQ (cc := cX12_isSign) (maxL := 2) (ret := (some .boolean)) (by decide) rfl (Nat.le_of_ble_eq_true rfl) ?_
  intro p e s m below meth c0 ls hIn hK hsz hW hl
  obtain ⟨hx, hb, hr, hml, hown, hts, hlocks, hname⟩ := hIn
  subst hsz
  have hown : s.vm.findClass RX12 = some m.cls := hown
  have hA : ∀ q : Nat, s.heap.size ≤ q → z_A (shM, ad, I, J, PM ad) s.heap.size q := fun q h => Or.inr h
  generalize hAe : z_A (shM, ad, I, J, PM ad) s.heap.size = A at *
  have hS : va_S A s.heap s.heap [] := va_S.rf
  have hl : lv_has ls 2 [(0, .ref (ad 0)), (1, .int a1)] := hl
  refine lv_aload_n hx hb dX12_isSign_0 rfl (lv_at hl 0 rfl) ?_
  have r1 : 0 ≤ (I 0 36).toInt ∧ (I 0 36).toInt ≤ 4 := hmt.1
  refine z_get (T := TX12) (N := 96) (ci := 12) (i := 0) (v := .int (I 0 36)) hx hb hts zj_X12_isSign_X12 hown hK hW rfl rfl 36 (by decide) (hts (.fieldLink RX12 281 "PetrolBoardModel" "token" "I") (me_s (me_l (List.mem_of_getElem? (i := 0) rfl)))) (fun _ h => h) rfl dX12_isSign_1 ?_
  refine lv_iconst (v := 3) hx hb dX12_isSign_4 (by decide) ?_
  refine lv_icmp_ne (tgt := 20) hx hb dX12_isSign_5 (by decide) (fun c2 => ?_) (fun c2 => ?_)
  · have g3 := z_f_ne rfl z_l3 c2
    refine lv_iconst (v := 0) hx hb dX12_isSign_20 (by decide) ?_
    exact z_zret hx hb hr (by decide) hK hS (Nat.le_of_ble_eq_true rfl) (Nat.le_of_ble_eq_true rfl) hlocks dX12_isSign_21 (shM, ad, I, J, PM ad) hW ⟨rfl, Or.inr rfl⟩
  · have g4 := z_f_eq rfl z_l3 c2
    refine lv_aload_n hx hb dX12_isSign_8 rfl (lv_at hl 0 rfl) ?_
    refine z_get (T := TX12) (N := 96) (ci := 12) (i := 0) (v := .int (I 0 37)) hx hb hts zj_X12_isSign_X12 hown hK hW rfl rfl 37 (by decide) (hts (.fieldLink RX12 275 "PetrolBoardModel" "sign" "I") (me_s (me_l (List.mem_of_getElem? (i := 1) rfl)))) (fun _ h => h) rfl dX12_isSign_9 ?_
    refine lv_iload_n hx hb dX12_isSign_12 rfl (lv_at hl 1 rfl) ?_
    refine lv_icmp_ne (tgt := 20) hx hb dX12_isSign_13 (by decide) (fun c5 => ?_) (fun c5 => ?_)
    · have g6 := z_f_ne rfl rfl c5
      have b7 := Int32.toInt_lt (I 0 37)
      have b8 := Int32.toInt_lt a1
      refine lv_iconst (v := 0) hx hb dX12_isSign_20 (by decide) ?_
      exact z_zret hx hb hr (by decide) hK hS (Nat.le_of_ble_eq_true rfl) (Nat.le_of_ble_eq_true rfl) hlocks dX12_isSign_21 (shM, ad, I, J, PM ad) hW ⟨rfl, Or.inr rfl⟩
    · have g9 := z_f_eq rfl rfl c5
      have b10 := Int32.toInt_lt (I 0 37)
      have b11 := Int32.toInt_lt a1
      refine lv_iconst (v := 1) hx hb dX12_isSign_16 (by decide) ?_
      refine lv_goto (tgt := 21) hx hb dX12_isSign_17 (by decide) ?_
      exact z_zret hx hb hr (by decide) hK hS (Nat.le_of_ble_eq_true rfl) (Nat.le_of_ble_eq_true rfl) hlocks dX12_isSign_21 (shM, ad, I, J, PM ad) hW ⟨rfl, Or.inl ⟨rfl, by omega⟩⟩
noncomputable def L_X12_must : z_L := [(0, 35), (0, 36), (0, 37), (0, 38), (0, 34), (0, 42), (0, 32)]
set_option maxHeartbeats 8000000 in
set_option maxRecDepth 100000 in
theorem sx_X12_must (l : Launch) (G : z_G) (ad : Nat → Nat) (I : z_I) (J : z_J) (hmp : z_imp I) (hmt : z_imt I) (hrp : z_irp I) (a1 : Int32) : z_Mv l yX12_must wsX12_must { frames := 3, cells := 0, slots := 0, locals := 55 } [.ref (ad 0), .int a1] G (shM, ad, I, J, PM ad) (fun u1 => ∃ (I1 : z_I) (J1 : z_J), u1 = (shM, ad, I1, J1, PM ad) ∧ z_imp I1 ∧ z_imt I1 ∧ z_irp I1 ∧ z_fr L_X12_must I1 I ∧ (¬ (I1 0 42).toInt = 0 ∨ (I 0 35).toInt + 1 ≤ (I1 0 35).toInt)) 0 0 := by
  intro sz
  refine z_headQ (cc := cX12_must) (maxL := 2) (ret := none) (by decide) rfl (Nat.le_of_ble_eq_true rfl) ?_
  intro p e s m below meth c0 ls hIn hK hsz hW hl
  obtain ⟨hx, hb, hr, hml, hown, hts, hlocks, hname⟩ := hIn
  subst hsz
  have hown : s.vm.findClass RX12 = some m.cls := hown
  have hA : ∀ q : Nat, s.heap.size ≤ q → z_A (shM, ad, I, J, PM ad) s.heap.size q := fun q h => Or.inr h
  generalize hAe : z_A (shM, ad, I, J, PM ad) s.heap.size = A at *
  have hS : va_S A s.heap s.heap [] := va_S.rf
  have hl : lv_has ls 2 [(0, .ref (ad 0)), (1, .int a1)] := hl
  have krp : 0 ≤ (I 0 35).toInt ∧ (I 0 35).toInt ≤ (I 0 34).toInt ∧ (I 0 34).toInt ≤ (I 0 33).toInt ∧ (I 0 33).toInt ≤ 500 ∧ ((I 0 36).toInt = 0 ∨ (I 0 35).toInt + 1 ≤ (I 0 34).toInt) := hrp
  refine lv_aload_n hx hb dX12_must_0 rfl (lv_at hl 0 rfl) ?_
  refine lv_iload_n hx hb dX12_must_1 rfl (lv_at hl 1 rfl) ?_
  refine z_ci hW hS hA (va_runV (As := [.int a1]) (rest := []) ⟨hx, hb, hml, hown, hts⟩ (sx_X12_isSign l G ad I J ⟨(by show 0 ≤ (I 0 36).toInt ∧ (I 0 36).toInt ≤ 4; exact hmt.1), (by show 0 ≤ (I 0 42).toInt ∧ (I 0 42).toInt ≤ 1; exact hmt.2)⟩ a1 _) (cwV 1 hts gX12_must_X12_isSign rfl rfl rfl hy_X12_isSign ⟨Nat.le_of_ble_eq_true rfl, Nat.le_of_ble_eq_true rfl⟩) (z_preV (i := 0) hK hW rfl rfl) rfl rfl hl.1 rfl (lv_room (Nat.le_of_ble_eq_true rfl)) dX12_must_2 ⟨Nat.le_of_ble_eq_true rfl, Nat.le_of_ble_eq_true rfl⟩) (fun r u1 H locs hp hW hS => ?_)
  obtain ⟨e9, hp⟩ := hp
  rw [e9] at hW
  rcases hp with ⟨rfl, h1⟩ | rfl
  · have h2 : (I 0 35).toInt + 1 ≤ (I 0 34).toInt := by omega
    refine lv_if_eq (tgt := 15) hx hb dX12_must_5 (by decide) (fun c3 => absurd c3 (by decide)) (fun c3 => ?_)
    refine lv_aload_n hx hb dX12_must_8 rfl (lv_at hl 0 rfl) ?_
    refine z_cv hW hS hA (va_runV (As := []) (rest := []) ⟨hx, hb, hml, hown, hts⟩ (sx_X12_next l G ad I J ⟨(by show 0 ≤ (I 0 31).toInt ∧ (I 0 31).toInt ≤ 500; exact hmp.1), (by show 0 ≤ (I 0 33).toInt ∧ (I 0 33).toInt ≤ 500; exact hmp.2.1), (by show 0 ≤ (I 0 34).toInt ∧ (I 0 34).toInt ≤ 500; exact hmp.2.2.1), (by show 0 ≤ (I 0 35).toInt ∧ (I 0 35).toInt ≤ 500; exact hmp.2.2.2)⟩ ⟨(by show 0 ≤ (I 0 36).toInt ∧ (I 0 36).toInt ≤ 4; exact hmt.1), (by show 0 ≤ (I 0 42).toInt ∧ (I 0 42).toInt ≤ 1; exact hmt.2)⟩ (by show 0 ≤ (I 0 34).toInt ∧ (I 0 34).toInt ≤ (I 0 33).toInt ∧ (I 0 33).toInt ≤ 500; first | omega | decide)  _) (cwV 0 hts gX12_must_X12_next rfl rfl rfl hy_X12_next ⟨Nat.le_of_ble_eq_true rfl, Nat.le_of_ble_eq_true rfl⟩) (z_preV (i := 0) hK hW rfl rfl) rfl rfl hl.1 rfl (lv_room (Nat.le_of_ble_eq_true rfl)) dX12_must_9 ⟨Nat.le_of_ble_eq_true rfl, Nat.le_of_ble_eq_true rfl⟩) (fun u1 H locs hp hW hS => ?_)
    obtain ⟨I4, J6, e9, hI4mp, hI4mt, hI4rp, fI4, hp⟩ := hp
    rw [e9] at hW
    have f5 := z_fr_sub (L := L_X12_must) z_fr_0 fI4 (by decide)
    have k7 : 0 ≤ (I4 0 35).toInt ∧ (I4 0 35).toInt ≤ (I4 0 34).toInt ∧ (I4 0 34).toInt ≤ (I4 0 33).toInt ∧ (I4 0 33).toInt ≤ 500 ∧ ((I4 0 36).toInt = 0 ∨ (I4 0 35).toInt + 1 ≤ (I4 0 34).toInt) := hI4rp
    have k8 : (I4 0 42).toInt = (I 0 42).toInt := by rw [fI4 0 42 (by decide)]
    have k9 : (I4 0 47).toInt = (I 0 47).toInt := by rw [fI4 0 47 (by decide)]
    have k10 : (I4 0 39).toInt = (I 0 39).toInt := by rw [fI4 0 39 (by decide)]
    have k11 : (I4 0 15).toInt = (I 0 15).toInt := by rw [fI4 0 15 (by decide)]
    have k12 : (I4 0 40).toInt = (I 0 40).toInt := by rw [fI4 0 40 (by decide)]
    have h13 := hp
    refine lv_goto (tgt := 19) hx hb dX12_must_12 (by decide) ?_
    exact z_vret hx hb hr hK hS (Nat.le_of_ble_eq_true rfl) (Nat.le_of_ble_eq_true rfl) hlocks dX12_must_19 (shM, ad, I4, J6, PM ad) hW ⟨I4, J6, rfl, ⟨(by show 0 ≤ (I4 0 31).toInt ∧ (I4 0 31).toInt ≤ 500; exact hI4mp.1), (by show 0 ≤ (I4 0 33).toInt ∧ (I4 0 33).toInt ≤ 500; exact hI4mp.2.1), (by show 0 ≤ (I4 0 34).toInt ∧ (I4 0 34).toInt ≤ 500; exact hI4mp.2.2.1), (by show 0 ≤ (I4 0 35).toInt ∧ (I4 0 35).toInt ≤ 500; exact hI4mp.2.2.2)⟩, ⟨(by show 0 ≤ (I4 0 36).toInt ∧ (I4 0 36).toInt ≤ 4; exact hI4mt.1), (by show 0 ≤ (I4 0 42).toInt ∧ (I4 0 42).toInt ≤ 1; exact hI4mt.2)⟩, (by show 0 ≤ (I4 0 35).toInt ∧ (I4 0 35).toInt ≤ (I4 0 34).toInt ∧ (I4 0 34).toInt ≤ (I4 0 33).toInt ∧ (I4 0 33).toInt ≤ 500 ∧ ((I4 0 36).toInt = 0 ∨ (I4 0 35).toInt + 1 ≤ (I4 0 34).toInt); first | omega | decide), f5, (by show ¬ (I4 0 42).toInt = 0 ∨ (I 0 35).toInt + 1 ≤ (I4 0 35).toInt; omega)⟩
  · refine lv_if_eq (tgt := 15) hx hb dX12_must_5 (by decide) (fun c14 => ?_) (fun c14 => absurd (by decide) c14)
    refine lv_aload_n hx hb dX12_must_15 rfl (lv_at hl 0 rfl) ?_
    refine z_cv hW hS hA (va_runV (As := []) (rest := []) ⟨hx, hb, hml, hown, hts⟩ (sx_X12_errs l G ad I J ⟨(by show 0 ≤ (I 0 36).toInt ∧ (I 0 36).toInt ≤ 4; exact hmt.1), (by show 0 ≤ (I 0 42).toInt ∧ (I 0 42).toInt ≤ 1; exact hmt.2)⟩  _) (cwV 0 hts gX12_must_X12_errs rfl rfl rfl hy_X12_errs ⟨Nat.le_of_ble_eq_true rfl, Nat.le_of_ble_eq_true rfl⟩) (z_preV (i := 0) hK hW rfl rfl) rfl rfl hl.1 rfl (lv_room (Nat.le_of_ble_eq_true rfl)) dX12_must_16 ⟨Nat.le_of_ble_eq_true rfl, Nat.le_of_ble_eq_true rfl⟩) (fun u1 H locs hp hW hS => ?_)
    obtain ⟨I15, J17, e9, hI15mt, fI15, hp⟩ := hp
    rw [e9] at hW
    have f16 := z_fr_sub (L := L_X12_must) z_fr_0 fI15 (by decide)
    have k18 : 0 ≤ (I15 0 31).toInt ∧ (I15 0 31).toInt ≤ 500 := by rw [fI15 0 31 (by decide)]; exact (by show 0 ≤ (I 0 31).toInt ∧ (I 0 31).toInt ≤ 500; exact hmp.1)
    have k19 : 0 ≤ (I15 0 33).toInt ∧ (I15 0 33).toInt ≤ 500 := by rw [fI15 0 33 (by decide)]; exact (by show 0 ≤ (I 0 33).toInt ∧ (I 0 33).toInt ≤ 500; exact hmp.2.1)
    have k20 : 0 ≤ (I15 0 34).toInt ∧ (I15 0 34).toInt ≤ 500 := by rw [fI15 0 34 (by decide)]; exact (by show 0 ≤ (I 0 34).toInt ∧ (I 0 34).toInt ≤ 500; exact hmp.2.2.1)
    have k21 : 0 ≤ (I15 0 35).toInt ∧ (I15 0 35).toInt ≤ 500 := by rw [fI15 0 35 (by decide)]; exact (by show 0 ≤ (I 0 35).toInt ∧ (I 0 35).toInt ≤ 500; exact hmp.2.2.2)
    have k22 : 0 ≤ (I15 0 35).toInt ∧ (I15 0 35).toInt ≤ (I15 0 34).toInt ∧ (I15 0 34).toInt ≤ (I15 0 33).toInt ∧ (I15 0 33).toInt ≤ 500 ∧ ((I15 0 36).toInt = 0 ∨ (I15 0 35).toInt + 1 ≤ (I15 0 34).toInt) := (by have q0 : (I15 0 35) = (I 0 35) := (by rw [fI15 0 35 (by decide)]); have q1 : (I15 0 34) = (I 0 34) := (by rw [fI15 0 34 (by decide)]); have q2 : (I15 0 33) = (I 0 33) := (by rw [fI15 0 33 (by decide)]); have q3 : (I15 0 36) = (I 0 36) := (by rw [fI15 0 36 (by decide)]); show 0 ≤ (I15 0 35).toInt ∧ (I15 0 35).toInt ≤ (I15 0 34).toInt ∧ (I15 0 34).toInt ≤ (I15 0 33).toInt ∧ (I15 0 33).toInt ≤ 500 ∧ ((I15 0 36).toInt = 0 ∨ (I15 0 35).toInt + 1 ≤ (I15 0 34).toInt); rw [q0, q1, q2, q3]; first | omega | decide)
    have k23 : (I15 0 35).toInt = (I 0 35).toInt := by rw [fI15 0 35 (by decide)]
    have k24 : (I15 0 34).toInt = (I 0 34).toInt := by rw [fI15 0 34 (by decide)]
    have k25 : (I15 0 36).toInt = (I 0 36).toInt := by rw [fI15 0 36 (by decide)]
    have k26 : (I15 0 47).toInt = (I 0 47).toInt := by rw [fI15 0 47 (by decide)]
    have k27 : (I15 0 39).toInt = (I 0 39).toInt := by rw [fI15 0 39 (by decide)]
    have k28 : (I15 0 15).toInt = (I 0 15).toInt := by rw [fI15 0 15 (by decide)]
    have k29 : (I15 0 40).toInt = (I 0 40).toInt := by rw [fI15 0 40 (by decide)]
    have h30 := hp
    exact z_vret hx hb hr hK hS (Nat.le_of_ble_eq_true rfl) (Nat.le_of_ble_eq_true rfl) hlocks dX12_must_19 (shM, ad, I15, J17, PM ad) hW ⟨I15, J17, rfl, ⟨(by show 0 ≤ (I15 0 31).toInt ∧ (I15 0 31).toInt ≤ 500; exact k18), (by show 0 ≤ (I15 0 33).toInt ∧ (I15 0 33).toInt ≤ 500; exact k19), (by show 0 ≤ (I15 0 34).toInt ∧ (I15 0 34).toInt ≤ 500; exact k20), (by show 0 ≤ (I15 0 35).toInt ∧ (I15 0 35).toInt ≤ 500; exact k21)⟩, ⟨(by show 0 ≤ (I15 0 36).toInt ∧ (I15 0 36).toInt ≤ 4; exact hI15mt.1), (by show 0 ≤ (I15 0 42).toInt ∧ (I15 0 42).toInt ≤ 1; exact hI15mt.2)⟩, (by show 0 ≤ (I15 0 35).toInt ∧ (I15 0 35).toInt ≤ (I15 0 34).toInt ∧ (I15 0 34).toInt ≤ (I15 0 33).toInt ∧ (I15 0 33).toInt ≤ 500 ∧ ((I15 0 36).toInt = 0 ∨ (I15 0 35).toInt + 1 ≤ (I15 0 34).toInt); first | omega | decide), f16, (by show ¬ (I15 0 42).toInt = 0 ∨ (I 0 35).toInt + 1 ≤ (I15 0 35).toInt; omega)⟩
noncomputable def L_X12_opens : z_L := [(0, 35), (0, 36), (0, 37), (0, 38), (0, 34), (0, 42), (0, 32), (0, 39)]
theorem zj_X12_opens_X12 : ∀ w ∈ wsX120, w ∈ wsX12_opens := fun w h => (List.mem_cons_of_mem _ (List.mem_append_right _ h))
set_option maxHeartbeats 8000000 in
set_option maxRecDepth 100000 in
theorem sx_X12_opens (l : Launch) (G : z_G) (ad : Nat → Nat) (I : z_I) (J : z_J) (hmp : z_imp I) (hmt : z_imt I) (hrp : z_irp I) (hmd : z_imd I) (q1 : (I 0 39).toInt ≤ 9) : z_Mv l yX12_opens wsX12_opens { frames := 3, cells := 0, slots := 0, locals := 55 } [.ref (ad 0)] G (shM, ad, I, J, PM ad) (fun u1 => ∃ (I1 : z_I) (J1 : z_J), u1 = (shM, ad, I1, J1, PM ad) ∧ z_imp I1 ∧ z_imt I1 ∧ z_irp I1 ∧ z_imd I1 ∧ z_fr L_X12_opens I1 I ∧ ((I1 0 39).toInt = (I 0 39).toInt + 1 ∧ (I 0 34).toInt ≤ (I1 0 35).toInt ∧ (¬ (I1 0 42).toInt = 0 ∨ (I 0 39).toInt ≤ 8))) 0 0 := by
  intro sz
  refine z_headQ (cc := cX12_opens) (maxL := 1) (ret := none) (by decide) rfl (Nat.le_of_ble_eq_true rfl) ?_
  intro p e s m below meth c0 ls hIn hK hsz hW hl
  obtain ⟨hx, hb, hr, hml, hown, hts, hlocks, hname⟩ := hIn
  subst hsz
  have hown : s.vm.findClass RX12 = some m.cls := hown
  have hA : ∀ q : Nat, s.heap.size ≤ q → z_A (shM, ad, I, J, PM ad) s.heap.size q := fun q h => Or.inr h
  generalize hAe : z_A (shM, ad, I, J, PM ad) s.heap.size = A at *
  have hS : va_S A s.heap s.heap [] := va_S.rf
  have hl : lv_has ls 1 [(0, .ref (ad 0))] := hl
  have krp : 0 ≤ (I 0 35).toInt ∧ (I 0 35).toInt ≤ (I 0 34).toInt ∧ (I 0 34).toInt ≤ (I 0 33).toInt ∧ (I 0 33).toInt ≤ 500 ∧ ((I 0 36).toInt = 0 ∨ (I 0 35).toInt + 1 ≤ (I 0 34).toInt) := hrp
  refine lv_aload_n hx hb dX12_opens_0 rfl (lv_at hl 0 rfl) ?_
  have r1 : 0 ≤ (I 0 39).toInt ∧ (I 0 39).toInt ≤ 100 := hmd.2
  refine z_get (T := TX12) (N := 96) (ci := 12) (i := 0) (v := .int (I 0 39)) hx hb hts zj_X12_opens_X12 hown hK hW rfl rfl 39 (by decide) (hts (.fieldLink RX12 346 "PetrolBoardModel" "open" "I") (me_s (me_l (me_l (List.mem_of_getElem? (i := 0) rfl))))) (fun _ h => h) rfl dX12_opens_1 ?_
  refine lv_bipush (v := 9) hx hb dX12_opens_4 (by decide) ?_
  refine lv_icmp_ne (tgt := 13) hx hb dX12_opens_6 (by decide) (fun c2 => ?_) (fun c2 => ?_)
  · have g3 := z_f_ne rfl z_l9 c2
    refine lv_aload_n hx hb dX12_opens_13 rfl (lv_at hl 0 rfl) ?_
    refine lv_dup hx hb dX12_opens_14 rfl ?_
    refine z_get (T := TX12) (N := 96) (ci := 12) (i := 0) (v := .int (I 0 39)) hx hb hts zj_X12_opens_X12 hown hK hW rfl rfl 39 (by decide) (hts (.fieldLink RX12 346 "PetrolBoardModel" "open" "I") (me_s (me_l (me_l (List.mem_of_getElem? (i := 0) rfl))))) (fun _ h => h) rfl dX12_opens_15 ?_
    refine lv_iconst (v := 1) hx hb dX12_opens_18 (by decide) ?_
    refine lv_iadd hx hb dX12_opens_19 ?_
    refine lv_topi (fun x4 ex4 => ?_)
    have tx4 : x4.toInt = (I 0 39).toInt + 1 := z_tadd ex4 rfl z_l1 (by omega) (by omega)
    refine z_put (T := TX12) (N := 96) (ci := 12) (i := 0) (v := .int x4) (I1 := z_up I 0 39 x4) (J1 := J) (P1 := PM ad) hx hb hts zj_X12_opens_X12 tyX12 tyX12_ok nmX12 hown hK hW hS rfl rfl 39 (by decide) (hts (.fieldLink RX12 346 "PetrolBoardModel" "open" "I") (me_s (me_l (me_l (List.mem_of_getElem? (i := 0) rfl))))) (fun _ h => h) rfl rfl rfl (by first | rfl | exact congrArg _ z_up_s) (fun a b h ty => z_vI h ty) dX12_opens_20 (fun H locs hz1 hW hS => ?_)
    obtain ⟨I5, eI5⟩ : ∃ K : z_I, K = z_up I 0 39 x4 := ⟨_, rfl⟩
    rw [← eI5] at hW
    have f6 := z_fr_k z_fr_0 (show z_wr L_X12_opens 0 39 = true by decide) eI5
    refine lv_aload_n hx hb dX12_opens_23 rfl (lv_at hl 0 rfl) ?_
    refine z_cv hW hS hA (va_runV (As := []) (rest := []) ⟨hx, hb, hml, hown, hts⟩ (sx_X12_next l G ad I5 J ⟨(by show 0 ≤ (I5 0 31).toInt ∧ (I5 0 31).toInt ≤ 500; rw [eI5, z_up_k (by decide)]; exact hmp.1), (by show 0 ≤ (I5 0 33).toInt ∧ (I5 0 33).toInt ≤ 500; rw [eI5, z_up_k (by decide)]; exact hmp.2.1), (by show 0 ≤ (I5 0 34).toInt ∧ (I5 0 34).toInt ≤ 500; rw [eI5, z_up_k (by decide)]; exact hmp.2.2.1), (by show 0 ≤ (I5 0 35).toInt ∧ (I5 0 35).toInt ≤ 500; rw [eI5, z_up_k (by decide)]; exact hmp.2.2.2)⟩ ⟨(by show 0 ≤ (I5 0 36).toInt ∧ (I5 0 36).toInt ≤ 4; rw [eI5, z_up_k (by decide)]; exact hmt.1), (by show 0 ≤ (I5 0 42).toInt ∧ (I5 0 42).toInt ≤ 1; rw [eI5, z_up_k (by decide)]; exact hmt.2)⟩ (by have q0 : (I5 0 34) = (I 0 34) := (by rw [eI5, z_up_k (by decide)]); have q1 : (I5 0 33) = (I 0 33) := (by rw [eI5, z_up_k (by decide)]); show 0 ≤ (I5 0 34).toInt ∧ (I5 0 34).toInt ≤ (I5 0 33).toInt ∧ (I5 0 33).toInt ≤ 500; rw [q0, q1]; first | omega | decide)  _) (cwV 0 hts gX12_opens_X12_next rfl rfl rfl hy_X12_next ⟨Nat.le_of_ble_eq_true rfl, Nat.le_of_ble_eq_true rfl⟩) (z_preV (i := 0) hK hW rfl rfl) rfl rfl hl.1 rfl (lv_room (Nat.le_of_ble_eq_true rfl)) dX12_opens_24 ⟨Nat.le_of_ble_eq_true rfl, Nat.le_of_ble_eq_true rfl⟩) (fun u1 H locs hp hW hS => ?_)
    obtain ⟨I7, J9, e9, hI7mp, hI7mt, hI7rp, fI7, hp⟩ := hp
    rw [e9] at hW
    have f8 := z_fr_sub (L := L_X12_opens) f6 fI7 (by decide)
    have k10 : 0 ≤ (I7 0 35).toInt ∧ (I7 0 35).toInt ≤ (I7 0 34).toInt ∧ (I7 0 34).toInt ≤ (I7 0 33).toInt ∧ (I7 0 33).toInt ≤ 500 ∧ ((I7 0 36).toInt = 0 ∨ (I7 0 35).toInt + 1 ≤ (I7 0 34).toInt) := hI7rp
    have k11 : 0 ≤ (I7 0 47).toInt ∧ (I7 0 47).toInt ≤ 119 := by rw [fI7 0 47 (by decide)]; exact (by show 0 ≤ (I5 0 47).toInt ∧ (I5 0 47).toInt ≤ 119; rw [eI5, z_up_k (by decide)]; exact hmd.1)
    have k12 : 0 ≤ (I7 0 39).toInt ∧ (I7 0 39).toInt ≤ 100 := by rw [fI7 0 39 (by decide)]; exact (by show 0 ≤ (I5 0 39).toInt ∧ (I5 0 39).toInt ≤ 100; rw [eI5, z_up_s]; omega)
    have k13 : (I7 0 42).toInt = (I 0 42).toInt := by rw [fI7 0 42 (by decide), eI5, z_up_k (by decide)]
    have k14 : (I7 0 47).toInt = (I 0 47).toInt := by rw [fI7 0 47 (by decide), eI5, z_up_k (by decide)]
    have k15 : (I7 0 39).toInt = x4.toInt := by rw [fI7 0 39 (by decide), eI5, z_up_s]
    have k16 : (I7 0 15).toInt = (I 0 15).toInt := by rw [fI7 0 15 (by decide), eI5, z_up_k (by decide)]
    have k17 : (I7 0 40).toInt = (I 0 40).toInt := by rw [fI7 0 40 (by decide), eI5, z_up_k (by decide)]
    have h18 := hp
    rw [show (I5 0 34) = (I 0 34) from by rw [eI5, z_up_k (by decide)]] at h18
    exact z_vret hx hb hr hK hS (Nat.le_of_ble_eq_true rfl) (Nat.le_of_ble_eq_true rfl) hlocks dX12_opens_27 (shM, ad, I7, J9, PM ad) hW ⟨I7, J9, rfl, ⟨(by show 0 ≤ (I7 0 31).toInt ∧ (I7 0 31).toInt ≤ 500; exact hI7mp.1), (by show 0 ≤ (I7 0 33).toInt ∧ (I7 0 33).toInt ≤ 500; exact hI7mp.2.1), (by show 0 ≤ (I7 0 34).toInt ∧ (I7 0 34).toInt ≤ 500; exact hI7mp.2.2.1), (by show 0 ≤ (I7 0 35).toInt ∧ (I7 0 35).toInt ≤ 500; exact hI7mp.2.2.2)⟩, ⟨(by show 0 ≤ (I7 0 36).toInt ∧ (I7 0 36).toInt ≤ 4; exact hI7mt.1), (by show 0 ≤ (I7 0 42).toInt ∧ (I7 0 42).toInt ≤ 1; exact hI7mt.2)⟩, (by show 0 ≤ (I7 0 35).toInt ∧ (I7 0 35).toInt ≤ (I7 0 34).toInt ∧ (I7 0 34).toInt ≤ (I7 0 33).toInt ∧ (I7 0 33).toInt ≤ 500 ∧ ((I7 0 36).toInt = 0 ∨ (I7 0 35).toInt + 1 ≤ (I7 0 34).toInt); first | omega | decide), ⟨(by show 0 ≤ (I7 0 47).toInt ∧ (I7 0 47).toInt ≤ 119; exact k11), (by show 0 ≤ (I7 0 39).toInt ∧ (I7 0 39).toInt ≤ 100; exact k12)⟩, f8, ⟨(by show (I7 0 39).toInt = (I 0 39).toInt + 1; omega), (by show (I 0 34).toInt ≤ (I7 0 35).toInt; omega), (by show ¬ (I7 0 42).toInt = 0 ∨ (I 0 39).toInt ≤ 8; omega)⟩⟩
  · have g19 := z_f_eq rfl z_l9 c2
    refine lv_aload_n hx hb dX12_opens_9 rfl (lv_at hl 0 rfl) ?_
    refine z_cv hW hS hA (va_runV (As := []) (rest := []) ⟨hx, hb, hml, hown, hts⟩ (sx_X12_errs l G ad I J ⟨(by show 0 ≤ (I 0 36).toInt ∧ (I 0 36).toInt ≤ 4; exact hmt.1), (by show 0 ≤ (I 0 42).toInt ∧ (I 0 42).toInt ≤ 1; exact hmt.2)⟩  _) (cwV 0 hts gX12_opens_X12_errs rfl rfl rfl hy_X12_errs ⟨Nat.le_of_ble_eq_true rfl, Nat.le_of_ble_eq_true rfl⟩) (z_preV (i := 0) hK hW rfl rfl) rfl rfl hl.1 rfl (lv_room (Nat.le_of_ble_eq_true rfl)) dX12_opens_10 ⟨Nat.le_of_ble_eq_true rfl, Nat.le_of_ble_eq_true rfl⟩) (fun u1 H locs hp hW hS => ?_)
    obtain ⟨I20, J22, e9, hI20mt, fI20, hp⟩ := hp
    rw [e9] at hW
    have f21 := z_fr_sub (L := L_X12_opens) z_fr_0 fI20 (by decide)
    have k23 : 0 ≤ (I20 0 31).toInt ∧ (I20 0 31).toInt ≤ 500 := by rw [fI20 0 31 (by decide)]; exact (by show 0 ≤ (I 0 31).toInt ∧ (I 0 31).toInt ≤ 500; exact hmp.1)
    have k24 : 0 ≤ (I20 0 33).toInt ∧ (I20 0 33).toInt ≤ 500 := by rw [fI20 0 33 (by decide)]; exact (by show 0 ≤ (I 0 33).toInt ∧ (I 0 33).toInt ≤ 500; exact hmp.2.1)
    have k25 : 0 ≤ (I20 0 34).toInt ∧ (I20 0 34).toInt ≤ 500 := by rw [fI20 0 34 (by decide)]; exact (by show 0 ≤ (I 0 34).toInt ∧ (I 0 34).toInt ≤ 500; exact hmp.2.2.1)
    have k26 : 0 ≤ (I20 0 35).toInt ∧ (I20 0 35).toInt ≤ 500 := by rw [fI20 0 35 (by decide)]; exact (by show 0 ≤ (I 0 35).toInt ∧ (I 0 35).toInt ≤ 500; exact hmp.2.2.2)
    have k27 : 0 ≤ (I20 0 35).toInt ∧ (I20 0 35).toInt ≤ (I20 0 34).toInt ∧ (I20 0 34).toInt ≤ (I20 0 33).toInt ∧ (I20 0 33).toInt ≤ 500 ∧ ((I20 0 36).toInt = 0 ∨ (I20 0 35).toInt + 1 ≤ (I20 0 34).toInt) := (by have q0 : (I20 0 35) = (I 0 35) := (by rw [fI20 0 35 (by decide)]); have q1 : (I20 0 34) = (I 0 34) := (by rw [fI20 0 34 (by decide)]); have q2 : (I20 0 33) = (I 0 33) := (by rw [fI20 0 33 (by decide)]); have q3 : (I20 0 36) = (I 0 36) := (by rw [fI20 0 36 (by decide)]); show 0 ≤ (I20 0 35).toInt ∧ (I20 0 35).toInt ≤ (I20 0 34).toInt ∧ (I20 0 34).toInt ≤ (I20 0 33).toInt ∧ (I20 0 33).toInt ≤ 500 ∧ ((I20 0 36).toInt = 0 ∨ (I20 0 35).toInt + 1 ≤ (I20 0 34).toInt); rw [q0, q1, q2, q3]; first | omega | decide)
    have k28 : 0 ≤ (I20 0 47).toInt ∧ (I20 0 47).toInt ≤ 119 := by rw [fI20 0 47 (by decide)]; exact (by show 0 ≤ (I 0 47).toInt ∧ (I 0 47).toInt ≤ 119; exact hmd.1)
    have k29 : 0 ≤ (I20 0 39).toInt ∧ (I20 0 39).toInt ≤ 100 := by rw [fI20 0 39 (by decide)]; exact (by show 0 ≤ (I 0 39).toInt ∧ (I 0 39).toInt ≤ 100; exact hmd.2)
    have k30 : (I20 0 35).toInt = (I 0 35).toInt := by rw [fI20 0 35 (by decide)]
    have k31 : (I20 0 34).toInt = (I 0 34).toInt := by rw [fI20 0 34 (by decide)]
    have k32 : (I20 0 36).toInt = (I 0 36).toInt := by rw [fI20 0 36 (by decide)]
    have k33 : (I20 0 47).toInt = (I 0 47).toInt := by rw [fI20 0 47 (by decide)]
    have k34 : (I20 0 39).toInt = (I 0 39).toInt := by rw [fI20 0 39 (by decide)]
    have k35 : (I20 0 15).toInt = (I 0 15).toInt := by rw [fI20 0 15 (by decide)]
    have k36 : (I20 0 40).toInt = (I 0 40).toInt := by rw [fI20 0 40 (by decide)]
    have h37 := hp
    refine lv_aload_n hx hb dX12_opens_13 rfl (lv_at hl 0 rfl) ?_
    refine lv_dup hx hb dX12_opens_14 rfl ?_
    have r38 : 0 ≤ (I20 0 39).toInt ∧ (I20 0 39).toInt ≤ 100 := k29
    refine z_get (T := TX12) (N := 96) (ci := 12) (i := 0) (v := .int (I20 0 39)) hx hb hts zj_X12_opens_X12 hown hK hW rfl rfl 39 (by decide) (hts (.fieldLink RX12 346 "PetrolBoardModel" "open" "I") (me_s (me_l (me_l (List.mem_of_getElem? (i := 0) rfl))))) (fun _ h => h) rfl dX12_opens_15 ?_
    refine lv_iconst (v := 1) hx hb dX12_opens_18 (by decide) ?_
    refine lv_iadd hx hb dX12_opens_19 ?_
    refine lv_topi (fun x39 ex39 => ?_)
    have tx39 : x39.toInt = (I20 0 39).toInt + 1 := z_tadd ex39 rfl z_l1 (by omega) (by omega)
    refine z_put (T := TX12) (N := 96) (ci := 12) (i := 0) (v := .int x39) (I1 := z_up I20 0 39 x39) (J1 := J22) (P1 := PM ad) hx hb hts zj_X12_opens_X12 tyX12 tyX12_ok nmX12 hown hK hW hS rfl rfl 39 (by decide) (hts (.fieldLink RX12 346 "PetrolBoardModel" "open" "I") (me_s (me_l (me_l (List.mem_of_getElem? (i := 0) rfl))))) (fun _ h => h) rfl rfl rfl (by first | rfl | exact congrArg _ z_up_s) (fun a b h ty => z_vI h ty) dX12_opens_20 (fun H locs hz1 hW hS => ?_)
    obtain ⟨I40, eI40⟩ : ∃ K : z_I, K = z_up I20 0 39 x39 := ⟨_, rfl⟩
    rw [← eI40] at hW
    have f41 := z_fr_k f21 (show z_wr L_X12_opens 0 39 = true by decide) eI40
    refine lv_aload_n hx hb dX12_opens_23 rfl (lv_at hl 0 rfl) ?_
    refine z_cv hW hS hA (va_runV (As := []) (rest := []) ⟨hx, hb, hml, hown, hts⟩ (sx_X12_next l G ad I40 J22 ⟨(by show 0 ≤ (I40 0 31).toInt ∧ (I40 0 31).toInt ≤ 500; rw [eI40, z_up_k (by decide)]; exact k23), (by show 0 ≤ (I40 0 33).toInt ∧ (I40 0 33).toInt ≤ 500; rw [eI40, z_up_k (by decide)]; exact k24), (by show 0 ≤ (I40 0 34).toInt ∧ (I40 0 34).toInt ≤ 500; rw [eI40, z_up_k (by decide)]; exact k25), (by show 0 ≤ (I40 0 35).toInt ∧ (I40 0 35).toInt ≤ 500; rw [eI40, z_up_k (by decide)]; exact k26)⟩ ⟨(by show 0 ≤ (I40 0 36).toInt ∧ (I40 0 36).toInt ≤ 4; rw [eI40, z_up_k (by decide)]; exact hI20mt.1), (by show 0 ≤ (I40 0 42).toInt ∧ (I40 0 42).toInt ≤ 1; rw [eI40, z_up_k (by decide)]; exact hI20mt.2)⟩ (by have q0 : (I40 0 34) = (I20 0 34) := (by rw [eI40, z_up_k (by decide)]); have q1 : (I40 0 33) = (I20 0 33) := (by rw [eI40, z_up_k (by decide)]); show 0 ≤ (I40 0 34).toInt ∧ (I40 0 34).toInt ≤ (I40 0 33).toInt ∧ (I40 0 33).toInt ≤ 500; rw [q0, q1]; first | omega | decide)  _) (cwV 0 hts gX12_opens_X12_next rfl rfl rfl hy_X12_next ⟨Nat.le_of_ble_eq_true rfl, Nat.le_of_ble_eq_true rfl⟩) (z_preV (i := 0) hK hW rfl rfl) rfl rfl hl.1 rfl (lv_room (Nat.le_of_ble_eq_true rfl)) dX12_opens_24 ⟨Nat.le_of_ble_eq_true rfl, Nat.le_of_ble_eq_true rfl⟩) (fun u1 H locs hp hW hS => ?_)
    obtain ⟨I42, J44, e9, hI42mp, hI42mt, hI42rp, fI42, hp⟩ := hp
    rw [e9] at hW
    have f43 := z_fr_sub (L := L_X12_opens) f41 fI42 (by decide)
    have k45 : 0 ≤ (I42 0 35).toInt ∧ (I42 0 35).toInt ≤ (I42 0 34).toInt ∧ (I42 0 34).toInt ≤ (I42 0 33).toInt ∧ (I42 0 33).toInt ≤ 500 ∧ ((I42 0 36).toInt = 0 ∨ (I42 0 35).toInt + 1 ≤ (I42 0 34).toInt) := hI42rp
    have k46 : 0 ≤ (I42 0 47).toInt ∧ (I42 0 47).toInt ≤ 119 := by rw [fI42 0 47 (by decide)]; exact (by show 0 ≤ (I40 0 47).toInt ∧ (I40 0 47).toInt ≤ 119; rw [eI40, z_up_k (by decide)]; exact k28)
    have k47 : 0 ≤ (I42 0 39).toInt ∧ (I42 0 39).toInt ≤ 100 := by rw [fI42 0 39 (by decide)]; exact (by show 0 ≤ (I40 0 39).toInt ∧ (I40 0 39).toInt ≤ 100; rw [eI40, z_up_s]; omega)
    have k48 : (I42 0 42).toInt = (I20 0 42).toInt := by rw [fI42 0 42 (by decide), eI40, z_up_k (by decide)]
    have k49 : (I42 0 47).toInt = (I20 0 47).toInt := by rw [fI42 0 47 (by decide), eI40, z_up_k (by decide)]
    have k50 : (I42 0 39).toInt = x39.toInt := by rw [fI42 0 39 (by decide), eI40, z_up_s]
    have k51 : (I42 0 15).toInt = (I20 0 15).toInt := by rw [fI42 0 15 (by decide), eI40, z_up_k (by decide)]
    have k52 : (I42 0 40).toInt = (I20 0 40).toInt := by rw [fI42 0 40 (by decide), eI40, z_up_k (by decide)]
    have h53 := hp
    rw [show (I40 0 34) = (I20 0 34) from by rw [eI40, z_up_k (by decide)]] at h53
    exact z_vret hx hb hr hK hS (Nat.le_of_ble_eq_true rfl) (Nat.le_of_ble_eq_true rfl) hlocks dX12_opens_27 (shM, ad, I42, J44, PM ad) hW ⟨I42, J44, rfl, ⟨(by show 0 ≤ (I42 0 31).toInt ∧ (I42 0 31).toInt ≤ 500; exact hI42mp.1), (by show 0 ≤ (I42 0 33).toInt ∧ (I42 0 33).toInt ≤ 500; exact hI42mp.2.1), (by show 0 ≤ (I42 0 34).toInt ∧ (I42 0 34).toInt ≤ 500; exact hI42mp.2.2.1), (by show 0 ≤ (I42 0 35).toInt ∧ (I42 0 35).toInt ≤ 500; exact hI42mp.2.2.2)⟩, ⟨(by show 0 ≤ (I42 0 36).toInt ∧ (I42 0 36).toInt ≤ 4; exact hI42mt.1), (by show 0 ≤ (I42 0 42).toInt ∧ (I42 0 42).toInt ≤ 1; exact hI42mt.2)⟩, (by show 0 ≤ (I42 0 35).toInt ∧ (I42 0 35).toInt ≤ (I42 0 34).toInt ∧ (I42 0 34).toInt ≤ (I42 0 33).toInt ∧ (I42 0 33).toInt ≤ 500 ∧ ((I42 0 36).toInt = 0 ∨ (I42 0 35).toInt + 1 ≤ (I42 0 34).toInt); first | omega | decide), ⟨(by show 0 ≤ (I42 0 47).toInt ∧ (I42 0 47).toInt ≤ 119; exact k46), (by show 0 ≤ (I42 0 39).toInt ∧ (I42 0 39).toInt ≤ 100; exact k47)⟩, f43, ⟨(by show (I42 0 39).toInt = (I 0 39).toInt + 1; omega), (by show (I 0 34).toInt ≤ (I42 0 35).toInt; omega), (by show ¬ (I42 0 42).toInt = 0 ∨ (I 0 39).toInt ≤ 8; omega)⟩⟩
set_option maxHeartbeats 8000000 in
set_option maxRecDepth 100000 in
theorem sx_X12_ruleOf (l : Launch) (G : z_G) (ad : Nat → Nat) (I : z_I) (J : z_J) (a1 : Int64) : z_M l yX12_ruleOf wsX12_ruleOf { frames := 1, cells := 0, slots := 0, locals := 12 } [.ref (ad 0), .long a1] G (shM, ad, I, J, PM ad) (fun r u1 => u1 = (shM, ad, I, J, PM ad) ∧ (-1 ≤ r.toInt ∧ r.toInt ≤ 7)) 0 0 := by
  intro sz
  refine z_headQ (cc := cX12_ruleOf) (maxL := 3) (ret := (some .int)) (by decide) rfl (Nat.le_of_ble_eq_true rfl) ?_
  intro p e s m below meth c0 ls hIn hK hsz hW hl
  obtain ⟨hx, hb, hr, hml, hown, hts, hlocks, hname⟩ := hIn
  subst hsz
  have hown : s.vm.findClass RX12 = some m.cls := hown
  have hA : ∀ q : Nat, s.heap.size ≤ q → z_A (shM, ad, I, J, PM ad) s.heap.size q := fun q h => Or.inr h
  generalize hAe : z_A (shM, ad, I, J, PM ad) s.heap.size = A at *
  have hS : va_S A s.heap s.heap [] := va_S.rf
  have hl : lv_has ls 3 [(0, .ref (ad 0)), (1, .long a1)] := hl
  refine lv_lload_n hx hb dX12_ruleOf_0 rfl (lv_at hl 1 rfl) ?_
  refine lv_ldc2 (v := 11442943) hx hb hown (hts (.constantLong RX12 307 (11442943)) (me_s (List.mem_of_getElem? (i := 0) rfl))) dX12_ruleOf_1 ?_
  refine W.lcmp hx hb dX12_ruleOf_4 ?_
  refine lv_topi (fun x1 ex1 => ?_)
  have tx1 := z_tcmp ex1
  refine lv_if_ne (tgt := 10) hx hb dX12_ruleOf_5 (by decide) (fun c2 => ?_) (fun c2 => ?_)
  · have g3 := z_f_ne rfl z_l0 c2
    refine lv_lload_n hx hb dX12_ruleOf_10 rfl (lv_at hl 1 rfl) ?_
    refine lv_ldc2 (v := 407041) hx hb hown (hts (.constantLong RX12 309 (407041)) (me_s (List.mem_of_getElem? (i := 1) rfl))) dX12_ruleOf_11 ?_
    refine W.lcmp hx hb dX12_ruleOf_14 ?_
    refine lv_topi (fun x4 ex4 => ?_)
    have tx4 := z_tcmp ex4
    refine lv_if_ne (tgt := 20) hx hb dX12_ruleOf_15 (by decide) (fun c5 => ?_) (fun c5 => ?_)
    · have g6 := z_f_ne rfl z_l0 c5
      refine lv_lload_n hx hb dX12_ruleOf_20 rfl (lv_at hl 1 rfl) ?_
      refine lv_ldc2 (v := 388978) hx hb hown (hts (.constantLong RX12 311 (388978)) (me_s (List.mem_of_getElem? (i := 2) rfl))) dX12_ruleOf_21 ?_
      refine W.lcmp hx hb dX12_ruleOf_24 ?_
      refine lv_topi (fun x7 ex7 => ?_)
      have tx7 := z_tcmp ex7
      refine lv_if_ne (tgt := 30) hx hb dX12_ruleOf_25 (by decide) (fun c8 => ?_) (fun c8 => ?_)
      · have g9 := z_f_ne rfl z_l0 c8
        refine lv_lload_n hx hb dX12_ruleOf_30 rfl (lv_at hl 1 rfl) ?_
        refine lv_ldc2 (v := 12532058) hx hb hown (hts (.constantLong RX12 313 (12532058)) (me_s (List.mem_of_getElem? (i := 3) rfl))) dX12_ruleOf_31 ?_
        refine W.lcmp hx hb dX12_ruleOf_34 ?_
        refine lv_topi (fun x10 ex10 => ?_)
        have tx10 := z_tcmp ex10
        refine lv_if_ne (tgt := 40) hx hb dX12_ruleOf_35 (by decide) (fun c11 => ?_) (fun c11 => ?_)
        · have g12 := z_f_ne rfl z_l0 c11
          refine lv_lload_n hx hb dX12_ruleOf_40 rfl (lv_at hl 1 rfl) ?_
          refine lv_ldc2 (v := 6409157) hx hb hown (hts (.constantLong RX12 315 (6409157)) (me_s (List.mem_of_getElem? (i := 4) rfl))) dX12_ruleOf_41 ?_
          refine W.lcmp hx hb dX12_ruleOf_44 ?_
          refine lv_topi (fun x13 ex13 => ?_)
          have tx13 := z_tcmp ex13
          refine lv_if_ne (tgt := 50) hx hb dX12_ruleOf_45 (by decide) (fun c14 => ?_) (fun c14 => ?_)
          · have g15 := z_f_ne rfl z_l0 c14
            refine lv_lload_n hx hb dX12_ruleOf_50 rfl (lv_at hl 1 rfl) ?_
            refine lv_ldc2 (v := 240223) hx hb hown (hts (.constantLong RX12 317 (240223)) (me_s (List.mem_of_getElem? (i := 5) rfl))) dX12_ruleOf_51 ?_
            refine W.lcmp hx hb dX12_ruleOf_54 ?_
            refine lv_topi (fun x16 ex16 => ?_)
            have tx16 := z_tcmp ex16
            refine lv_if_ne (tgt := 60) hx hb dX12_ruleOf_55 (by decide) (fun c17 => ?_) (fun c17 => ?_)
            · have g18 := z_f_ne rfl z_l0 c17
              refine lv_lload_n hx hb dX12_ruleOf_60 rfl (lv_at hl 1 rfl) ?_
              refine lv_ldc2 (v := 12257222) hx hb hown (hts (.constantLong RX12 319 (12257222)) (me_s (List.mem_of_getElem? (i := 6) rfl))) dX12_ruleOf_61 ?_
              refine W.lcmp hx hb dX12_ruleOf_64 ?_
              refine lv_topi (fun x19 ex19 => ?_)
              have tx19 := z_tcmp ex19
              refine lv_if_ne (tgt := 71) hx hb dX12_ruleOf_65 (by decide) (fun c20 => ?_) (fun c20 => ?_)
              · have g21 := z_f_ne rfl z_l0 c20
                refine lv_lload_n hx hb dX12_ruleOf_71 rfl (lv_at hl 1 rfl) ?_
                refine lv_ldc2 (v := 2436392) hx hb hown (hts (.constantLong RX12 321 (2436392)) (me_s (List.mem_of_getElem? (i := 7) rfl))) dX12_ruleOf_72 ?_
                refine W.lcmp hx hb dX12_ruleOf_75 ?_
                refine lv_topi (fun x22 ex22 => ?_)
                have tx22 := z_tcmp ex22
                refine lv_if_ne (tgt := 82) hx hb dX12_ruleOf_76 (by decide) (fun c23 => ?_) (fun c23 => ?_)
                · have g24 := z_f_ne rfl z_l0 c23
                  refine lv_iconst (v := (-1)) hx hb dX12_ruleOf_82 (by decide) ?_
                  exact z_iret hx hb hr hK hS (Nat.le_of_ble_eq_true rfl) (Nat.le_of_ble_eq_true rfl) hlocks dX12_ruleOf_83 (shM, ad, I, J, PM ad) hW ⟨rfl, (by decide)⟩
                · have g25 := z_f_eq rfl z_l0 c23
                  refine lv_bipush (v := 7) hx hb dX12_ruleOf_79 (by decide) ?_
                  exact z_iret hx hb hr hK hS (Nat.le_of_ble_eq_true rfl) (Nat.le_of_ble_eq_true rfl) hlocks dX12_ruleOf_81 (shM, ad, I, J, PM ad) hW ⟨rfl, (by decide)⟩
              · have g26 := z_f_eq rfl z_l0 c20
                refine lv_bipush (v := 6) hx hb dX12_ruleOf_68 (by decide) ?_
                exact z_iret hx hb hr hK hS (Nat.le_of_ble_eq_true rfl) (Nat.le_of_ble_eq_true rfl) hlocks dX12_ruleOf_70 (shM, ad, I, J, PM ad) hW ⟨rfl, (by decide)⟩
            · have g27 := z_f_eq rfl z_l0 c17
              refine lv_iconst (v := 5) hx hb dX12_ruleOf_58 (by decide) ?_
              exact z_iret hx hb hr hK hS (Nat.le_of_ble_eq_true rfl) (Nat.le_of_ble_eq_true rfl) hlocks dX12_ruleOf_59 (shM, ad, I, J, PM ad) hW ⟨rfl, (by decide)⟩
          · have g28 := z_f_eq rfl z_l0 c14
            refine lv_iconst (v := 4) hx hb dX12_ruleOf_48 (by decide) ?_
            exact z_iret hx hb hr hK hS (Nat.le_of_ble_eq_true rfl) (Nat.le_of_ble_eq_true rfl) hlocks dX12_ruleOf_49 (shM, ad, I, J, PM ad) hW ⟨rfl, (by decide)⟩
        · have g29 := z_f_eq rfl z_l0 c11
          refine lv_iconst (v := 3) hx hb dX12_ruleOf_38 (by decide) ?_
          exact z_iret hx hb hr hK hS (Nat.le_of_ble_eq_true rfl) (Nat.le_of_ble_eq_true rfl) hlocks dX12_ruleOf_39 (shM, ad, I, J, PM ad) hW ⟨rfl, (by decide)⟩
      · have g30 := z_f_eq rfl z_l0 c8
        refine lv_iconst (v := 2) hx hb dX12_ruleOf_28 (by decide) ?_
        exact z_iret hx hb hr hK hS (Nat.le_of_ble_eq_true rfl) (Nat.le_of_ble_eq_true rfl) hlocks dX12_ruleOf_29 (shM, ad, I, J, PM ad) hW ⟨rfl, (by decide)⟩
    · have g31 := z_f_eq rfl z_l0 c5
      refine lv_iconst (v := 1) hx hb dX12_ruleOf_18 (by decide) ?_
      exact z_iret hx hb hr hK hS (Nat.le_of_ble_eq_true rfl) (Nat.le_of_ble_eq_true rfl) hlocks dX12_ruleOf_19 (shM, ad, I, J, PM ad) hW ⟨rfl, (by decide)⟩
  · have g32 := z_f_eq rfl z_l0 c2
    refine lv_iconst (v := 0) hx hb dX12_ruleOf_8 (by decide) ?_
    exact z_iret hx hb hr hK hS (Nat.le_of_ble_eq_true rfl) (Nat.le_of_ble_eq_true rfl) hlocks dX12_ruleOf_9 (shM, ad, I, J, PM ad) hW ⟨rfl, (by decide)⟩
set_option maxHeartbeats 8000000 in
set_option maxRecDepth 100000 in
theorem sx_X12_nameOf (l : Launch) (G : z_G) (ad : Nat → Nat) (I : z_I) (J : z_J) (a1 : Int64) : z_M l yX12_nameOf wsX12_nameOf { frames := 1, cells := 0, slots := 0, locals := 12 } [.ref (ad 0), .long a1] G (shM, ad, I, J, PM ad) (fun r u1 => u1 = (shM, ad, I, J, PM ad) ∧ (-1 ≤ r.toInt ∧ r.toInt ≤ 6)) 0 0 := by
  intro sz
  refine z_headQ (cc := cX12_nameOf) (maxL := 3) (ret := (some .int)) (by decide) rfl (Nat.le_of_ble_eq_true rfl) ?_
  intro p e s m below meth c0 ls hIn hK hsz hW hl
  obtain ⟨hx, hb, hr, hml, hown, hts, hlocks, hname⟩ := hIn
  subst hsz
  have hown : s.vm.findClass RX12 = some m.cls := hown
  have hA : ∀ q : Nat, s.heap.size ≤ q → z_A (shM, ad, I, J, PM ad) s.heap.size q := fun q h => Or.inr h
  generalize hAe : z_A (shM, ad, I, J, PM ad) s.heap.size = A at *
  have hS : va_S A s.heap s.heap [] := va_S.rf
  have hl : lv_has ls 3 [(0, .ref (ad 0)), (1, .long a1)] := hl
  refine lv_lload_n hx hb dX12_nameOf_0 rfl (lv_at hl 1 rfl) ?_
  refine lv_ldc2 (v := 1831780) hx hb hown (hts (.constantLong RX12 323 (1831780)) (me_s (List.mem_of_getElem? (i := 0) rfl))) dX12_nameOf_1 ?_
  refine W.lcmp hx hb dX12_nameOf_4 ?_
  refine lv_topi (fun x1 ex1 => ?_)
  have tx1 := z_tcmp ex1
  refine lv_if_ne (tgt := 10) hx hb dX12_nameOf_5 (by decide) (fun c2 => ?_) (fun c2 => ?_)
  · have g3 := z_f_ne rfl z_l0 c2
    refine lv_lload_n hx hb dX12_nameOf_10 rfl (lv_at hl 1 rfl) ?_
    refine lv_ldc2 (v := 381245) hx hb hown (hts (.constantLong RX12 325 (381245)) (me_s (List.mem_of_getElem? (i := 1) rfl))) dX12_nameOf_11 ?_
    refine W.lcmp hx hb dX12_nameOf_14 ?_
    refine lv_topi (fun x4 ex4 => ?_)
    have tx4 := z_tcmp ex4
    refine lv_if_ne (tgt := 20) hx hb dX12_nameOf_15 (by decide) (fun c5 => ?_) (fun c5 => ?_)
    · have g6 := z_f_ne rfl z_l0 c5
      refine lv_lload_n hx hb dX12_nameOf_20 rfl (lv_at hl 1 rfl) ?_
      refine lv_ldc2 (v := 405230) hx hb hown (hts (.constantLong RX12 327 (405230)) (me_s (List.mem_of_getElem? (i := 2) rfl))) dX12_nameOf_21 ?_
      refine W.lcmp hx hb dX12_nameOf_24 ?_
      refine lv_topi (fun x7 ex7 => ?_)
      have tx7 := z_tcmp ex7
      refine lv_if_ne (tgt := 30) hx hb dX12_nameOf_25 (by decide) (fun c8 => ?_) (fun c8 => ?_)
      · have g9 := z_f_ne rfl z_l0 c8
        refine lv_lload_n hx hb dX12_nameOf_30 rfl (lv_at hl 1 rfl) ?_
        refine lv_ldc2 (v := 7214732) hx hb hown (hts (.constantLong RX12 329 (7214732)) (me_s (List.mem_of_getElem? (i := 3) rfl))) dX12_nameOf_31 ?_
        refine W.lcmp hx hb dX12_nameOf_34 ?_
        refine lv_topi (fun x10 ex10 => ?_)
        have tx10 := z_tcmp ex10
        refine lv_if_ne (tgt := 40) hx hb dX12_nameOf_35 (by decide) (fun c11 => ?_) (fun c11 => ?_)
        · have g12 := z_f_ne rfl z_l0 c11
          refine lv_lload_n hx hb dX12_nameOf_40 rfl (lv_at hl 1 rfl) ?_
          refine lv_ldc2 (v := 7094782) hx hb hown (hts (.constantLong RX12 331 (7094782)) (me_s (List.mem_of_getElem? (i := 4) rfl))) dX12_nameOf_41 ?_
          refine W.lcmp hx hb dX12_nameOf_44 ?_
          refine lv_topi (fun x13 ex13 => ?_)
          have tx13 := z_tcmp ex13
          refine lv_if_ne (tgt := 50) hx hb dX12_nameOf_45 (by decide) (fun c14 => ?_) (fun c14 => ?_)
          · have g15 := z_f_ne rfl z_l0 c14
            refine lv_lload_n hx hb dX12_nameOf_50 rfl (lv_at hl 1 rfl) ?_
            refine lv_ldc2 (v := 232546955) hx hb hown (hts (.constantLong RX12 333 (232546955)) (me_s (List.mem_of_getElem? (i := 5) rfl))) dX12_nameOf_51 ?_
            refine W.lcmp hx hb dX12_nameOf_54 ?_
            refine lv_topi (fun x16 ex16 => ?_)
            have tx16 := z_tcmp ex16
            refine lv_if_ne (tgt := 60) hx hb dX12_nameOf_55 (by decide) (fun c17 => ?_) (fun c17 => ?_)
            · have g18 := z_f_ne rfl z_l0 c17
              refine lv_lload_n hx hb dX12_nameOf_60 rfl (lv_at hl 1 rfl) ?_
              refine lv_ldc2 (v := 260971484) hx hb hown (hts (.constantLong RX12 335 (260971484)) (me_s (List.mem_of_getElem? (i := 6) rfl))) dX12_nameOf_61 ?_
              refine W.lcmp hx hb dX12_nameOf_64 ?_
              refine lv_topi (fun x19 ex19 => ?_)
              have tx19 := z_tcmp ex19
              refine lv_if_ne (tgt := 71) hx hb dX12_nameOf_65 (by decide) (fun c20 => ?_) (fun c20 => ?_)
              · have g21 := z_f_ne rfl z_l0 c20
                refine lv_iconst (v := (-1)) hx hb dX12_nameOf_71 (by decide) ?_
                exact z_iret hx hb hr hK hS (Nat.le_of_ble_eq_true rfl) (Nat.le_of_ble_eq_true rfl) hlocks dX12_nameOf_72 (shM, ad, I, J, PM ad) hW ⟨rfl, (by decide)⟩
              · have g22 := z_f_eq rfl z_l0 c20
                refine lv_bipush (v := 6) hx hb dX12_nameOf_68 (by decide) ?_
                exact z_iret hx hb hr hK hS (Nat.le_of_ble_eq_true rfl) (Nat.le_of_ble_eq_true rfl) hlocks dX12_nameOf_70 (shM, ad, I, J, PM ad) hW ⟨rfl, (by decide)⟩
            · have g23 := z_f_eq rfl z_l0 c17
              refine lv_iconst (v := 5) hx hb dX12_nameOf_58 (by decide) ?_
              exact z_iret hx hb hr hK hS (Nat.le_of_ble_eq_true rfl) (Nat.le_of_ble_eq_true rfl) hlocks dX12_nameOf_59 (shM, ad, I, J, PM ad) hW ⟨rfl, (by decide)⟩
          · have g24 := z_f_eq rfl z_l0 c14
            refine lv_iconst (v := 4) hx hb dX12_nameOf_48 (by decide) ?_
            exact z_iret hx hb hr hK hS (Nat.le_of_ble_eq_true rfl) (Nat.le_of_ble_eq_true rfl) hlocks dX12_nameOf_49 (shM, ad, I, J, PM ad) hW ⟨rfl, (by decide)⟩
        · have g25 := z_f_eq rfl z_l0 c11
          refine lv_iconst (v := 3) hx hb dX12_nameOf_38 (by decide) ?_
          exact z_iret hx hb hr hK hS (Nat.le_of_ble_eq_true rfl) (Nat.le_of_ble_eq_true rfl) hlocks dX12_nameOf_39 (shM, ad, I, J, PM ad) hW ⟨rfl, (by decide)⟩
      · have g26 := z_f_eq rfl z_l0 c8
        refine lv_iconst (v := 2) hx hb dX12_nameOf_28 (by decide) ?_
        exact z_iret hx hb hr hK hS (Nat.le_of_ble_eq_true rfl) (Nat.le_of_ble_eq_true rfl) hlocks dX12_nameOf_29 (shM, ad, I, J, PM ad) hW ⟨rfl, (by decide)⟩
    · have g27 := z_f_eq rfl z_l0 c5
      refine lv_iconst (v := 1) hx hb dX12_nameOf_18 (by decide) ?_
      exact z_iret hx hb hr hK hS (Nat.le_of_ble_eq_true rfl) (Nat.le_of_ble_eq_true rfl) hlocks dX12_nameOf_19 (shM, ad, I, J, PM ad) hW ⟨rfl, (by decide)⟩
  · have g28 := z_f_eq rfl z_l0 c2
    refine lv_iconst (v := 0) hx hb dX12_nameOf_8 (by decide) ?_
    exact z_iret hx hb hr hK hS (Nat.le_of_ble_eq_true rfl) (Nat.le_of_ble_eq_true rfl) hlocks dX12_nameOf_9 (shM, ad, I, J, PM ad) hW ⟨rfl, (by decide)⟩
noncomputable def L_X12_node : z_L := [(21, 999), (22, 999), (23, 999), (0, 15)]
theorem zj_X12_node_X12 : ∀ w ∈ wsX120, w ∈ wsX12_node := fun w h => (List.mem_cons_of_mem _ (List.mem_append_right _ h))
set_option maxHeartbeats 8000000 in
set_option maxRecDepth 100000 in
theorem sx_X12_node (l : Launch) (G : z_G) (ad : Nat → Nat) (I : z_I) (J : z_J) (hmn : z_imn I) (hNd : z_Nd I) (a1 : Int32) (a2 : Int32) (a3 : Int32) (q1 : (I 0 15).toInt ≤ 6099) (q2 : a1.toInt ≤ 1 ∨ (0 ≤ a2.toInt ∧ a2.toInt ≤ 6199)) (q3 : ¬ a1.toInt = 1 ∨ (0 ≤ a2.toInt ∧ a2.toInt ≤ 6)) (q4 : a1.toInt ≤ 1 ∨ a1.toInt = 11 ∨ (0 ≤ a3.toInt ∧ a3.toInt ≤ 6199)) : z_M l yX12_node wsX12_node { frames := 1, cells := 0, slots := 0, locals := 12 } [.ref (ad 0), .int a1, .int a2, .int a3] G (shM, ad, I, J, PM ad) (fun r u1 => ∃ (I1 : z_I) (J1 : z_J), u1 = (shM, ad, I1, J1, PM ad) ∧ z_imn I1 ∧ z_Nd I1 ∧ z_fr L_X12_node I1 I ∧ r.toInt = (I 0 15).toInt ∧ (I1 0 15).toInt = (I 0 15).toInt + 1) 0 0 := by
  intro sz
  refine z_headQ (cc := cX12_node) (maxL := 4) (ret := (some .int)) (by decide) rfl (Nat.le_of_ble_eq_true rfl) ?_
  intro p e s m below meth c0 ls hIn hK hsz hW hl
  obtain ⟨hx, hb, hr, hml, hown, hts, hlocks, hname⟩ := hIn
  subst hsz
  have hown : s.vm.findClass RX12 = some m.cls := hown
  have hA : ∀ q : Nat, s.heap.size ≤ q → z_A (shM, ad, I, J, PM ad) s.heap.size q := fun q h => Or.inr h
  generalize hAe : z_A (shM, ad, I, J, PM ad) s.heap.size = A at *
  have hS : va_S A s.heap s.heap [] := va_S.rf
  have hl : lv_has ls 4 [(0, .ref (ad 0)), (1, .int a1), (2, .int a2), (3, .int a3)] := hl
  refine lv_aload_n hx hb dX12_node_0 rfl (lv_at hl 0 rfl) ?_
  refine z_get (T := TX12) (N := 96) (ci := 12) (i := 0) (v := .ref (ad 21)) hx hb hts zj_X12_node_X12 hown hK hW rfl rfl 26 (by decide) (hts (.fieldLink RX12 70 "PetrolBoardModel" "nodeKind" "[I") (me_s (me_l (List.mem_of_getElem? (i := 0) rfl)))) (fun _ h => h) rfl dX12_node_1 ?_
  refine lv_aload_n hx hb dX12_node_4 rfl (lv_at hl 0 rfl) ?_
  have r1 : 0 ≤ (I 0 15).toInt ∧ (I 0 15).toInt ≤ 6100 := hmn
  refine z_get (T := TX12) (N := 96) (ci := 12) (i := 0) (v := .int (I 0 15)) hx hb hts zj_X12_node_X12 hown hK hW rfl rfl 15 (by decide) (hts (.fieldLink RX12 337 "PetrolBoardModel" "nodes" "I") (me_s (me_l (List.mem_of_getElem? (i := 1) rfl)))) (fun _ h => h) rfl dX12_node_5 ?_
  refine lv_iload_n hx hb dX12_node_8 rfl (lv_at hl 1 rfl) ?_
  refine z_iast (i := 21) hx hb hK hW hS rfl (z_ix rfl (by omega) (by omega)) dX12_node_9 (fun H locs hz1 hW hS => ?_)
  obtain ⟨I2, eI2⟩ : ∃ K : z_I, K = z_up I 21 (I 0 15).toNatClampNeg a1 := ⟨_, rfl⟩
  rw [← eI2] at hW
  have f3 := z_fr_a z_fr_0 (show z_wa L_X12_node 21 = true by decide) eI2
  refine lv_aload_n hx hb dX12_node_10 rfl (lv_at hl 0 rfl) ?_
  refine z_get (T := TX12) (N := 96) (ci := 12) (i := 0) (v := .ref (ad 22)) hx hb hts zj_X12_node_X12 hown hK hW rfl rfl 27 (by decide) (hts (.fieldLink RX12 73 "PetrolBoardModel" "nodeA" "[I") (me_s (me_l (List.mem_of_getElem? (i := 2) rfl)))) (fun _ h => h) rfl dX12_node_11 ?_
  refine lv_aload_n hx hb dX12_node_14 rfl (lv_at hl 0 rfl) ?_
  refine z_get (T := TX12) (N := 96) (ci := 12) (i := 0) (v := .int (I 0 15)) hx hb hts zj_X12_node_X12 hown hK hW rfl rfl 15 (by decide) (hts (.fieldLink RX12 337 "PetrolBoardModel" "nodes" "I") (me_s (me_l (List.mem_of_getElem? (i := 1) rfl)))) (fun _ h => h) (congrArg Value.int (by rw [eI2, z_up_n (by decide)])) dX12_node_15 ?_
  refine lv_iload_n hx hb dX12_node_18 rfl (lv_at hl 2 rfl) ?_
  refine z_iast (i := 22) hx hb hK hW hS rfl (z_ix rfl (by omega) (by omega)) dX12_node_19 (fun H locs hz1 hW hS => ?_)
  obtain ⟨I5, eI5⟩ : ∃ K : z_I, K = z_up I2 22 (I 0 15).toNatClampNeg a2 := ⟨_, rfl⟩
  rw [← eI5] at hW
  have f6 := z_fr_a f3 (show z_wa L_X12_node 22 = true by decide) eI5
  refine lv_aload_n hx hb dX12_node_20 rfl (lv_at hl 0 rfl) ?_
  refine z_get (T := TX12) (N := 96) (ci := 12) (i := 0) (v := .ref (ad 23)) hx hb hts zj_X12_node_X12 hown hK hW rfl rfl 28 (by decide) (hts (.fieldLink RX12 76 "PetrolBoardModel" "nodeB" "[I") (me_s (me_l (List.mem_of_getElem? (i := 3) rfl)))) (fun _ h => h) rfl dX12_node_21 ?_
  refine lv_aload_n hx hb dX12_node_24 rfl (lv_at hl 0 rfl) ?_
  refine z_get (T := TX12) (N := 96) (ci := 12) (i := 0) (v := .int (I 0 15)) hx hb hts zj_X12_node_X12 hown hK hW rfl rfl 15 (by decide) (hts (.fieldLink RX12 337 "PetrolBoardModel" "nodes" "I") (me_s (me_l (List.mem_of_getElem? (i := 1) rfl)))) (fun _ h => h) (congrArg Value.int (by rw [eI5, z_up_n (by decide), eI2, z_up_n (by decide)])) dX12_node_25 ?_
  refine lv_iload_n hx hb dX12_node_28 rfl (lv_at hl 3 rfl) ?_
  refine z_iast (i := 23) hx hb hK hW hS rfl (z_ix rfl (by omega) (by omega)) dX12_node_29 (fun H locs hz1 hW hS => ?_)
  obtain ⟨I7, eI7⟩ : ∃ K : z_I, K = z_up I5 23 (I 0 15).toNatClampNeg a3 := ⟨_, rfl⟩
  rw [← eI7] at hW
  have f8 := z_fr_a f6 (show z_wa L_X12_node 23 = true by decide) eI7
  refine lv_aload_n hx hb dX12_node_30 rfl (lv_at hl 0 rfl) ?_
  refine lv_dup hx hb dX12_node_31 rfl ?_
  refine z_get (T := TX12) (N := 96) (ci := 12) (i := 0) (v := .int (I 0 15)) hx hb hts zj_X12_node_X12 hown hK hW rfl rfl 15 (by decide) (hts (.fieldLink RX12 337 "PetrolBoardModel" "nodes" "I") (me_s (me_l (List.mem_of_getElem? (i := 1) rfl)))) (fun _ h => h) (congrArg Value.int (by rw [eI7, z_up_n (by decide), eI5, z_up_n (by decide), eI2, z_up_n (by decide)])) dX12_node_32 ?_
  refine lv_iconst (v := 1) hx hb dX12_node_35 (by decide) ?_
  refine lv_iadd hx hb dX12_node_36 ?_
  refine lv_topi (fun x9 ex9 => ?_)
  have tx9 : x9.toInt = (I 0 15).toInt + 1 := z_tadd ex9 rfl z_l1 (by omega) (by omega)
  refine z_put (T := TX12) (N := 96) (ci := 12) (i := 0) (v := .int x9) (I1 := z_up I7 0 15 x9) (J1 := J) (P1 := PM ad) hx hb hts zj_X12_node_X12 tyX12 tyX12_ok nmX12 hown hK hW hS rfl rfl 15 (by decide) (hts (.fieldLink RX12 337 "PetrolBoardModel" "nodes" "I") (me_s (me_l (List.mem_of_getElem? (i := 1) rfl)))) (fun _ h => h) rfl rfl rfl (by first | rfl | exact congrArg _ z_up_s) (fun a b h ty => z_vI h ty) dX12_node_37 (fun H locs hz1 hW hS => ?_)
  obtain ⟨I10, eI10⟩ : ∃ K : z_I, K = z_up I7 0 15 x9 := ⟨_, rfl⟩
  rw [← eI10] at hW
  have f11 := z_fr_k f8 (show z_wr L_X12_node 0 15 = true by decide) eI10
  refine lv_aload_n hx hb dX12_node_40 rfl (lv_at hl 0 rfl) ?_
  refine z_get (T := TX12) (N := 96) (ci := 12) (i := 0) (v := .int x9) hx hb hts zj_X12_node_X12 hown hK hW rfl rfl 15 (by decide) (hts (.fieldLink RX12 337 "PetrolBoardModel" "nodes" "I") (me_s (me_l (List.mem_of_getElem? (i := 1) rfl)))) (fun _ h => h) (congrArg Value.int (by rw [eI10, z_up_s])) dX12_node_41 ?_
  refine lv_iconst (v := 1) hx hb dX12_node_44 (by decide) ?_
  refine lv_isub hx hb dX12_node_45 ?_
  refine lv_topi (fun x12 ex12 => ?_)
  have tx12 : x12.toInt = x9.toInt - 1 := z_tsub ex12 rfl z_l1 (by omega) (by omega)
  exact z_iret hx hb hr hK hS (Nat.le_of_ble_eq_true rfl) (Nat.le_of_ble_eq_true rfl) hlocks dX12_node_46 (shM, ad, I10, J, PM ad) hW ⟨I10, J, rfl, (by show 0 ≤ (I10 0 15).toInt ∧ (I10 0 15).toInt ≤ 6100; rw [eI10, z_up_s]; omega), (z_Nd_n (z_Nd_w hNd eI2 eI5 eI7 q2 q3 q4) (by decide) eI10), f11, ⟨by omega, (by have q0 : (I10 0 15) = x9 := (by rw [eI10, z_up_s]); show (I10 0 15).toInt = (I 0 15).toInt + 1; rw [q0]; omega)⟩⟩
noncomputable def L_X12_begin : z_L := [(26, 999), (27, 999), (28, 999), (29, 999), (0, 47)]
theorem zj_X12_begin_X12 : ∀ w ∈ wsX120, w ∈ wsX12_begin := fun w h => (List.mem_cons_of_mem _ (List.mem_append_right _ h))
set_option maxHeartbeats 8000000 in
set_option maxRecDepth 100000 in
theorem sx_X12_begin (l : Launch) (G : z_G) (ad : Nat → Nat) (I : z_I) (J : z_J) (hmd : z_imd I) (a1 : Int32) (q1 : (I 0 47).toInt ≤ 118) : z_Mv l yX12_begin wsX12_begin { frames := 1, cells := 0, slots := 0, locals := 12 } [.ref (ad 0), .int a1] G (shM, ad, I, J, PM ad) (fun u1 => ∃ (I1 : z_I) (J1 : z_J), u1 = (shM, ad, I1, J1, PM ad) ∧ z_imd I1 ∧ z_fr L_X12_begin I1 I ∧ z_BG I I1 a1) 0 0 := by
  intro sz
  refine z_headQ (cc := cX12_begin) (maxL := 2) (ret := none) (by decide) rfl (Nat.le_of_ble_eq_true rfl) ?_
  intro p e s m below meth c0 ls hIn hK hsz hW hl
  obtain ⟨hx, hb, hr, hml, hown, hts, hlocks, hname⟩ := hIn
  subst hsz
  have hown : s.vm.findClass RX12 = some m.cls := hown
  have hA : ∀ q : Nat, s.heap.size ≤ q → z_A (shM, ad, I, J, PM ad) s.heap.size q := fun q h => Or.inr h
  generalize hAe : z_A (shM, ad, I, J, PM ad) s.heap.size = A at *
  have hS : va_S A s.heap s.heap [] := va_S.rf
  have hl : lv_has ls 2 [(0, .ref (ad 0)), (1, .int a1)] := hl
  refine lv_aload_n hx hb dX12_begin_0 rfl (lv_at hl 0 rfl) ?_
  refine z_get (T := TX12) (N := 96) (ci := 12) (i := 0) (v := .ref (ad 26)) hx hb hts zj_X12_begin_X12 hown hK hW rfl rfl 43 (by decide) (hts (.fieldLink RX12 91 "PetrolBoardModel" "what" "[I") (me_s (me_l (List.mem_of_getElem? (i := 0) rfl)))) (fun _ h => h) rfl dX12_begin_1 ?_
  refine lv_aload_n hx hb dX12_begin_4 rfl (lv_at hl 0 rfl) ?_
  have r1 : 0 ≤ (I 0 47).toInt ∧ (I 0 47).toInt ≤ 119 := hmd.1
  refine z_get (T := TX12) (N := 96) (ci := 12) (i := 0) (v := .int (I 0 47)) hx hb hts zj_X12_begin_X12 hown hK hW rfl rfl 47 (by decide) (hts (.fieldLink RX12 340 "PetrolBoardModel" "deep" "I") (me_s (me_l (List.mem_of_getElem? (i := 1) rfl)))) (fun _ h => h) rfl dX12_begin_5 ?_
  refine lv_iload_n hx hb dX12_begin_8 rfl (lv_at hl 1 rfl) ?_
  refine z_iast (i := 26) hx hb hK hW hS rfl (z_ix rfl (by omega) (by omega)) dX12_begin_9 (fun H locs hz1 hW hS => ?_)
  obtain ⟨I2, eI2⟩ : ∃ K : z_I, K = z_up I 26 (I 0 47).toNatClampNeg a1 := ⟨_, rfl⟩
  rw [← eI2] at hW
  have f3 := z_fr_a z_fr_0 (show z_wa L_X12_begin 26 = true by decide) eI2
  refine lv_aload_n hx hb dX12_begin_10 rfl (lv_at hl 0 rfl) ?_
  refine z_get (T := TX12) (N := 96) (ci := 12) (i := 0) (v := .ref (ad 27)) hx hb hts zj_X12_begin_X12 hown hK hW rfl rfl 44 (by decide) (hts (.fieldLink RX12 94 "PetrolBoardModel" "at" "[I") (me_s (me_l (List.mem_of_getElem? (i := 2) rfl)))) (fun _ h => h) rfl dX12_begin_11 ?_
  refine lv_aload_n hx hb dX12_begin_14 rfl (lv_at hl 0 rfl) ?_
  refine z_get (T := TX12) (N := 96) (ci := 12) (i := 0) (v := .int (I 0 47)) hx hb hts zj_X12_begin_X12 hown hK hW rfl rfl 47 (by decide) (hts (.fieldLink RX12 340 "PetrolBoardModel" "deep" "I") (me_s (me_l (List.mem_of_getElem? (i := 1) rfl)))) (fun _ h => h) (congrArg Value.int (by rw [eI2, z_up_n (by decide)])) dX12_begin_15 ?_
  refine lv_iconst (v := 0) hx hb dX12_begin_18 (by decide) ?_
  refine z_iast (i := 27) hx hb hK hW hS rfl (z_ix rfl (by omega) (by omega)) dX12_begin_19 (fun H locs hz1 hW hS => ?_)
  obtain ⟨I4, eI4⟩ : ∃ K : z_I, K = z_up I2 27 (I 0 47).toNatClampNeg 0 := ⟨_, rfl⟩
  rw [← eI4] at hW
  have f5 := z_fr_a f3 (show z_wa L_X12_begin 27 = true by decide) eI4
  refine lv_aload_n hx hb dX12_begin_20 rfl (lv_at hl 0 rfl) ?_
  refine z_get (T := TX12) (N := 96) (ci := 12) (i := 0) (v := .ref (ad 28)) hx hb hts zj_X12_begin_X12 hown hK hW rfl rfl 45 (by decide) (hts (.fieldLink RX12 97 "PetrolBoardModel" "one" "[I") (me_s (me_l (List.mem_of_getElem? (i := 3) rfl)))) (fun _ h => h) rfl dX12_begin_21 ?_
  refine lv_aload_n hx hb dX12_begin_24 rfl (lv_at hl 0 rfl) ?_
  refine z_get (T := TX12) (N := 96) (ci := 12) (i := 0) (v := .int (I 0 47)) hx hb hts zj_X12_begin_X12 hown hK hW rfl rfl 47 (by decide) (hts (.fieldLink RX12 340 "PetrolBoardModel" "deep" "I") (me_s (me_l (List.mem_of_getElem? (i := 1) rfl)))) (fun _ h => h) (congrArg Value.int (by rw [eI4, z_up_n (by decide), eI2, z_up_n (by decide)])) dX12_begin_25 ?_
  refine lv_iconst (v := (-1)) hx hb dX12_begin_28 (by decide) ?_
  refine z_iast (i := 28) hx hb hK hW hS rfl (z_ix rfl (by omega) (by omega)) dX12_begin_29 (fun H locs hz1 hW hS => ?_)
  obtain ⟨I6, eI6⟩ : ∃ K : z_I, K = z_up I4 28 (I 0 47).toNatClampNeg (-1) := ⟨_, rfl⟩
  rw [← eI6] at hW
  have f7 := z_fr_a f5 (show z_wa L_X12_begin 28 = true by decide) eI6
  refine lv_aload_n hx hb dX12_begin_30 rfl (lv_at hl 0 rfl) ?_
  refine z_get (T := TX12) (N := 96) (ci := 12) (i := 0) (v := .ref (ad 29)) hx hb hts zj_X12_begin_X12 hown hK hW rfl rfl 46 (by decide) (hts (.fieldLink RX12 100 "PetrolBoardModel" "sort" "[I") (me_s (me_l (List.mem_of_getElem? (i := 4) rfl)))) (fun _ h => h) rfl dX12_begin_31 ?_
  refine lv_aload_n hx hb dX12_begin_34 rfl (lv_at hl 0 rfl) ?_
  refine z_get (T := TX12) (N := 96) (ci := 12) (i := 0) (v := .int (I 0 47)) hx hb hts zj_X12_begin_X12 hown hK hW rfl rfl 47 (by decide) (hts (.fieldLink RX12 340 "PetrolBoardModel" "deep" "I") (me_s (me_l (List.mem_of_getElem? (i := 1) rfl)))) (fun _ h => h) (congrArg Value.int (by rw [eI6, z_up_n (by decide), eI4, z_up_n (by decide), eI2, z_up_n (by decide)])) dX12_begin_35 ?_
  refine lv_iconst (v := 0) hx hb dX12_begin_38 (by decide) ?_
  refine z_iast (i := 29) hx hb hK hW hS rfl (z_ix rfl (by omega) (by omega)) dX12_begin_39 (fun H locs hz1 hW hS => ?_)
  obtain ⟨I8, eI8⟩ : ∃ K : z_I, K = z_up I6 29 (I 0 47).toNatClampNeg 0 := ⟨_, rfl⟩
  rw [← eI8] at hW
  have f9 := z_fr_a f7 (show z_wa L_X12_begin 29 = true by decide) eI8
  refine lv_aload_n hx hb dX12_begin_40 rfl (lv_at hl 0 rfl) ?_
  refine lv_dup hx hb dX12_begin_41 rfl ?_
  refine z_get (T := TX12) (N := 96) (ci := 12) (i := 0) (v := .int (I 0 47)) hx hb hts zj_X12_begin_X12 hown hK hW rfl rfl 47 (by decide) (hts (.fieldLink RX12 340 "PetrolBoardModel" "deep" "I") (me_s (me_l (List.mem_of_getElem? (i := 1) rfl)))) (fun _ h => h) (congrArg Value.int (by rw [eI8, z_up_n (by decide), eI6, z_up_n (by decide), eI4, z_up_n (by decide), eI2, z_up_n (by decide)])) dX12_begin_42 ?_
  refine lv_iconst (v := 1) hx hb dX12_begin_45 (by decide) ?_
  refine lv_iadd hx hb dX12_begin_46 ?_
  refine lv_topi (fun x10 ex10 => ?_)
  have tx10 : x10.toInt = (I 0 47).toInt + 1 := z_tadd ex10 rfl z_l1 (by omega) (by omega)
  refine z_put (T := TX12) (N := 96) (ci := 12) (i := 0) (v := .int x10) (I1 := z_up I8 0 47 x10) (J1 := J) (P1 := PM ad) hx hb hts zj_X12_begin_X12 tyX12 tyX12_ok nmX12 hown hK hW hS rfl rfl 47 (by decide) (hts (.fieldLink RX12 340 "PetrolBoardModel" "deep" "I") (me_s (me_l (List.mem_of_getElem? (i := 1) rfl)))) (fun _ h => h) rfl rfl rfl (by first | rfl | exact congrArg _ z_up_s) (fun a b h ty => z_vI h ty) dX12_begin_47 (fun H locs hz1 hW hS => ?_)
  obtain ⟨I11, eI11⟩ : ∃ K : z_I, K = z_up I8 0 47 x10 := ⟨_, rfl⟩
  rw [← eI11] at hW
  have f12 := z_fr_k f9 (show z_wr L_X12_begin 0 47 = true by decide) eI11
  exact z_vret hx hb hr hK hS (Nat.le_of_ble_eq_true rfl) (Nat.le_of_ble_eq_true rfl) hlocks dX12_begin_50 (shM, ad, I11, J, PM ad) hW ⟨I11, J, rfl, ⟨(by show 0 ≤ (I11 0 47).toInt ∧ (I11 0 47).toInt ≤ 119; rw [eI11, z_up_s]; omega), (by show 0 ≤ (I11 0 39).toInt ∧ (I11 0 39).toInt ≤ 100; rw [eI11, z_up_k (by decide), eI8, z_up_n (by decide), eI6, z_up_n (by decide), eI4, z_up_n (by decide), eI2, z_up_n (by decide)]; exact hmd.2)⟩, f12, ⟨fun i hi => ⟨by rw [eI11, z_up_n (by decide), eI8, z_up_n (by decide), eI6, z_up_n (by decide), eI4, z_up_n (by decide), eI2, z_up_k hi], by rw [eI11, z_up_n (by decide), eI8, z_up_n (by decide), eI6, z_up_n (by decide), eI4, z_up_k hi, eI2, z_up_n (by decide)], by rw [eI11, z_up_n (by decide), eI8, z_up_n (by decide), eI6, z_up_k hi, eI4, z_up_n (by decide), eI2, z_up_n (by decide)], by rw [eI11, z_up_n (by decide), eI8, z_up_k hi, eI6, z_up_n (by decide), eI4, z_up_n (by decide), eI2, z_up_n (by decide)]⟩, (by rw [eI11, z_up_n (by decide), eI8, z_up_n (by decide), eI6, z_up_n (by decide), eI4, z_up_n (by decide), eI2, z_up_s]), (by rw [eI11, z_up_n (by decide), eI8, z_up_n (by decide), eI6, z_up_n (by decide), eI4, z_up_s]; decide), (by rw [eI11, z_up_n (by decide), eI8, z_up_n (by decide), eI6, z_up_s]; decide), (by rw [eI11, z_up_n (by decide), eI8, z_up_s]; decide), (by have q0 : (I11 0 47) = x10 := (by rw [eI11, z_up_s]); show (I11 0 47).toInt = (I 0 47).toInt + 1; rw [q0]; omega)⟩⟩
noncomputable def L_X12_ends : z_L := [(0, 40), (0, 47)]
theorem zj_X12_ends_X12 : ∀ w ∈ wsX120, w ∈ wsX12_ends := fun w h => (List.mem_cons_of_mem _ (List.mem_append_right _ h))
set_option maxHeartbeats 8000000 in
set_option maxRecDepth 100000 in
theorem sx_X12_ends (l : Launch) (G : z_G) (ad : Nat → Nat) (I : z_I) (J : z_J) (hmd : z_imd I) (hmg : z_img I) (a1 : Int32) (q1 : 0 ≤ a1.toInt ∧ a1.toInt ≤ 6199) (q2 : 1 ≤ (I 0 47).toInt) : z_Mv l yX12_ends wsX12_ends { frames := 1, cells := 0, slots := 0, locals := 12 } [.ref (ad 0), .int a1] G (shM, ad, I, J, PM ad) (fun u1 => ∃ (I1 : z_I) (J1 : z_J), u1 = (shM, ad, I1, J1, PM ad) ∧ z_imd I1 ∧ z_img I1 ∧ z_fr L_X12_ends I1 I ∧ (I1 0 47).toInt = (I 0 47).toInt - 1) 0 0 := by
  intro sz
  refine z_headQ (cc := cX12_ends) (maxL := 2) (ret := none) (by decide) rfl (Nat.le_of_ble_eq_true rfl) ?_
  intro p e s m below meth c0 ls hIn hK hsz hW hl
  obtain ⟨hx, hb, hr, hml, hown, hts, hlocks, hname⟩ := hIn
  subst hsz
  have hown : s.vm.findClass RX12 = some m.cls := hown
  have hA : ∀ q : Nat, s.heap.size ≤ q → z_A (shM, ad, I, J, PM ad) s.heap.size q := fun q h => Or.inr h
  generalize hAe : z_A (shM, ad, I, J, PM ad) s.heap.size = A at *
  have hS : va_S A s.heap s.heap [] := va_S.rf
  have hl : lv_has ls 2 [(0, .ref (ad 0)), (1, .int a1)] := hl
  refine lv_aload_n hx hb dX12_ends_0 rfl (lv_at hl 0 rfl) ?_
  refine lv_iload_n hx hb dX12_ends_1 rfl (lv_at hl 1 rfl) ?_
  refine z_put (T := TX12) (N := 96) (ci := 12) (i := 0) (v := .int a1) (I1 := z_up I 0 40 a1) (J1 := J) (P1 := PM ad) hx hb hts zj_X12_ends_X12 tyX12 tyX12_ok nmX12 hown hK hW hS rfl rfl 40 (by decide) (hts (.fieldLink RX12 343 "PetrolBoardModel" "got" "I") (me_s (me_l (List.mem_of_getElem? (i := 0) rfl)))) (fun _ h => h) rfl rfl rfl (by first | rfl | exact congrArg _ z_up_s) (fun a b h ty => z_vI h ty) dX12_ends_2 (fun H locs hz1 hW hS => ?_)
  obtain ⟨I1, eI1⟩ : ∃ K : z_I, K = z_up I 0 40 a1 := ⟨_, rfl⟩
  rw [← eI1] at hW
  have f2 := z_fr_k z_fr_0 (show z_wr L_X12_ends 0 40 = true by decide) eI1
  refine lv_aload_n hx hb dX12_ends_5 rfl (lv_at hl 0 rfl) ?_
  refine lv_dup hx hb dX12_ends_6 rfl ?_
  have r3 : 0 ≤ (I 0 47).toInt ∧ (I 0 47).toInt ≤ 119 := hmd.1
  refine z_get (T := TX12) (N := 96) (ci := 12) (i := 0) (v := .int (I 0 47)) hx hb hts zj_X12_ends_X12 hown hK hW rfl rfl 47 (by decide) (hts (.fieldLink RX12 340 "PetrolBoardModel" "deep" "I") (me_s (me_l (List.mem_of_getElem? (i := 1) rfl)))) (fun _ h => h) (congrArg Value.int (by rw [eI1, z_up_k (by decide)])) dX12_ends_7 ?_
  refine lv_iconst (v := 1) hx hb dX12_ends_10 (by decide) ?_
  refine lv_isub hx hb dX12_ends_11 ?_
  refine lv_topi (fun x4 ex4 => ?_)
  have tx4 : x4.toInt = (I 0 47).toInt - 1 := z_tsub ex4 rfl z_l1 (by omega) (by omega)
  refine z_put (T := TX12) (N := 96) (ci := 12) (i := 0) (v := .int x4) (I1 := z_up I1 0 47 x4) (J1 := J) (P1 := PM ad) hx hb hts zj_X12_ends_X12 tyX12 tyX12_ok nmX12 hown hK hW hS rfl rfl 47 (by decide) (hts (.fieldLink RX12 340 "PetrolBoardModel" "deep" "I") (me_s (me_l (List.mem_of_getElem? (i := 1) rfl)))) (fun _ h => h) rfl rfl rfl (by first | rfl | exact congrArg _ z_up_s) (fun a b h ty => z_vI h ty) dX12_ends_12 (fun H locs hz1 hW hS => ?_)
  obtain ⟨I5, eI5⟩ : ∃ K : z_I, K = z_up I1 0 47 x4 := ⟨_, rfl⟩
  rw [← eI5] at hW
  have f6 := z_fr_k f2 (show z_wr L_X12_ends 0 47 = true by decide) eI5
  exact z_vret hx hb hr hK hS (Nat.le_of_ble_eq_true rfl) (Nat.le_of_ble_eq_true rfl) hlocks dX12_ends_15 (shM, ad, I5, J, PM ad) hW ⟨I5, J, rfl, ⟨(by show 0 ≤ (I5 0 47).toInt ∧ (I5 0 47).toInt ≤ 119; rw [eI5, z_up_s]; omega), (by show 0 ≤ (I5 0 39).toInt ∧ (I5 0 39).toInt ≤ 100; rw [eI5, z_up_k (by decide), eI1, z_up_k (by decide)]; exact hmd.2)⟩, (by show 0 ≤ (I5 0 40).toInt ∧ (I5 0 40).toInt ≤ 6199; rw [eI5, z_up_k (by decide), eI1, z_up_s]; omega), f6, (by have q0 : (I5 0 47) = x4 := (by rw [eI5, z_up_s]); show (I5 0 47).toInt = (I 0 47).toInt - 1; rw [q0]; omega)⟩
