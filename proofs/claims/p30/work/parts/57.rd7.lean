theorem dX9_isBlank_0 : decode cX9_isBlank 0 = .ok (.iload_n 0, 1) := z_dd_26 (by decide +kernel)
theorem dX9_isBlank_1 : decode cX9_isBlank 1 = .ok (.bipush 32, 2) := z_dd_16 (by decide +kernel)
theorem dX9_isBlank_3 : decode cX9_isBlank 3 = .ok (.if_icmp .eq 9, 3) := z_dd_159 (by decide +kernel)
theorem dX9_isBlank_12 : decode cX9_isBlank 12 = .ok (.iconst 1, 1) := z_dd_4 (by decide +kernel)
theorem dX9_isBlank_13 : decode cX9_isBlank 13 = .ok (.goto 4, 3) := z_dd_167 (by decide +kernel)
theorem dX9_isBlank_17 : decode cX9_isBlank 17 = .ok (.ireturn, 1) := z_dd_172 (by decide +kernel)
theorem dX9_isBlank_6 : decode cX9_isBlank 6 = .ok (.iload_n 0, 1) := z_dd_26 (by decide +kernel)
theorem dX9_isBlank_7 : decode cX9_isBlank 7 = .ok (.bipush 10, 2) := z_dd_16 (by decide +kernel)
theorem dX9_isBlank_9 : decode cX9_isBlank 9 = .ok (.if_icmp .ne 7, 3) := z_dd_160 (by decide +kernel)
theorem dX9_isBlank_16 : decode cX9_isBlank 16 = .ok (.iconst 0, 1) := z_dd_3 (by decide +kernel)
theorem dX9_isLetter_0 : decode cX9_isLetter 0 = .ok (.iload_n 0, 1) := z_dd_26 (by decide +kernel)
theorem dX9_isLetter_1 : decode cX9_isLetter 1 = .ok (.bipush 97, 2) := z_dd_16 (by decide +kernel)
theorem dX9_isLetter_3 : decode cX9_isLetter 3 = .ok (.if_icmp .lt 13, 3) := z_dd_161 (by decide +kernel)
theorem dX9_isLetter_16 : decode cX9_isLetter 16 = .ok (.iconst 0, 1) := z_dd_3 (by decide +kernel)
theorem dX9_isLetter_17 : decode cX9_isLetter 17 = .ok (.ireturn, 1) := z_dd_172 (by decide +kernel)
theorem dX9_isLetter_6 : decode cX9_isLetter 6 = .ok (.iload_n 0, 1) := z_dd_26 (by decide +kernel)
theorem dX9_isLetter_7 : decode cX9_isLetter 7 = .ok (.bipush 122, 2) := z_dd_16 (by decide +kernel)
theorem dX9_isLetter_9 : decode cX9_isLetter 9 = .ok (.if_icmp .gt 7, 3) := z_dd_163 (by decide +kernel)
theorem dX9_isLetter_12 : decode cX9_isLetter 12 = .ok (.iconst 1, 1) := z_dd_4 (by decide +kernel)
theorem dX9_isLetter_13 : decode cX9_isLetter 13 = .ok (.goto 4, 3) := z_dd_167 (by decide +kernel)
theorem dX9_isDigit_0 : decode cX9_isDigit 0 = .ok (.iload_n 0, 1) := z_dd_26 (by decide +kernel)
theorem dX9_isDigit_1 : decode cX9_isDigit 1 = .ok (.bipush 48, 2) := z_dd_16 (by decide +kernel)
theorem dX9_isDigit_3 : decode cX9_isDigit 3 = .ok (.if_icmp .lt 13, 3) := z_dd_161 (by decide +kernel)
theorem dX9_isDigit_16 : decode cX9_isDigit 16 = .ok (.iconst 0, 1) := z_dd_3 (by decide +kernel)
theorem dX9_isDigit_17 : decode cX9_isDigit 17 = .ok (.ireturn, 1) := z_dd_172 (by decide +kernel)
theorem dX9_isDigit_6 : decode cX9_isDigit 6 = .ok (.iload_n 0, 1) := z_dd_26 (by decide +kernel)
theorem dX9_isDigit_7 : decode cX9_isDigit 7 = .ok (.bipush 57, 2) := z_dd_16 (by decide +kernel)
theorem dX9_isDigit_9 : decode cX9_isDigit 9 = .ok (.if_icmp .gt 7, 3) := z_dd_163 (by decide +kernel)
theorem dX9_isDigit_12 : decode cX9_isDigit 12 = .ok (.iconst 1, 1) := z_dd_4 (by decide +kernel)
theorem dX9_isDigit_13 : decode cX9_isDigit 13 = .ok (.goto 4, 3) := z_dd_167 (by decide +kernel)
theorem dX9_isSign_0 : decode cX9_isSign 0 = .ok (.iload_n 0, 1) := z_dd_26 (by decide +kernel)
theorem dX9_isSign_1 : decode cX9_isSign 1 = .ok (.lookupswitch 117 #[(40, 115), (41, 115), (42, 115), (43, 115), (44, 115), (45, 115), (47, 115), (59, 115), (60, 115), (61, 115), (62, 115), (123, 115), (125, 115)], 115) := by decide +kernel
theorem dX9_isSign_116 : decode cX9_isSign 116 = .ok (.iconst 1, 1) := z_dd_4 (by decide +kernel)
theorem dX9_isSign_117 : decode cX9_isSign 117 = .ok (.ireturn, 1) := z_dd_172 (by decide +kernel)
theorem dX9_isSign_118 : decode cX9_isSign 118 = .ok (.iconst 0, 1) := z_dd_3 (by decide +kernel)
theorem dX9_isSign_119 : decode cX9_isSign 119 = .ok (.ireturn, 1) := z_dd_172 (by decide +kernel)
theorem dX9_addToken_0 : decode cX9_addToken 0 = .ok (.aload_n 0, 1) := z_dd_42 (by decide +kernel)
theorem dX9_addToken_1 : decode cX9_addToken 1 = .ok (.getfield 76, 3) := z_dd_180 (by decide +kernel)
theorem dX9_addToken_4 : decode cX9_addToken 4 = .ok (.aload_n 0, 1) := z_dd_42 (by decide +kernel)
theorem dX9_addToken_5 : decode cX9_addToken 5 = .ok (.getfield 15, 3) := z_dd_180 (by decide +kernel)
theorem dX9_addToken_8 : decode cX9_addToken 8 = .ok (.arraylength, 1) := z_dd_190 (by decide +kernel)
theorem dX9_addToken_9 : decode cX9_addToken 9 = .ok (.if_icmp .ge 43, 3) := z_dd_162 (by decide +kernel)
theorem dX9_addToken_52 : decode cX9_addToken 52 = .ok (.return_, 1) := z_dd_177 (by decide +kernel)
theorem dX9_addToken_12 : decode cX9_addToken 12 = .ok (.aload_n 0, 1) := z_dd_42 (by decide +kernel)
theorem dX9_addToken_13 : decode cX9_addToken 13 = .ok (.getfield 15, 3) := z_dd_180 (by decide +kernel)
theorem dX9_addToken_16 : decode cX9_addToken 16 = .ok (.aload_n 0, 1) := z_dd_42 (by decide +kernel)
theorem dX9_addToken_17 : decode cX9_addToken 17 = .ok (.getfield 76, 3) := z_dd_180 (by decide +kernel)
theorem dX9_addToken_20 : decode cX9_addToken 20 = .ok (.iload_n 1, 1) := z_dd_27 (by decide +kernel)
theorem dX9_addToken_21 : decode cX9_addToken 21 = .ok (.iastore, 1) := z_dd_79 (by decide +kernel)
theorem dX9_addToken_22 : decode cX9_addToken 22 = .ok (.aload_n 0, 1) := z_dd_42 (by decide +kernel)
theorem dX9_addToken_23 : decode cX9_addToken 23 = .ok (.getfield 21, 3) := z_dd_180 (by decide +kernel)
theorem dX9_addToken_26 : decode cX9_addToken 26 = .ok (.aload_n 0, 1) := z_dd_42 (by decide +kernel)
theorem dX9_addToken_27 : decode cX9_addToken 27 = .ok (.getfield 76, 3) := z_dd_180 (by decide +kernel)
theorem dX9_addToken_30 : decode cX9_addToken 30 = .ok (.iload_n 2, 1) := z_dd_28 (by decide +kernel)
theorem dX9_addToken_31 : decode cX9_addToken 31 = .ok (.iastore, 1) := z_dd_79 (by decide +kernel)
theorem dX9_addToken_32 : decode cX9_addToken 32 = .ok (.aload_n 0, 1) := z_dd_42 (by decide +kernel)
theorem dX9_addToken_33 : decode cX9_addToken 33 = .ok (.getfield 18, 3) := z_dd_180 (by decide +kernel)
theorem dX9_addToken_36 : decode cX9_addToken 36 = .ok (.aload_n 0, 1) := z_dd_42 (by decide +kernel)
theorem dX9_addToken_37 : decode cX9_addToken 37 = .ok (.getfield 76, 3) := z_dd_180 (by decide +kernel)
theorem dX9_addToken_40 : decode cX9_addToken 40 = .ok (.iload_n 3, 1) := z_dd_29 (by decide +kernel)
theorem dX9_addToken_41 : decode cX9_addToken 41 = .ok (.iastore, 1) := z_dd_79 (by decide +kernel)
theorem dX9_addToken_42 : decode cX9_addToken 42 = .ok (.aload_n 0, 1) := z_dd_42 (by decide +kernel)
theorem dX9_addToken_43 : decode cX9_addToken 43 = .ok (.dup, 1) := z_dd_89 (by decide +kernel)
theorem dX9_addToken_44 : decode cX9_addToken 44 = .ok (.getfield 76, 3) := z_dd_180 (by decide +kernel)
theorem dX9_addToken_47 : decode cX9_addToken 47 = .ok (.iconst 1, 1) := z_dd_4 (by decide +kernel)
theorem dX9_addToken_48 : decode cX9_addToken 48 = .ok (.iadd, 1) := z_dd_96 (by decide +kernel)
theorem dX9_addToken_49 : decode cX9_addToken 49 = .ok (.putfield 76, 3) := z_dd_181 (by decide +kernel)
theorem dX9_endOf_0 : decode cX9_endOf 0 = .ok (.iload_n 1, 1) := z_dd_27 (by decide +kernel)
theorem dX9_endOf_1 : decode cX9_endOf 1 = .ok (.iconst 1, 1) := z_dd_4 (by decide +kernel)
theorem dX9_endOf_2 : decode cX9_endOf 2 = .ok (.iadd, 1) := z_dd_96 (by decide +kernel)
theorem dX9_endOf_3 : decode cX9_endOf 3 = .ok (.istore_n 3, 1) := z_dd_62 (by decide +kernel)
theorem dX9_endOf_4 : decode cX9_endOf 4 = .ok (.iload_n 1, 1) := z_dd_27 (by decide +kernel)
theorem dX9_endOf_5 : decode cX9_endOf 5 = .ok (.ifCond .lt 12, 3) := z_dd_155 (by decide +kernel)
theorem dX9_endOf_8 : decode cX9_endOf 8 = .ok (.iload_n 1, 1) := z_dd_27 (by decide +kernel)
theorem dX9_endOf_9 : decode cX9_endOf 9 = .ok (.aload_n 0, 1) := z_dd_42 (by decide +kernel)
theorem dX9_endOf_10 : decode cX9_endOf 10 = .ok (.getfield 9, 3) := z_dd_180 (by decide +kernel)
theorem dX9_endOf_13 : decode cX9_endOf 13 = .ok (.arraylength, 1) := z_dd_190 (by decide +kernel)
theorem dX9_endOf_14 : decode cX9_endOf 14 = .ok (.if_icmp .lt 5, 3) := z_dd_161 (by decide +kernel)
theorem dX9_endOf_19 : decode cX9_endOf 19 = .ok (.aload_n 0, 1) := z_dd_42 (by decide +kernel)
theorem dX9_endOf_20 : decode cX9_endOf 20 = .ok (.getfield 9, 3) := z_dd_180 (by decide +kernel)
theorem dX9_endOf_23 : decode cX9_endOf 23 = .ok (.iload_n 1, 1) := z_dd_27 (by decide +kernel)
theorem dX9_endOf_24 : decode cX9_endOf 24 = .ok (.iaload, 1) := z_dd_46 (by decide +kernel)
set_option maxRecDepth 20000 in
theorem ggX9_endOf_X9_isLetter : GoodIn wsX9_endOf wsX9_isLetter := goodIn_sub (fa_c (me_s (me_l (List.mem_of_getElem? (i := 4) rfl))) fa_n) (by decide +kernel)
set_option maxRecDepth 20000 in
theorem gX9_endOf_X9_isLetter : GoodIn wsX9_endOf (va_wsS RX9 131 yX9_isLetter wsX9_isLetter) := goodIn_app (goodIn_sub (fa_c (me_s (me_l (List.mem_of_getElem? (i := 1) rfl))) (fa_c (me_s (me_l (List.mem_of_getElem? (i := 2) rfl))) (fa_c (me_s (me_l (List.mem_of_getElem? (i := 3) rfl))) fa_n))) (by decide +kernel)) ggX9_endOf_X9_isLetter
theorem dX9_endOf_25 : decode cX9_endOf 25 = .ok (.invokestatic 131, 3) := z_dd_184 (by decide +kernel)
theorem dX9_endOf_28 : decode cX9_endOf 28 = .ok (.istore 4, 2) := z_dd_54 (by decide +kernel)
theorem dX9_endOf_30 : decode cX9_endOf 30 = .ok (.iload 4, 2) := z_dd_21 (by decide +kernel)
theorem dX9_endOf_32 : decode cX9_endOf 32 = .ok (.ifCond .ne 17, 3) := z_dd_154 (by decide +kernel)
theorem dX9_endOf_49 : decode cX9_endOf 49 = .ok (.iload_n 3, 1) := z_dd_29 (by decide +kernel)
theorem dX9_endOf_50 : decode cX9_endOf 50 = .ok (.iload_n 2, 1) := z_dd_28 (by decide +kernel)
theorem dX9_endOf_51 : decode cX9_endOf 51 = .ok (.if_icmp .ge 50, 3) := z_dd_162 (by decide +kernel)
theorem dX9_endOf_101 : decode cX9_endOf 101 = .ok (.iload_n 3, 1) := z_dd_29 (by decide +kernel)
theorem dX9_endOf_102 : decode cX9_endOf 102 = .ok (.ireturn, 1) := z_dd_172 (by decide +kernel)
theorem dX9_endOf_54 : decode cX9_endOf 54 = .ok (.iload_n 3, 1) := z_dd_29 (by decide +kernel)
theorem dX9_endOf_55 : decode cX9_endOf 55 = .ok (.aload_n 0, 1) := z_dd_42 (by decide +kernel)
theorem dX9_endOf_56 : decode cX9_endOf 56 = .ok (.getfield 9, 3) := z_dd_180 (by decide +kernel)
theorem dX9_endOf_59 : decode cX9_endOf 59 = .ok (.arraylength, 1) := z_dd_190 (by decide +kernel)
theorem dX9_endOf_60 : decode cX9_endOf 60 = .ok (.if_icmp .ge 41, 3) := z_dd_162 (by decide +kernel)
theorem dX9_endOf_63 : decode cX9_endOf 63 = .ok (.iload 4, 2) := z_dd_21 (by decide +kernel)
theorem dX9_endOf_65 : decode cX9_endOf 65 = .ok (.ifCond .eq 18, 3) := z_dd_153 (by decide +kernel)
theorem dX9_endOf_68 : decode cX9_endOf 68 = .ok (.aload_n 0, 1) := z_dd_42 (by decide +kernel)
theorem dX9_endOf_69 : decode cX9_endOf 69 = .ok (.getfield 9, 3) := z_dd_180 (by decide +kernel)
theorem dX9_endOf_72 : decode cX9_endOf 72 = .ok (.iload_n 3, 1) := z_dd_29 (by decide +kernel)
theorem dX9_endOf_73 : decode cX9_endOf 73 = .ok (.iaload, 1) := z_dd_46 (by decide +kernel)
theorem dX9_endOf_74 : decode cX9_endOf 74 = .ok (.invokestatic 131, 3) := z_dd_184 (by decide +kernel)
theorem dX9_endOf_77 : decode cX9_endOf 77 = .ok (.ifCond .eq 24, 3) := z_dd_153 (by decide +kernel)
theorem dX9_endOf_80 : decode cX9_endOf 80 = .ok (.goto 15, 3) := z_dd_167 (by decide +kernel)
theorem dX9_endOf_95 : decode cX9_endOf 95 = .ok (.iinc 3 1, 3) := z_dd_132 (by decide +kernel)
theorem dX9_endOf_98 : decode cX9_endOf 98 = .ok (.goto (-49), 3) := z_dd_167 (by decide +kernel)
theorem dX9_endOf_35 : decode cX9_endOf 35 = .ok (.aload_n 0, 1) := z_dd_42 (by decide +kernel)
theorem dX9_endOf_36 : decode cX9_endOf 36 = .ok (.getfield 9, 3) := z_dd_180 (by decide +kernel)
theorem dX9_endOf_39 : decode cX9_endOf 39 = .ok (.iload_n 1, 1) := z_dd_27 (by decide +kernel)
theorem dX9_endOf_40 : decode cX9_endOf 40 = .ok (.iaload, 1) := z_dd_46 (by decide +kernel)
set_option maxRecDepth 20000 in
theorem ggX9_endOf_X9_isDigit : GoodIn wsX9_endOf wsX9_isDigit := goodIn_sub (fa_c (me_s (me_l (List.mem_of_getElem? (i := 7) rfl))) fa_n) (by decide +kernel)
set_option maxRecDepth 20000 in
theorem gX9_endOf_X9_isDigit : GoodIn wsX9_endOf (va_wsS RX9 134 yX9_isDigit wsX9_isDigit) := goodIn_app (goodIn_sub (fa_c (me_s (me_l (List.mem_of_getElem? (i := 5) rfl))) (fa_c (me_s (me_l (List.mem_of_getElem? (i := 6) rfl))) (fa_c (me_s (me_l (List.mem_of_getElem? (i := 3) rfl))) fa_n))) (by decide +kernel)) ggX9_endOf_X9_isDigit
theorem dX9_endOf_41 : decode cX9_endOf 41 = .ok (.invokestatic 134, 3) := z_dd_184 (by decide +kernel)
theorem dX9_endOf_44 : decode cX9_endOf 44 = .ok (.ifCond .ne 5, 3) := z_dd_154 (by decide +kernel)
theorem dX9_endOf_83 : decode cX9_endOf 83 = .ok (.aload_n 0, 1) := z_dd_42 (by decide +kernel)
theorem dX9_endOf_84 : decode cX9_endOf 84 = .ok (.getfield 9, 3) := z_dd_180 (by decide +kernel)
theorem dX9_endOf_87 : decode cX9_endOf 87 = .ok (.iload_n 3, 1) := z_dd_29 (by decide +kernel)
theorem dX9_endOf_88 : decode cX9_endOf 88 = .ok (.iaload, 1) := z_dd_46 (by decide +kernel)
theorem dX9_endOf_89 : decode cX9_endOf 89 = .ok (.invokestatic 134, 3) := z_dd_184 (by decide +kernel)
theorem dX9_endOf_92 : decode cX9_endOf 92 = .ok (.ifCond .eq 9, 3) := z_dd_153 (by decide +kernel)
theorem dX9_endOf_47 : decode cX9_endOf 47 = .ok (.iload_n 3, 1) := z_dd_29 (by decide +kernel)
theorem dX9_endOf_48 : decode cX9_endOf 48 = .ok (.ireturn, 1) := z_dd_172 (by decide +kernel)
theorem dX9_numberOf_0 : decode cX9_numberOf 0 = .ok (.iconst 0, 1) := z_dd_3 (by decide +kernel)
theorem dX9_numberOf_1 : decode cX9_numberOf 1 = .ok (.istore_n 3, 1) := z_dd_62 (by decide +kernel)
theorem dX9_numberOf_2 : decode cX9_numberOf 2 = .ok (.iload_n 1, 1) := z_dd_27 (by decide +kernel)
theorem dX9_numberOf_3 : decode cX9_numberOf 3 = .ok (.iconst 0, 1) := z_dd_3 (by decide +kernel)
theorem dX9_numberOf_4 : decode cX9_numberOf 4 = .ok (.invokestatic 128, 3) := z_dd_184 (by decide +kernel)
theorem dX9_numberOf_7 : decode cX9_numberOf 7 = .ok (.istore 4, 2) := z_dd_54 (by decide +kernel)
theorem dX9_numberOf_9 : decode cX9_numberOf 9 = .ok (.iload 4, 2) := z_dd_21 (by decide +kernel)
theorem dX9_numberOf_11 : decode cX9_numberOf 11 = .ok (.iload_n 2, 1) := z_dd_28 (by decide +kernel)
theorem dX9_numberOf_12 : decode cX9_numberOf 12 = .ok (.if_icmp .ge 61, 3) := z_dd_162 (by decide +kernel)
theorem dX9_numberOf_73 : decode cX9_numberOf 73 = .ok (.iload_n 3, 1) := z_dd_29 (by decide +kernel)
theorem dX9_numberOf_74 : decode cX9_numberOf 74 = .ok (.ireturn, 1) := z_dd_172 (by decide +kernel)
theorem dX9_numberOf_15 : decode cX9_numberOf 15 = .ok (.iload 4, 2) := z_dd_21 (by decide +kernel)
theorem dX9_numberOf_17 : decode cX9_numberOf 17 = .ok (.aload_n 0, 1) := z_dd_42 (by decide +kernel)
theorem dX9_numberOf_18 : decode cX9_numberOf 18 = .ok (.getfield 9, 3) := z_dd_180 (by decide +kernel)
theorem dX9_numberOf_21 : decode cX9_numberOf 21 = .ok (.arraylength, 1) := z_dd_190 (by decide +kernel)
theorem dX9_numberOf_22 : decode cX9_numberOf 22 = .ok (.if_icmp .ge 51, 3) := z_dd_162 (by decide +kernel)
theorem dX9_numberOf_25 : decode cX9_numberOf 25 = .ok (.iload 4, 2) := z_dd_21 (by decide +kernel)
theorem dX9_numberOf_27 : decode cX9_numberOf 27 = .ok (.iload_n 1, 1) := z_dd_27 (by decide +kernel)
theorem dX9_numberOf_28 : decode cX9_numberOf 28 = .ok (.bipush 6, 2) := z_dd_16 (by decide +kernel)
theorem dX9_numberOf_30 : decode cX9_numberOf 30 = .ok (.iadd, 1) := z_dd_96 (by decide +kernel)
theorem dX9_numberOf_31 : decode cX9_numberOf 31 = .ok (.if_icmp .ge 42, 3) := z_dd_162 (by decide +kernel)
theorem dX9_numberOf_34 : decode cX9_numberOf 34 = .ok (.aload_n 0, 1) := z_dd_42 (by decide +kernel)
theorem dX9_numberOf_35 : decode cX9_numberOf 35 = .ok (.getfield 9, 3) := z_dd_180 (by decide +kernel)
theorem dX9_numberOf_38 : decode cX9_numberOf 38 = .ok (.iload 4, 2) := z_dd_21 (by decide +kernel)
theorem dX9_numberOf_40 : decode cX9_numberOf 40 = .ok (.iaload, 1) := z_dd_46 (by decide +kernel)
set_option maxRecDepth 20000 in
theorem ggX9_numberOf_X9_isDigit : GoodIn wsX9_numberOf wsX9_isDigit := goodIn_sub (fa_c (me_s (me_l (List.mem_of_getElem? (i := 8) rfl))) fa_n) (by decide +kernel)
set_option maxRecDepth 20000 in
theorem gX9_numberOf_X9_isDigit : GoodIn wsX9_numberOf (va_wsS RX9 134 yX9_isDigit wsX9_isDigit) := goodIn_app (goodIn_sub (fa_c (me_s (me_l (List.mem_of_getElem? (i := 5) rfl))) (fa_c (me_s (me_l (List.mem_of_getElem? (i := 6) rfl))) (fa_c (me_s (me_l (List.mem_of_getElem? (i := 7) rfl))) fa_n))) (by decide +kernel)) ggX9_numberOf_X9_isDigit
theorem dX9_numberOf_41 : decode cX9_numberOf 41 = .ok (.invokestatic 134, 3) := z_dd_184 (by decide +kernel)
theorem dX9_numberOf_44 : decode cX9_numberOf 44 = .ok (.ifCond .eq 21, 3) := z_dd_153 (by decide +kernel)
theorem dX9_numberOf_47 : decode cX9_numberOf 47 = .ok (.iload_n 3, 1) := z_dd_29 (by decide +kernel)
theorem dX9_numberOf_48 : decode cX9_numberOf 48 = .ok (.bipush 10, 2) := z_dd_16 (by decide +kernel)
theorem dX9_numberOf_50 : decode cX9_numberOf 50 = .ok (.imul, 1) := z_dd_104 (by decide +kernel)
theorem dX9_numberOf_51 : decode cX9_numberOf 51 = .ok (.aload_n 0, 1) := z_dd_42 (by decide +kernel)
theorem dX9_numberOf_52 : decode cX9_numberOf 52 = .ok (.getfield 9, 3) := z_dd_180 (by decide +kernel)
theorem dX9_numberOf_55 : decode cX9_numberOf 55 = .ok (.iload 4, 2) := z_dd_21 (by decide +kernel)
theorem dX9_numberOf_57 : decode cX9_numberOf 57 = .ok (.iaload, 1) := z_dd_46 (by decide +kernel)
theorem dX9_numberOf_58 : decode cX9_numberOf 58 = .ok (.iadd, 1) := z_dd_96 (by decide +kernel)
theorem dX9_numberOf_59 : decode cX9_numberOf 59 = .ok (.bipush 48, 2) := z_dd_16 (by decide +kernel)
theorem dX9_numberOf_61 : decode cX9_numberOf 61 = .ok (.isub, 1) := z_dd_100 (by decide +kernel)
theorem dX9_numberOf_62 : decode cX9_numberOf 62 = .ok (.goto 4, 3) := z_dd_167 (by decide +kernel)
theorem dX9_numberOf_66 : decode cX9_numberOf 66 = .ok (.istore_n 3, 1) := z_dd_62 (by decide +kernel)
theorem dX9_numberOf_67 : decode cX9_numberOf 67 = .ok (.iinc 4 1, 3) := z_dd_132 (by decide +kernel)
theorem dX9_numberOf_70 : decode cX9_numberOf 70 = .ok (.goto (-61), 3) := z_dd_167 (by decide +kernel)
theorem dX9_numberOf_65 : decode cX9_numberOf 65 = .ok (.iconst 0, 1) := z_dd_3 (by decide +kernel)
theorem dX9_wordText_0 : decode cX9_wordText 0 = .ok (.iload_n 0, 1) := z_dd_26 (by decide +kernel)
theorem dX9_wordText_1 : decode cX9_wordText 1 = .ok (.tableswitch 155 300 319 #[95, 98, 101, 104, 107, 110, 113, 116, 119, 122, 125, 128, 131, 134, 137, 140, 143, 146, 149, 152], 95) := by decide +kernel
theorem dX9_wordText_96 : decode cX9_wordText 96 = .ok (.ldc 160, 2) := z_dd_18 (by decide +kernel)
theorem dX9_wordText_98 : decode cX9_wordText 98 = .ok (.areturn, 1) := z_dd_176 (by decide +kernel)
theorem dX9_wordText_99 : decode cX9_wordText 99 = .ok (.ldc 162, 2) := z_dd_18 (by decide +kernel)
theorem dX9_wordText_101 : decode cX9_wordText 101 = .ok (.areturn, 1) := z_dd_176 (by decide +kernel)
theorem dX9_wordText_102 : decode cX9_wordText 102 = .ok (.ldc 164, 2) := z_dd_18 (by decide +kernel)
theorem dX9_wordText_104 : decode cX9_wordText 104 = .ok (.areturn, 1) := z_dd_176 (by decide +kernel)
theorem dX9_wordText_105 : decode cX9_wordText 105 = .ok (.ldc 166, 2) := z_dd_18 (by decide +kernel)
theorem dX9_wordText_107 : decode cX9_wordText 107 = .ok (.areturn, 1) := z_dd_176 (by decide +kernel)
theorem dX9_wordText_108 : decode cX9_wordText 108 = .ok (.ldc 168, 2) := z_dd_18 (by decide +kernel)
theorem dX9_wordText_110 : decode cX9_wordText 110 = .ok (.areturn, 1) := z_dd_176 (by decide +kernel)
theorem dX9_wordText_111 : decode cX9_wordText 111 = .ok (.ldc 170, 2) := z_dd_18 (by decide +kernel)
theorem dX9_wordText_113 : decode cX9_wordText 113 = .ok (.areturn, 1) := z_dd_176 (by decide +kernel)
theorem dX9_wordText_114 : decode cX9_wordText 114 = .ok (.ldc 172, 2) := z_dd_18 (by decide +kernel)
theorem dX9_wordText_116 : decode cX9_wordText 116 = .ok (.areturn, 1) := z_dd_176 (by decide +kernel)
theorem dX9_wordText_117 : decode cX9_wordText 117 = .ok (.ldc 174, 2) := z_dd_18 (by decide +kernel)
theorem dX9_wordText_119 : decode cX9_wordText 119 = .ok (.areturn, 1) := z_dd_176 (by decide +kernel)
theorem dX9_wordText_120 : decode cX9_wordText 120 = .ok (.ldc 176, 2) := z_dd_18 (by decide +kernel)
theorem dX9_wordText_122 : decode cX9_wordText 122 = .ok (.areturn, 1) := z_dd_176 (by decide +kernel)
theorem dX9_wordText_123 : decode cX9_wordText 123 = .ok (.ldc 178, 2) := z_dd_18 (by decide +kernel)
theorem dX9_wordText_125 : decode cX9_wordText 125 = .ok (.areturn, 1) := z_dd_176 (by decide +kernel)
theorem dX9_wordText_126 : decode cX9_wordText 126 = .ok (.ldc 180, 2) := z_dd_18 (by decide +kernel)
theorem dX9_wordText_128 : decode cX9_wordText 128 = .ok (.areturn, 1) := z_dd_176 (by decide +kernel)
theorem dX9_wordText_129 : decode cX9_wordText 129 = .ok (.ldc 182, 2) := z_dd_18 (by decide +kernel)
theorem dX9_wordText_131 : decode cX9_wordText 131 = .ok (.areturn, 1) := z_dd_176 (by decide +kernel)
theorem dX9_wordText_132 : decode cX9_wordText 132 = .ok (.ldc 184, 2) := z_dd_18 (by decide +kernel)
theorem dX9_wordText_134 : decode cX9_wordText 134 = .ok (.areturn, 1) := z_dd_176 (by decide +kernel)
theorem dX9_wordText_135 : decode cX9_wordText 135 = .ok (.ldc 186, 2) := z_dd_18 (by decide +kernel)
theorem dX9_wordText_137 : decode cX9_wordText 137 = .ok (.areturn, 1) := z_dd_176 (by decide +kernel)
theorem dX9_wordText_138 : decode cX9_wordText 138 = .ok (.ldc 188, 2) := z_dd_18 (by decide +kernel)
theorem dX9_wordText_140 : decode cX9_wordText 140 = .ok (.areturn, 1) := z_dd_176 (by decide +kernel)
theorem dX9_wordText_141 : decode cX9_wordText 141 = .ok (.ldc 190, 2) := z_dd_18 (by decide +kernel)
theorem dX9_wordText_143 : decode cX9_wordText 143 = .ok (.areturn, 1) := z_dd_176 (by decide +kernel)
theorem dX9_wordText_144 : decode cX9_wordText 144 = .ok (.ldc 192, 2) := z_dd_18 (by decide +kernel)
theorem dX9_wordText_146 : decode cX9_wordText 146 = .ok (.areturn, 1) := z_dd_176 (by decide +kernel)
theorem dX9_wordText_147 : decode cX9_wordText 147 = .ok (.ldc 194, 2) := z_dd_18 (by decide +kernel)
theorem dX9_wordText_149 : decode cX9_wordText 149 = .ok (.areturn, 1) := z_dd_176 (by decide +kernel)
theorem dX9_wordText_150 : decode cX9_wordText 150 = .ok (.ldc 196, 2) := z_dd_18 (by decide +kernel)
theorem dX9_wordText_152 : decode cX9_wordText 152 = .ok (.areturn, 1) := z_dd_176 (by decide +kernel)
theorem dX9_wordText_153 : decode cX9_wordText 153 = .ok (.ldc 198, 2) := z_dd_18 (by decide +kernel)
theorem dX9_wordText_155 : decode cX9_wordText 155 = .ok (.areturn, 1) := z_dd_176 (by decide +kernel)
theorem dX9_wordText_156 : decode cX9_wordText 156 = .ok (.ldc 200, 2) := z_dd_18 (by decide +kernel)
theorem dX9_wordText_158 : decode cX9_wordText 158 = .ok (.areturn, 1) := z_dd_176 (by decide +kernel)
theorem dX9_isWord_0 : decode cX9_isWord 0 = .ok (.iload_n 2, 1) := z_dd_28 (by decide +kernel)
theorem dX9_isWord_1 : decode cX9_isWord 1 = .ok (.ifCond .lt 22, 3) := z_dd_155 (by decide +kernel)
theorem dX9_isWord_4 : decode cX9_isWord 4 = .ok (.iload_n 3, 1) := z_dd_29 (by decide +kernel)
theorem dX9_isWord_5 : decode cX9_isWord 5 = .ok (.aload_n 0, 1) := z_dd_42 (by decide +kernel)
theorem dX9_isWord_6 : decode cX9_isWord 6 = .ok (.getfield 9, 3) := z_dd_180 (by decide +kernel)
theorem dX9_isWord_9 : decode cX9_isWord 9 = .ok (.arraylength, 1) := z_dd_190 (by decide +kernel)
theorem dX9_isWord_10 : decode cX9_isWord 10 = .ok (.if_icmp .gt 13, 3) := z_dd_163 (by decide +kernel)
theorem dX9_isWord_13 : decode cX9_isWord 13 = .ok (.aload_n 1, 1) := z_dd_43 (by decide +kernel)
set_option maxRecDepth 20000 in
theorem ggX9_isWord_J0_length_8abf5 : GoodIn wsX9_isWord wsJ0_length_8abf5 := goodIn_sub (fa_c (me_s (me_l (me_l (List.mem_of_getElem? (i := 5) rfl)))) (fa_c (me_s (me_l (me_l (List.mem_of_getElem? (i := 6) rfl)))) (fa_c (me_s (me_l (me_l (List.mem_of_getElem? (i := 7) rfl)))) (fa_c (me_s (me_l (me_l (List.mem_of_getElem? (i := 8) rfl)))) (fa_c (me_s (me_l (me_l (List.mem_of_getElem? (i := 9) rfl)))) (fa_c (me_s (me_l (me_l (List.mem_of_getElem? (i := 4) rfl)))) (fa_c (me_s (me_l (me_l (List.mem_of_getElem? (i := 10) rfl)))) (fa_c (me_s (me_l (me_l (List.mem_of_getElem? (i := 11) rfl)))) (fa_c (me_s (me_l (me_l (List.mem_of_getElem? (i := 12) rfl)))) fa_n))))))))) (by decide +kernel)
set_option maxRecDepth 20000 in
theorem gX9_isWord_J0_length_8abf5 : GoodIn wsX9_isWord (wsV RX9 151 RJ0 yJ0_length_8abf5 wsJ0_length_8abf5) := goodIn_app (goodIn_sub (fa_c (me_s (me_l (me_l (List.mem_of_getElem? (i := 1) rfl)))) (fa_c (me_s (me_l (me_l (List.mem_of_getElem? (i := 2) rfl)))) (fa_c (me_s (me_l (me_l (List.mem_of_getElem? (i := 3) rfl)))) (fa_c (me_s (me_l (me_l (List.mem_of_getElem? (i := 4) rfl)))) fa_n)))) (by decide +kernel)) ggX9_isWord_J0_length_8abf5
theorem dX9_isWord_14 : decode cX9_isWord 14 = .ok (.invokevirtual 151, 3) := z_dd_182 (by decide +kernel)
theorem dX9_isWord_17 : decode cX9_isWord 17 = .ok (.iload_n 3, 1) := z_dd_29 (by decide +kernel)
theorem dX9_isWord_18 : decode cX9_isWord 18 = .ok (.iload_n 2, 1) := z_dd_28 (by decide +kernel)
theorem dX9_isWord_19 : decode cX9_isWord 19 = .ok (.isub, 1) := z_dd_100 (by decide +kernel)
theorem dX9_isWord_20 : decode cX9_isWord 20 = .ok (.if_icmp .eq 5, 3) := z_dd_159 (by decide +kernel)
theorem dX9_isWord_25 : decode cX9_isWord 25 = .ok (.iconst 0, 1) := z_dd_3 (by decide +kernel)
theorem dX9_isWord_26 : decode cX9_isWord 26 = .ok (.istore 4, 2) := z_dd_54 (by decide +kernel)
theorem dX9_isWord_28 : decode cX9_isWord 28 = .ok (.iload 4, 2) := z_dd_21 (by decide +kernel)
theorem dX9_isWord_30 : decode cX9_isWord 30 = .ok (.aload_n 1, 1) := z_dd_43 (by decide +kernel)
theorem dX9_isWord_31 : decode cX9_isWord 31 = .ok (.invokevirtual 151, 3) := z_dd_182 (by decide +kernel)
theorem dX9_isWord_34 : decode cX9_isWord 34 = .ok (.if_icmp .ge 41, 3) := z_dd_162 (by decide +kernel)
theorem dX9_isWord_75 : decode cX9_isWord 75 = .ok (.iconst 1, 1) := z_dd_4 (by decide +kernel)
theorem dX9_isWord_76 : decode cX9_isWord 76 = .ok (.ireturn, 1) := z_dd_172 (by decide +kernel)
theorem dX9_isWord_37 : decode cX9_isWord 37 = .ok (.iload_n 2, 1) := z_dd_28 (by decide +kernel)
theorem dX9_isWord_38 : decode cX9_isWord 38 = .ok (.iload 4, 2) := z_dd_21 (by decide +kernel)
theorem dX9_isWord_40 : decode cX9_isWord 40 = .ok (.iadd, 1) := z_dd_96 (by decide +kernel)
theorem dX9_isWord_41 : decode cX9_isWord 41 = .ok (.aload_n 0, 1) := z_dd_42 (by decide +kernel)
theorem dX9_isWord_42 : decode cX9_isWord 42 = .ok (.getfield 9, 3) := z_dd_180 (by decide +kernel)
theorem dX9_isWord_45 : decode cX9_isWord 45 = .ok (.arraylength, 1) := z_dd_190 (by decide +kernel)
theorem dX9_isWord_46 : decode cX9_isWord 46 = .ok (.if_icmp .ge 29, 3) := z_dd_162 (by decide +kernel)
theorem dX9_isWord_49 : decode cX9_isWord 49 = .ok (.aload_n 1, 1) := z_dd_43 (by decide +kernel)
theorem dX9_isWord_50 : decode cX9_isWord 50 = .ok (.iload 4, 2) := z_dd_21 (by decide +kernel)
set_option maxRecDepth 20000 in
theorem ggX9_isWord_J0_charAt_5068e : GoodIn wsX9_isWord wsJ0_charAt_5068e := goodIn_sub (fa_c (me_s (me_l (me_l (List.mem_of_getElem? (i := 16) rfl)))) (fa_a (fa_c (me_s (me_l (me_l (List.mem_of_getElem? (i := 6) rfl)))) (fa_c (me_s (me_l (me_l (List.mem_of_getElem? (i := 17) rfl)))) (fa_c (me_s (me_l (me_l (List.mem_of_getElem? (i := 18) rfl)))) (fa_c (me_s (me_l (me_l (List.mem_of_getElem? (i := 19) rfl)))) (fa_c (me_s (me_l (me_l (List.mem_of_getElem? (i := 4) rfl)))) (fa_c (me_s (me_l (me_l (List.mem_of_getElem? (i := 20) rfl)))) (fa_c (me_s (me_l (me_l (List.mem_of_getElem? (i := 11) rfl)))) (fa_c (me_s (me_l (me_l (List.mem_of_getElem? (i := 12) rfl)))) (fa_c (me_s (me_l (me_l (List.mem_of_getElem? (i := 21) rfl)))) (fa_c (me_s (me_l (me_l (List.mem_of_getElem? (i := 22) rfl)))) (fa_c (me_s (me_l (me_l (List.mem_of_getElem? (i := 23) rfl)))) (fa_c (me_s (me_l (me_r (me_l (List.mem_of_getElem? (i := 0) rfl))))) (fa_c (me_s (me_l (me_r (me_l (List.mem_of_getElem? (i := 1) rfl))))) (fa_c (me_s (me_l (me_r (me_l (List.mem_of_getElem? (i := 2) rfl))))) (fa_c (me_s (me_l (me_r (me_l (List.mem_of_getElem? (i := 3) rfl))))) (fa_c (me_s (me_l (me_r (me_l (List.mem_of_getElem? (i := 4) rfl))))) (fa_c (me_s (me_l (me_r (me_l (List.mem_of_getElem? (i := 5) rfl))))) (fa_c (me_s (me_l (me_r (me_l (List.mem_of_getElem? (i := 6) rfl))))) (fa_c (me_s (me_l (me_r (me_l (List.mem_of_getElem? (i := 7) rfl))))) (fa_c (me_s (me_l (me_r (me_l (List.mem_of_getElem? (i := 8) rfl))))) (fa_c (me_s (me_l (me_r (me_l (List.mem_of_getElem? (i := 9) rfl))))) (fa_c (me_s (me_l (me_r (me_l (List.mem_of_getElem? (i := 10) rfl))))) (fa_c (me_s (me_l (me_r (me_l (List.mem_of_getElem? (i := 11) rfl))))) (fa_c (me_s (me_l (me_r (me_l (List.mem_of_getElem? (i := 12) rfl))))) fa_n)))))))))))))))))))))))) (fa_c (me_s (me_l (me_r (me_l (List.mem_of_getElem? (i := 13) rfl))))) (fa_c (me_s (me_l (me_r (me_l (List.mem_of_getElem? (i := 14) rfl))))) (fa_c (me_s (me_l (me_r (me_l (List.mem_of_getElem? (i := 15) rfl))))) (fa_c (me_s (me_l (me_r (me_l (List.mem_of_getElem? (i := 16) rfl))))) (fa_c (me_s (me_l (me_r (me_l (List.mem_of_getElem? (i := 17) rfl))))) (fa_c (me_s (me_l (me_r (me_l (List.mem_of_getElem? (i := 18) rfl))))) (fa_c (me_s (me_l (me_r (me_l (List.mem_of_getElem? (i := 19) rfl))))) (fa_c (me_s (me_l (me_r (me_l (List.mem_of_getElem? (i := 20) rfl))))) (fa_c (me_s (me_l (me_r (me_l (List.mem_of_getElem? (i := 21) rfl))))) (fa_c (me_s (me_l (me_r (me_l (List.mem_of_getElem? (i := 22) rfl))))) (fa_c (me_s (me_l (me_r (me_l (List.mem_of_getElem? (i := 23) rfl))))) (fa_c (me_s (me_l (me_r (me_r (List.mem_of_getElem? (i := 0) rfl))))) (fa_c (me_s (me_l (me_r (me_r (List.mem_of_getElem? (i := 1) rfl))))) fa_n))))))))))))))) (by decide +kernel)
set_option maxRecDepth 20000 in
theorem gX9_isWord_J0_charAt_5068e : GoodIn wsX9_isWord (wsV RX9 156 RJ0 yJ0_charAt_5068e wsJ0_charAt_5068e) := goodIn_app (goodIn_sub (fa_c (me_s (me_l (me_l (List.mem_of_getElem? (i := 13) rfl)))) (fa_c (me_s (me_l (me_l (List.mem_of_getElem? (i := 14) rfl)))) (fa_c (me_s (me_l (me_l (List.mem_of_getElem? (i := 15) rfl)))) (fa_c (me_s (me_l (me_l (List.mem_of_getElem? (i := 4) rfl)))) fa_n)))) (by decide +kernel)) ggX9_isWord_J0_charAt_5068e
theorem dX9_isWord_52 : decode cX9_isWord 52 = .ok (.invokevirtual 156, 3) := z_dd_182 (by decide +kernel)
theorem dX9_isWord_55 : decode cX9_isWord 55 = .ok (.aload_n 0, 1) := z_dd_42 (by decide +kernel)
theorem dX9_isWord_56 : decode cX9_isWord 56 = .ok (.getfield 9, 3) := z_dd_180 (by decide +kernel)
theorem dX9_isWord_59 : decode cX9_isWord 59 = .ok (.iload_n 2, 1) := z_dd_28 (by decide +kernel)
theorem dX9_isWord_60 : decode cX9_isWord 60 = .ok (.iload 4, 2) := z_dd_21 (by decide +kernel)
theorem dX9_isWord_62 : decode cX9_isWord 62 = .ok (.iadd, 1) := z_dd_96 (by decide +kernel)
theorem dX9_isWord_63 : decode cX9_isWord 63 = .ok (.iaload, 1) := z_dd_46 (by decide +kernel)
theorem dX9_isWord_64 : decode cX9_isWord 64 = .ok (.if_icmp .eq 5, 3) := z_dd_159 (by decide +kernel)
theorem dX9_isWord_69 : decode cX9_isWord 69 = .ok (.iinc 4 1, 3) := z_dd_132 (by decide +kernel)
theorem dX9_isWord_72 : decode cX9_isWord 72 = .ok (.goto (-44), 3) := z_dd_167 (by decide +kernel)
theorem dX9_isWord_67 : decode cX9_isWord 67 = .ok (.iconst 0, 1) := z_dd_3 (by decide +kernel)
theorem dX9_isWord_68 : decode cX9_isWord 68 = .ok (.ireturn, 1) := z_dd_172 (by decide +kernel)
theorem dX9_isWord_23 : decode cX9_isWord 23 = .ok (.iconst 0, 1) := z_dd_3 (by decide +kernel)
theorem dX9_isWord_24 : decode cX9_isWord 24 = .ok (.ireturn, 1) := z_dd_172 (by decide +kernel)
theorem dX9_wordOf_0 : decode cX9_wordOf 0 = .ok (.sipush 300, 3) := z_dd_17 (by decide +kernel)
theorem dX9_wordOf_3 : decode cX9_wordOf 3 = .ok (.istore_n 3, 1) := z_dd_62 (by decide +kernel)
theorem dX9_wordOf_4 : decode cX9_wordOf 4 = .ok (.iload_n 3, 1) := z_dd_29 (by decide +kernel)
theorem dX9_wordOf_5 : decode cX9_wordOf 5 = .ok (.sipush 320, 3) := z_dd_17 (by decide +kernel)
theorem dX9_wordOf_8 : decode cX9_wordOf 8 = .ok (.if_icmp .gt 24, 3) := z_dd_163 (by decide +kernel)
theorem dX9_wordOf_32 : decode cX9_wordOf 32 = .ok (.sipush 402, 3) := z_dd_17 (by decide +kernel)
theorem dX9_wordOf_35 : decode cX9_wordOf 35 = .ok (.ireturn, 1) := z_dd_172 (by decide +kernel)
theorem dX9_wordOf_11 : decode cX9_wordOf 11 = .ok (.aload_n 0, 1) := z_dd_42 (by decide +kernel)
theorem dX9_wordOf_12 : decode cX9_wordOf 12 = .ok (.iload_n 3, 1) := z_dd_29 (by decide +kernel)
set_option maxRecDepth 20000 in
theorem ggX9_wordOf_X9_wordText : GoodIn wsX9_wordOf wsX9_wordText := goodIn_sub (fa_c (me_s (me_l (me_l (List.mem_of_getElem? (i := 3) rfl)))) fa_n) (by decide +kernel)
set_option maxRecDepth 20000 in
theorem gX9_wordOf_X9_wordText : GoodIn wsX9_wordOf (va_wsS RX9 143 yX9_wordText wsX9_wordText) := goodIn_app (goodIn_sub (fa_c (me_s (me_l (me_l (List.mem_of_getElem? (i := 0) rfl)))) (fa_c (me_s (me_l (me_l (List.mem_of_getElem? (i := 1) rfl)))) (fa_c (me_s (me_l (me_l (List.mem_of_getElem? (i := 2) rfl)))) fa_n))) (by decide +kernel)) ggX9_wordOf_X9_wordText
theorem dX9_wordOf_13 : decode cX9_wordOf 13 = .ok (.invokestatic 143, 3) := z_dd_184 (by decide +kernel)
theorem dX9_wordOf_16 : decode cX9_wordOf 16 = .ok (.iload_n 1, 1) := z_dd_27 (by decide +kernel)
theorem dX9_wordOf_17 : decode cX9_wordOf 17 = .ok (.iload_n 2, 1) := z_dd_28 (by decide +kernel)
set_option maxRecDepth 20000 in
theorem ggX9_wordOf_X9_isWord : GoodIn wsX9_wordOf wsX9_isWord := goodIn_sub (fa_c (me_s (me_l (me_l (List.mem_of_getElem? (i := 7) rfl)))) (fa_a (fa_a (fa_c (me_s (me_l (me_l (List.mem_of_getElem? (i := 8) rfl)))) (fa_c (me_s (me_l (me_l (List.mem_of_getElem? (i := 9) rfl)))) (fa_c (me_s (me_l (me_l (List.mem_of_getElem? (i := 10) rfl)))) (fa_c (me_s (me_l (me_l (List.mem_of_getElem? (i := 11) rfl)))) (fa_c (me_s (me_l (me_l (List.mem_of_getElem? (i := 12) rfl)))) (fa_c (me_s (me_l (me_l (List.mem_of_getElem? (i := 13) rfl)))) (fa_c (me_s (me_l (me_l (List.mem_of_getElem? (i := 14) rfl)))) (fa_c (me_s (me_l (me_l (List.mem_of_getElem? (i := 15) rfl)))) (fa_c (me_s (me_l (me_l (List.mem_of_getElem? (i := 16) rfl)))) (fa_c (me_s (me_l (me_l (List.mem_of_getElem? (i := 17) rfl)))) (fa_c (me_s (me_l (me_l (List.mem_of_getElem? (i := 18) rfl)))) (fa_c (me_s (me_l (me_l (List.mem_of_getElem? (i := 19) rfl)))) (fa_c (me_s (me_l (me_l (List.mem_of_getElem? (i := 20) rfl)))) (fa_c (me_s (me_l (me_l (List.mem_of_getElem? (i := 21) rfl)))) (fa_c (me_s (me_l (me_l (List.mem_of_getElem? (i := 22) rfl)))) (fa_c (me_s (me_l (me_l (List.mem_of_getElem? (i := 23) rfl)))) (fa_c (me_s (me_l (me_r (me_l (List.mem_of_getElem? (i := 0) rfl))))) (fa_c (me_s (me_l (me_r (me_l (List.mem_of_getElem? (i := 1) rfl))))) (fa_c (me_s (me_l (me_r (me_l (List.mem_of_getElem? (i := 2) rfl))))) (fa_c (me_s (me_l (me_r (me_l (List.mem_of_getElem? (i := 3) rfl))))) (fa_c (me_s (me_l (me_r (me_l (List.mem_of_getElem? (i := 4) rfl))))) (fa_c (me_s (me_l (me_r (me_l (List.mem_of_getElem? (i := 5) rfl))))) (fa_c (me_s (me_l (me_r (me_l (List.mem_of_getElem? (i := 6) rfl))))) (fa_c (me_s (me_l (me_r (me_l (List.mem_of_getElem? (i := 7) rfl))))) fa_n)))))))))))))))))))))))) (fa_a (fa_c (me_s (me_l (me_r (me_l (List.mem_of_getElem? (i := 8) rfl))))) (fa_c (me_s (me_l (me_r (me_l (List.mem_of_getElem? (i := 9) rfl))))) (fa_c (me_s (me_l (me_r (me_l (List.mem_of_getElem? (i := 10) rfl))))) (fa_c (me_s (me_l (me_r (me_l (List.mem_of_getElem? (i := 11) rfl))))) (fa_c (me_s (me_l (me_r (me_l (List.mem_of_getElem? (i := 12) rfl))))) (fa_c (me_s (me_l (me_r (me_l (List.mem_of_getElem? (i := 13) rfl))))) (fa_c (me_s (me_l (me_r (me_l (List.mem_of_getElem? (i := 14) rfl))))) (fa_c (me_s (me_l (me_r (me_l (List.mem_of_getElem? (i := 15) rfl))))) (fa_c (me_s (me_l (me_r (me_l (List.mem_of_getElem? (i := 16) rfl))))) (fa_c (me_s (me_l (me_r (me_l (List.mem_of_getElem? (i := 17) rfl))))) (fa_c (me_s (me_l (me_r (me_l (List.mem_of_getElem? (i := 18) rfl))))) (fa_c (me_s (me_l (me_r (me_l (List.mem_of_getElem? (i := 19) rfl))))) (fa_c (me_s (me_l (me_r (me_l (List.mem_of_getElem? (i := 20) rfl))))) (fa_c (me_s (me_l (me_r (me_l (List.mem_of_getElem? (i := 21) rfl))))) (fa_c (me_s (me_l (me_r (me_l (List.mem_of_getElem? (i := 22) rfl))))) (fa_c (me_s (me_l (me_r (me_l (List.mem_of_getElem? (i := 23) rfl))))) (fa_c (me_s (me_l (me_r (me_r (List.mem_of_getElem? (i := 0) rfl))))) (fa_c (me_s (me_l (me_r (me_r (List.mem_of_getElem? (i := 1) rfl))))) (fa_c (me_s (me_l (me_r (me_r (List.mem_of_getElem? (i := 2) rfl))))) (fa_c (me_s (me_l (me_r (me_r (List.mem_of_getElem? (i := 3) rfl))))) (fa_c (me_s (me_l (me_r (me_r (List.mem_of_getElem? (i := 4) rfl))))) (fa_c (me_s (me_l (me_r (me_r (List.mem_of_getElem? (i := 5) rfl))))) (fa_c (me_s (me_l (me_r (me_r (List.mem_of_getElem? (i := 6) rfl))))) (fa_c (me_s (me_l (me_r (me_r (List.mem_of_getElem? (i := 7) rfl))))) fa_n)))))))))))))))))))))))) (fa_c (me_s (me_l (me_r (me_r (List.mem_of_getElem? (i := 8) rfl))))) (fa_c (me_s (me_l (me_r (me_r (List.mem_of_getElem? (i := 9) rfl))))) fa_n)))) (fun w h => (me_s (me_r h))))) (by decide +kernel)
set_option maxRecDepth 20000 in
theorem gX9_wordOf_X9_isWord : GoodIn wsX9_wordOf (wsV RX9 147 RX9 yX9_isWord wsX9_isWord) := goodIn_app (goodIn_sub (fa_c (me_s (me_l (me_l (List.mem_of_getElem? (i := 4) rfl)))) (fa_c (me_s (me_l (me_l (List.mem_of_getElem? (i := 5) rfl)))) (fa_c (me_s (me_l (me_l (List.mem_of_getElem? (i := 6) rfl)))) (fa_c (me_s (me_l (me_l (List.mem_of_getElem? (i := 2) rfl)))) fa_n)))) (by decide +kernel)) ggX9_wordOf_X9_isWord
theorem dX9_wordOf_18 : decode cX9_wordOf 18 = .ok (.invokevirtual 147, 3) := z_dd_182 (by decide +kernel)
theorem dX9_wordOf_21 : decode cX9_wordOf 21 = .ok (.ifCond .eq 5, 3) := z_dd_153 (by decide +kernel)
theorem dX9_wordOf_24 : decode cX9_wordOf 24 = .ok (.iload_n 3, 1) := z_dd_29 (by decide +kernel)
theorem dX9_wordOf_25 : decode cX9_wordOf 25 = .ok (.ireturn, 1) := z_dd_172 (by decide +kernel)
theorem dX9_wordOf_26 : decode cX9_wordOf 26 = .ok (.iinc 3 1, 3) := z_dd_132 (by decide +kernel)
theorem dX9_wordOf_29 : decode cX9_wordOf 29 = .ok (.goto (-25), 3) := z_dd_167 (by decide +kernel)
theorem dX9_tokenOf_0 : decode cX9_tokenOf 0 = .ok (.iload_n 1, 1) := z_dd_27 (by decide +kernel)
theorem dX9_tokenOf_1 : decode cX9_tokenOf 1 = .ok (.ifCond .lt 12, 3) := z_dd_155 (by decide +kernel)
theorem dX9_tokenOf_4 : decode cX9_tokenOf 4 = .ok (.iload_n 1, 1) := z_dd_27 (by decide +kernel)
theorem dX9_tokenOf_5 : decode cX9_tokenOf 5 = .ok (.aload_n 0, 1) := z_dd_42 (by decide +kernel)
theorem dX9_tokenOf_6 : decode cX9_tokenOf 6 = .ok (.getfield 9, 3) := z_dd_180 (by decide +kernel)
theorem dX9_tokenOf_9 : decode cX9_tokenOf 9 = .ok (.arraylength, 1) := z_dd_190 (by decide +kernel)
theorem dX9_tokenOf_10 : decode cX9_tokenOf 10 = .ok (.if_icmp .lt 7, 3) := z_dd_161 (by decide +kernel)
theorem dX9_tokenOf_17 : decode cX9_tokenOf 17 = .ok (.aload_n 0, 1) := z_dd_42 (by decide +kernel)
theorem dX9_tokenOf_18 : decode cX9_tokenOf 18 = .ok (.getfield 9, 3) := z_dd_180 (by decide +kernel)
theorem dX9_tokenOf_21 : decode cX9_tokenOf 21 = .ok (.iload_n 1, 1) := z_dd_27 (by decide +kernel)
theorem dX9_tokenOf_22 : decode cX9_tokenOf 22 = .ok (.iaload, 1) := z_dd_46 (by decide +kernel)
theorem dX9_tokenOf_23 : decode cX9_tokenOf 23 = .ok (.istore_n 3, 1) := z_dd_62 (by decide +kernel)
theorem dX9_tokenOf_24 : decode cX9_tokenOf 24 = .ok (.iload_n 3, 1) := z_dd_29 (by decide +kernel)
set_option maxRecDepth 20000 in
theorem ggX9_tokenOf_X9_isLetter : GoodIn wsX9_tokenOf wsX9_isLetter := goodIn_sub (fa_c (me_s (me_l (me_l (List.mem_of_getElem? (i := 4) rfl)))) fa_n) (by decide +kernel)
set_option maxRecDepth 20000 in
theorem gX9_tokenOf_X9_isLetter : GoodIn wsX9_tokenOf (va_wsS RX9 131 yX9_isLetter wsX9_isLetter) := goodIn_app (goodIn_sub (fa_c (me_s (me_l (me_l (List.mem_of_getElem? (i := 1) rfl)))) (fa_c (me_s (me_l (me_l (List.mem_of_getElem? (i := 2) rfl)))) (fa_c (me_s (me_l (me_l (List.mem_of_getElem? (i := 3) rfl)))) fa_n))) (by decide +kernel)) ggX9_tokenOf_X9_isLetter
theorem dX9_tokenOf_25 : decode cX9_tokenOf 25 = .ok (.invokestatic 131, 3) := z_dd_184 (by decide +kernel)
theorem dX9_tokenOf_28 : decode cX9_tokenOf 28 = .ok (.ifCond .eq 10, 3) := z_dd_153 (by decide +kernel)
theorem dX9_tokenOf_31 : decode cX9_tokenOf 31 = .ok (.aload_n 0, 1) := z_dd_42 (by decide +kernel)
theorem dX9_tokenOf_32 : decode cX9_tokenOf 32 = .ok (.iload_n 1, 1) := z_dd_27 (by decide +kernel)
theorem dX9_tokenOf_33 : decode cX9_tokenOf 33 = .ok (.iload_n 2, 1) := z_dd_28 (by decide +kernel)
set_option maxRecDepth 20000 in
theorem ggX9_tokenOf_X9_wordOf : GoodIn wsX9_tokenOf wsX9_wordOf := goodIn_sub (fa_c (me_s (me_l (me_l (List.mem_of_getElem? (i := 8) rfl)))) (fa_a (fa_a (fa_c (me_s (me_l (me_l (List.mem_of_getElem? (i := 9) rfl)))) (fa_c (me_s (me_l (me_l (List.mem_of_getElem? (i := 10) rfl)))) (fa_c (me_s (me_l (me_l (List.mem_of_getElem? (i := 3) rfl)))) (fa_c (me_s (me_l (me_l (List.mem_of_getElem? (i := 11) rfl)))) (fa_c (me_s (me_l (me_l (List.mem_of_getElem? (i := 12) rfl)))) (fa_c (me_s (me_l (me_l (List.mem_of_getElem? (i := 13) rfl)))) (fa_c (me_s (me_l (me_l (List.mem_of_getElem? (i := 14) rfl)))) (fa_c (me_s (me_l (me_l (List.mem_of_getElem? (i := 15) rfl)))) (fa_c (me_s (me_l (me_l (List.mem_of_getElem? (i := 0) rfl)))) (fa_c (me_s (me_l (me_l (List.mem_of_getElem? (i := 16) rfl)))) (fa_c (me_s (me_l (me_l (List.mem_of_getElem? (i := 17) rfl)))) (fa_c (me_s (me_l (me_l (List.mem_of_getElem? (i := 18) rfl)))) (fa_c (me_s (me_l (me_l (List.mem_of_getElem? (i := 19) rfl)))) (fa_c (me_s (me_l (me_l (List.mem_of_getElem? (i := 20) rfl)))) (fa_c (me_s (me_l (me_l (List.mem_of_getElem? (i := 21) rfl)))) (fa_c (me_s (me_l (me_l (List.mem_of_getElem? (i := 22) rfl)))) (fa_c (me_s (me_l (me_l (List.mem_of_getElem? (i := 23) rfl)))) (fa_c (me_s (me_l (me_r (me_l (List.mem_of_getElem? (i := 0) rfl))))) (fa_c (me_s (me_l (me_r (me_l (List.mem_of_getElem? (i := 1) rfl))))) (fa_c (me_s (me_l (me_r (me_l (List.mem_of_getElem? (i := 2) rfl))))) (fa_c (me_s (me_l (me_r (me_l (List.mem_of_getElem? (i := 3) rfl))))) (fa_c (me_s (me_l (me_r (me_l (List.mem_of_getElem? (i := 4) rfl))))) (fa_c (me_s (me_l (me_r (me_l (List.mem_of_getElem? (i := 5) rfl))))) (fa_c (me_s (me_l (me_r (me_l (List.mem_of_getElem? (i := 6) rfl))))) fa_n)))))))))))))))))))))))) (fa_a (fa_c (me_s (me_l (me_r (me_l (List.mem_of_getElem? (i := 7) rfl))))) (fa_c (me_s (me_l (me_r (me_l (List.mem_of_getElem? (i := 8) rfl))))) (fa_c (me_s (me_l (me_r (me_l (List.mem_of_getElem? (i := 9) rfl))))) (fa_c (me_s (me_l (me_r (me_l (List.mem_of_getElem? (i := 10) rfl))))) (fa_c (me_s (me_l (me_r (me_l (List.mem_of_getElem? (i := 11) rfl))))) (fa_c (me_s (me_l (me_r (me_l (List.mem_of_getElem? (i := 12) rfl))))) (fa_c (me_s (me_l (me_r (me_l (List.mem_of_getElem? (i := 13) rfl))))) (fa_c (me_s (me_l (me_r (me_l (List.mem_of_getElem? (i := 14) rfl))))) (fa_c (me_s (me_l (me_r (me_l (List.mem_of_getElem? (i := 15) rfl))))) (fa_c (me_s (me_l (me_r (me_l (List.mem_of_getElem? (i := 16) rfl))))) (fa_c (me_s (me_l (me_r (me_l (List.mem_of_getElem? (i := 17) rfl))))) (fa_c (me_s (me_l (me_r (me_l (List.mem_of_getElem? (i := 18) rfl))))) (fa_c (me_s (me_l (me_r (me_l (List.mem_of_getElem? (i := 19) rfl))))) (fa_c (me_s (me_l (me_r (me_l (List.mem_of_getElem? (i := 20) rfl))))) (fa_c (me_s (me_l (me_r (me_l (List.mem_of_getElem? (i := 21) rfl))))) (fa_c (me_s (me_l (me_r (me_l (List.mem_of_getElem? (i := 22) rfl))))) (fa_c (me_s (me_l (me_r (me_l (List.mem_of_getElem? (i := 23) rfl))))) (fa_c (me_s (me_l (me_r (me_r (List.mem_of_getElem? (i := 0) rfl))))) (fa_c (me_s (me_l (me_r (me_r (List.mem_of_getElem? (i := 1) rfl))))) (fa_c (me_s (me_l (me_r (me_r (List.mem_of_getElem? (i := 2) rfl))))) (fa_c (me_s (me_l (me_r (me_r (List.mem_of_getElem? (i := 3) rfl))))) (fa_c (me_s (me_l (me_r (me_r (List.mem_of_getElem? (i := 4) rfl))))) (fa_c (me_s (me_l (me_r (me_r (List.mem_of_getElem? (i := 5) rfl))))) (fa_c (me_s (me_l (me_r (me_r (List.mem_of_getElem? (i := 6) rfl))))) fa_n)))))))))))))))))))))))) (fa_c (me_s (me_l (me_r (me_r (List.mem_of_getElem? (i := 7) rfl))))) (fa_c (me_s (me_l (me_r (me_r (List.mem_of_getElem? (i := 8) rfl))))) (fa_c (me_s (me_l (me_r (me_r (List.mem_of_getElem? (i := 9) rfl))))) (fa_c (me_s (me_l (me_r (me_r (List.mem_of_getElem? (i := 10) rfl))))) (fa_c (me_s (me_l (me_r (me_r (List.mem_of_getElem? (i := 11) rfl))))) (fa_c (me_s (me_l (me_r (me_r (List.mem_of_getElem? (i := 12) rfl))))) (fa_c (me_s (me_l (me_r (me_r (List.mem_of_getElem? (i := 13) rfl))))) (fa_c (me_s (me_l (me_r (me_r (List.mem_of_getElem? (i := 14) rfl))))) (fa_c (me_s (me_l (me_r (me_r (List.mem_of_getElem? (i := 15) rfl))))) (fa_c (me_s (me_l (me_r (me_r (List.mem_of_getElem? (i := 16) rfl))))) fa_n)))))))))))) (fun w h => (me_s (me_r h))))) (by decide +kernel)
set_option maxRecDepth 20000 in
theorem gX9_tokenOf_X9_wordOf : GoodIn wsX9_tokenOf (wsV RX9 137 RX9 yX9_wordOf wsX9_wordOf) := goodIn_app (goodIn_sub (fa_c (me_s (me_l (me_l (List.mem_of_getElem? (i := 5) rfl)))) (fa_c (me_s (me_l (me_l (List.mem_of_getElem? (i := 6) rfl)))) (fa_c (me_s (me_l (me_l (List.mem_of_getElem? (i := 7) rfl)))) (fa_c (me_s (me_l (me_l (List.mem_of_getElem? (i := 3) rfl)))) fa_n)))) (by decide +kernel)) ggX9_tokenOf_X9_wordOf
theorem dX9_tokenOf_34 : decode cX9_tokenOf 34 = .ok (.invokevirtual 137, 3) := z_dd_182 (by decide +kernel)
theorem dX9_tokenOf_37 : decode cX9_tokenOf 37 = .ok (.ireturn, 1) := z_dd_172 (by decide +kernel)
theorem dX9_tokenOf_38 : decode cX9_tokenOf 38 = .ok (.iload_n 3, 1) := z_dd_29 (by decide +kernel)
set_option maxRecDepth 20000 in
theorem ggX9_tokenOf_X9_isDigit : GoodIn wsX9_tokenOf wsX9_isDigit := goodIn_sub (fa_c (me_s (me_l (me_r (me_r (List.mem_of_getElem? (i := 19) rfl))))) fa_n) (by decide +kernel)
set_option maxRecDepth 20000 in
theorem gX9_tokenOf_X9_isDigit : GoodIn wsX9_tokenOf (va_wsS RX9 134 yX9_isDigit wsX9_isDigit) := goodIn_app (goodIn_sub (fa_c (me_s (me_l (me_r (me_r (List.mem_of_getElem? (i := 17) rfl))))) (fa_c (me_s (me_l (me_r (me_r (List.mem_of_getElem? (i := 18) rfl))))) (fa_c (me_s (me_l (me_l (List.mem_of_getElem? (i := 3) rfl)))) fa_n))) (by decide +kernel)) ggX9_tokenOf_X9_isDigit
theorem dX9_tokenOf_39 : decode cX9_tokenOf 39 = .ok (.invokestatic 134, 3) := z_dd_184 (by decide +kernel)
theorem dX9_tokenOf_42 : decode cX9_tokenOf 42 = .ok (.ifCond .eq 21, 3) := z_dd_153 (by decide +kernel)
theorem dX9_tokenOf_45 : decode cX9_tokenOf 45 = .ok (.iload_n 2, 1) := z_dd_28 (by decide +kernel)
theorem dX9_tokenOf_46 : decode cX9_tokenOf 46 = .ok (.iload_n 1, 1) := z_dd_27 (by decide +kernel)
theorem dX9_tokenOf_47 : decode cX9_tokenOf 47 = .ok (.isub, 1) := z_dd_100 (by decide +kernel)
theorem dX9_tokenOf_48 : decode cX9_tokenOf 48 = .ok (.bipush 6, 2) := z_dd_16 (by decide +kernel)
theorem dX9_tokenOf_50 : decode cX9_tokenOf 50 = .ok (.if_icmp .gt 9, 3) := z_dd_163 (by decide +kernel)
theorem dX9_tokenOf_59 : decode cX9_tokenOf 59 = .ok (.sipush 402, 3) := z_dd_17 (by decide +kernel)
theorem dX9_tokenOf_62 : decode cX9_tokenOf 62 = .ok (.ireturn, 1) := z_dd_172 (by decide +kernel)
theorem dX9_tokenOf_53 : decode cX9_tokenOf 53 = .ok (.sipush 400, 3) := z_dd_17 (by decide +kernel)
theorem dX9_tokenOf_56 : decode cX9_tokenOf 56 = .ok (.goto 6, 3) := z_dd_167 (by decide +kernel)
theorem dX9_tokenOf_63 : decode cX9_tokenOf 63 = .ok (.iload_n 3, 1) := z_dd_29 (by decide +kernel)
set_option maxRecDepth 20000 in
theorem ggX9_tokenOf_X9_isSign : GoodIn wsX9_tokenOf wsX9_isSign := goodIn_sub (fa_c (me_s (me_l (me_r (me_r (List.mem_of_getElem? (i := 22) rfl))))) fa_n) (by decide +kernel)
set_option maxRecDepth 20000 in
theorem gX9_tokenOf_X9_isSign : GoodIn wsX9_tokenOf (va_wsS RX9 140 yX9_isSign wsX9_isSign) := goodIn_app (goodIn_sub (fa_c (me_s (me_l (me_r (me_r (List.mem_of_getElem? (i := 20) rfl))))) (fa_c (me_s (me_l (me_r (me_r (List.mem_of_getElem? (i := 21) rfl))))) (fa_c (me_s (me_l (me_l (List.mem_of_getElem? (i := 3) rfl)))) fa_n))) (by decide +kernel)) ggX9_tokenOf_X9_isSign
theorem dX9_tokenOf_64 : decode cX9_tokenOf 64 = .ok (.invokestatic 140, 3) := z_dd_184 (by decide +kernel)
theorem dX9_tokenOf_67 : decode cX9_tokenOf 67 = .ok (.ifCond .eq 7, 3) := z_dd_153 (by decide +kernel)
theorem dX9_tokenOf_70 : decode cX9_tokenOf 70 = .ok (.iload_n 3, 1) := z_dd_29 (by decide +kernel)
theorem dX9_tokenOf_71 : decode cX9_tokenOf 71 = .ok (.goto 6, 3) := z_dd_167 (by decide +kernel)
theorem dX9_tokenOf_77 : decode cX9_tokenOf 77 = .ok (.ireturn, 1) := z_dd_172 (by decide +kernel)
theorem dX9_tokenOf_74 : decode cX9_tokenOf 74 = .ok (.sipush 402, 3) := z_dd_17 (by decide +kernel)
theorem dX9_scan_0 : decode cX9_scan 0 = .ok (.iload_n 1, 1) := z_dd_27 (by decide +kernel)
theorem dX9_scan_1 : decode cX9_scan 1 = .ok (.aload_n 0, 1) := z_dd_42 (by decide +kernel)
theorem dX9_scan_2 : decode cX9_scan 2 = .ok (.getfield 9, 3) := z_dd_180 (by decide +kernel)
theorem dX9_scan_5 : decode cX9_scan 5 = .ok (.arraylength, 1) := z_dd_190 (by decide +kernel)
theorem dX9_scan_6 : decode cX9_scan 6 = .ok (.invokestatic 40, 3) := z_dd_184 (by decide +kernel)
theorem dX9_scan_9 : decode cX9_scan 9 = .ok (.istore_n 2, 1) := z_dd_61 (by decide +kernel)
theorem dX9_scan_10 : decode cX9_scan 10 = .ok (.aload_n 0, 1) := z_dd_42 (by decide +kernel)
theorem dX9_scan_11 : decode cX9_scan 11 = .ok (.iconst 0, 1) := z_dd_3 (by decide +kernel)
theorem dX9_scan_12 : decode cX9_scan 12 = .ok (.putfield 76, 3) := z_dd_181 (by decide +kernel)
theorem dX9_scan_15 : decode cX9_scan 15 = .ok (.iconst 0, 1) := z_dd_3 (by decide +kernel)
theorem dX9_scan_16 : decode cX9_scan 16 = .ok (.istore 4, 2) := z_dd_54 (by decide +kernel)
theorem dX9_scan_18 : decode cX9_scan 18 = .ok (.iload 4, 2) := z_dd_21 (by decide +kernel)
theorem dX9_scan_20 : decode cX9_scan 20 = .ok (.iload_n 2, 1) := z_dd_28 (by decide +kernel)
theorem dX9_scan_21 : decode cX9_scan 21 = .ok (.if_icmp .ge 57, 3) := z_dd_162 (by decide +kernel)
theorem dX9_scan_78 : decode cX9_scan 78 = .ok (.aload_n 0, 1) := z_dd_42 (by decide +kernel)
theorem dX9_scan_79 : decode cX9_scan 79 = .ok (.sipush 401, 3) := z_dd_17 (by decide +kernel)
theorem dX9_scan_82 : decode cX9_scan 82 = .ok (.iload_n 2, 1) := z_dd_28 (by decide +kernel)
theorem dX9_scan_83 : decode cX9_scan 83 = .ok (.iconst 0, 1) := z_dd_3 (by decide +kernel)
set_option maxRecDepth 20000 in
theorem ggX9_scan_X9_addToken : GoodIn wsX9_scan wsX9_addToken := goodIn_sub (fa_c (me_s (me_l (me_r (me_r (me_r (me_r (List.mem_of_getElem? (i := 1) rfl))))))) (fa_a (fa_c (me_s (me_l (me_l (List.mem_of_getElem? (i := 5) rfl)))) (fa_c (me_s (me_l (me_r (me_r (me_r (me_r (List.mem_of_getElem? (i := 2) rfl))))))) (fa_c (me_s (me_l (me_r (me_r (me_r (me_r (List.mem_of_getElem? (i := 3) rfl))))))) (fa_c (me_s (me_l (me_r (me_r (me_r (me_r (List.mem_of_getElem? (i := 4) rfl))))))) fa_n)))) (fun w h => (me_s (me_r h))))) (by decide +kernel)
set_option maxRecDepth 20000 in
theorem gX9_scan_X9_addToken : GoodIn wsX9_scan (wsV RX9 124 RX9 yX9_addToken wsX9_addToken) := goodIn_app (goodIn_sub (fa_c (me_s (me_l (me_r (me_r (me_r (me_l (List.mem_of_getElem? (i := 22) rfl))))))) (fa_c (me_s (me_l (me_r (me_r (me_r (me_l (List.mem_of_getElem? (i := 23) rfl))))))) (fa_c (me_s (me_l (me_r (me_r (me_r (me_r (List.mem_of_getElem? (i := 0) rfl))))))) (fa_c (me_s (me_l (me_l (List.mem_of_getElem? (i := 12) rfl)))) fa_n)))) (by decide +kernel)) ggX9_scan_X9_addToken
theorem dX9_scan_84 : decode cX9_scan 84 = .ok (.invokevirtual 124, 3) := z_dd_182 (by decide +kernel)
theorem dX9_scan_87 : decode cX9_scan 87 = .ok (.return_, 1) := z_dd_177 (by decide +kernel)
theorem dX9_scan_24 : decode cX9_scan 24 = .ok (.aload_n 0, 1) := z_dd_42 (by decide +kernel)
theorem dX9_scan_25 : decode cX9_scan 25 = .ok (.iload 4, 2) := z_dd_21 (by decide +kernel)
theorem dX9_scan_27 : decode cX9_scan 27 = .ok (.iload_n 2, 1) := z_dd_28 (by decide +kernel)
set_option maxRecDepth 20000 in
theorem ggX9_scan_X9_endOf : GoodIn wsX9_scan wsX9_endOf := goodIn_sub (fa_c (me_s (me_l (me_l (List.mem_of_getElem? (i := 13) rfl)))) (fa_a (fa_c (me_s (me_l (me_l (List.mem_of_getElem? (i := 0) rfl)))) (fa_c (me_s (me_l (me_l (List.mem_of_getElem? (i := 14) rfl)))) (fa_c (me_s (me_l (me_l (List.mem_of_getElem? (i := 15) rfl)))) (fa_c (me_s (me_l (me_l (List.mem_of_getElem? (i := 12) rfl)))) (fa_c (me_s (me_l (me_l (List.mem_of_getElem? (i := 16) rfl)))) (fa_c (me_s (me_l (me_l (List.mem_of_getElem? (i := 17) rfl)))) (fa_c (me_s (me_l (me_l (List.mem_of_getElem? (i := 18) rfl)))) (fa_c (me_s (me_l (me_l (List.mem_of_getElem? (i := 19) rfl)))) fa_n)))))))) (fun w h => (me_s (me_r h))))) (by decide +kernel)
set_option maxRecDepth 20000 in
theorem gX9_scan_X9_endOf : GoodIn wsX9_scan (wsV RX9 112 RX9 yX9_endOf wsX9_endOf) := goodIn_app (goodIn_sub (fa_c (me_s (me_l (me_l (List.mem_of_getElem? (i := 9) rfl)))) (fa_c (me_s (me_l (me_l (List.mem_of_getElem? (i := 10) rfl)))) (fa_c (me_s (me_l (me_l (List.mem_of_getElem? (i := 11) rfl)))) (fa_c (me_s (me_l (me_l (List.mem_of_getElem? (i := 12) rfl)))) fa_n)))) (by decide +kernel)) ggX9_scan_X9_endOf
theorem dX9_scan_28 : decode cX9_scan 28 = .ok (.invokevirtual 112, 3) := z_dd_182 (by decide +kernel)
theorem dX9_scan_31 : decode cX9_scan 31 = .ok (.istore_n 3, 1) := z_dd_62 (by decide +kernel)
theorem dX9_scan_32 : decode cX9_scan 32 = .ok (.aload_n 0, 1) := z_dd_42 (by decide +kernel)
theorem dX9_scan_33 : decode cX9_scan 33 = .ok (.getfield 9, 3) := z_dd_180 (by decide +kernel)
theorem dX9_scan_36 : decode cX9_scan 36 = .ok (.iload 4, 2) := z_dd_21 (by decide +kernel)
theorem dX9_scan_38 : decode cX9_scan 38 = .ok (.iaload, 1) := z_dd_46 (by decide +kernel)
set_option maxRecDepth 20000 in
theorem ggX9_scan_X9_isBlank : GoodIn wsX9_scan wsX9_isBlank := goodIn_sub (fa_c (me_s (me_l (me_l (List.mem_of_getElem? (i := 22) rfl)))) fa_n) (by decide +kernel)
set_option maxRecDepth 20000 in
theorem gX9_scan_X9_isBlank : GoodIn wsX9_scan (va_wsS RX9 115 yX9_isBlank wsX9_isBlank) := goodIn_app (goodIn_sub (fa_c (me_s (me_l (me_l (List.mem_of_getElem? (i := 20) rfl)))) (fa_c (me_s (me_l (me_l (List.mem_of_getElem? (i := 21) rfl)))) (fa_c (me_s (me_l (me_l (List.mem_of_getElem? (i := 12) rfl)))) fa_n))) (by decide +kernel)) ggX9_scan_X9_isBlank
theorem dX9_scan_39 : decode cX9_scan 39 = .ok (.invokestatic 115, 3) := z_dd_184 (by decide +kernel)
theorem dX9_scan_42 : decode cX9_scan 42 = .ok (.ifCond .ne 23, 3) := z_dd_154 (by decide +kernel)
theorem dX9_scan_65 : decode cX9_scan 65 = .ok (.iload_n 3, 1) := z_dd_29 (by decide +kernel)
theorem dX9_scan_66 : decode cX9_scan 66 = .ok (.iload 4, 2) := z_dd_21 (by decide +kernel)
theorem dX9_scan_68 : decode cX9_scan 68 = .ok (.iconst 1, 1) := z_dd_4 (by decide +kernel)
theorem dX9_scan_69 : decode cX9_scan 69 = .ok (.iadd, 1) := z_dd_96 (by decide +kernel)
theorem dX9_scan_70 : decode cX9_scan 70 = .ok (.invokestatic 128, 3) := z_dd_184 (by decide +kernel)
theorem dX9_scan_73 : decode cX9_scan 73 = .ok (.istore 4, 2) := z_dd_54 (by decide +kernel)
theorem dX9_scan_75 : decode cX9_scan 75 = .ok (.goto (-57), 3) := z_dd_167 (by decide +kernel)
theorem dX9_scan_45 : decode cX9_scan 45 = .ok (.aload_n 0, 1) := z_dd_42 (by decide +kernel)
theorem dX9_scan_46 : decode cX9_scan 46 = .ok (.aload_n 0, 1) := z_dd_42 (by decide +kernel)
theorem dX9_scan_47 : decode cX9_scan 47 = .ok (.iload 4, 2) := z_dd_21 (by decide +kernel)
theorem dX9_scan_49 : decode cX9_scan 49 = .ok (.iload_n 3, 1) := z_dd_29 (by decide +kernel)
set_option maxRecDepth 20000 in
theorem ggX9_scan_X9_tokenOf : GoodIn wsX9_scan wsX9_tokenOf := goodIn_sub (fa_c (me_s (me_l (me_r (me_l (List.mem_of_getElem? (i := 2) rfl))))) (fa_a (fa_a (fa_c (me_s (me_l (me_l (List.mem_of_getElem? (i := 0) rfl)))) (fa_c (me_s (me_l (me_l (List.mem_of_getElem? (i := 14) rfl)))) (fa_c (me_s (me_l (me_l (List.mem_of_getElem? (i := 15) rfl)))) (fa_c (me_s (me_l (me_l (List.mem_of_getElem? (i := 12) rfl)))) (fa_c (me_s (me_l (me_l (List.mem_of_getElem? (i := 16) rfl)))) (fa_c (me_s (me_l (me_r (me_l (List.mem_of_getElem? (i := 3) rfl))))) (fa_c (me_s (me_l (me_r (me_l (List.mem_of_getElem? (i := 4) rfl))))) (fa_c (me_s (me_l (me_r (me_l (List.mem_of_getElem? (i := 5) rfl))))) (fa_c (me_s (me_l (me_r (me_l (List.mem_of_getElem? (i := 6) rfl))))) (fa_c (me_s (me_l (me_r (me_l (List.mem_of_getElem? (i := 7) rfl))))) (fa_c (me_s (me_l (me_r (me_l (List.mem_of_getElem? (i := 8) rfl))))) (fa_c (me_s (me_l (me_r (me_l (List.mem_of_getElem? (i := 9) rfl))))) (fa_c (me_s (me_l (me_r (me_l (List.mem_of_getElem? (i := 10) rfl))))) (fa_c (me_s (me_l (me_r (me_l (List.mem_of_getElem? (i := 11) rfl))))) (fa_c (me_s (me_l (me_r (me_l (List.mem_of_getElem? (i := 12) rfl))))) (fa_c (me_s (me_l (me_r (me_l (List.mem_of_getElem? (i := 13) rfl))))) (fa_c (me_s (me_l (me_r (me_l (List.mem_of_getElem? (i := 14) rfl))))) (fa_c (me_s (me_l (me_r (me_l (List.mem_of_getElem? (i := 15) rfl))))) (fa_c (me_s (me_l (me_r (me_l (List.mem_of_getElem? (i := 16) rfl))))) (fa_c (me_s (me_l (me_r (me_l (List.mem_of_getElem? (i := 17) rfl))))) (fa_c (me_s (me_l (me_r (me_l (List.mem_of_getElem? (i := 18) rfl))))) (fa_c (me_s (me_l (me_r (me_l (List.mem_of_getElem? (i := 19) rfl))))) (fa_c (me_s (me_l (me_r (me_l (List.mem_of_getElem? (i := 20) rfl))))) (fa_c (me_s (me_l (me_r (me_l (List.mem_of_getElem? (i := 21) rfl))))) fa_n)))))))))))))))))))))))) (fa_a (fa_c (me_s (me_l (me_r (me_l (List.mem_of_getElem? (i := 22) rfl))))) (fa_c (me_s (me_l (me_r (me_l (List.mem_of_getElem? (i := 23) rfl))))) (fa_c (me_s (me_l (me_r (me_r (me_l (List.mem_of_getElem? (i := 0) rfl)))))) (fa_c (me_s (me_l (me_r (me_r (me_l (List.mem_of_getElem? (i := 1) rfl)))))) (fa_c (me_s (me_l (me_r (me_r (me_l (List.mem_of_getElem? (i := 2) rfl)))))) (fa_c (me_s (me_l (me_r (me_r (me_l (List.mem_of_getElem? (i := 3) rfl)))))) (fa_c (me_s (me_l (me_r (me_r (me_l (List.mem_of_getElem? (i := 4) rfl)))))) (fa_c (me_s (me_l (me_r (me_r (me_l (List.mem_of_getElem? (i := 5) rfl)))))) (fa_c (me_s (me_l (me_r (me_r (me_l (List.mem_of_getElem? (i := 6) rfl)))))) (fa_c (me_s (me_l (me_r (me_r (me_l (List.mem_of_getElem? (i := 7) rfl)))))) (fa_c (me_s (me_l (me_r (me_r (me_l (List.mem_of_getElem? (i := 8) rfl)))))) (fa_c (me_s (me_l (me_r (me_r (me_l (List.mem_of_getElem? (i := 9) rfl)))))) (fa_c (me_s (me_l (me_r (me_r (me_l (List.mem_of_getElem? (i := 10) rfl)))))) (fa_c (me_s (me_l (me_r (me_r (me_l (List.mem_of_getElem? (i := 11) rfl)))))) (fa_c (me_s (me_l (me_r (me_r (me_l (List.mem_of_getElem? (i := 12) rfl)))))) (fa_c (me_s (me_l (me_r (me_r (me_l (List.mem_of_getElem? (i := 13) rfl)))))) (fa_c (me_s (me_l (me_r (me_r (me_l (List.mem_of_getElem? (i := 14) rfl)))))) (fa_c (me_s (me_l (me_r (me_r (me_l (List.mem_of_getElem? (i := 15) rfl)))))) (fa_c (me_s (me_l (me_r (me_r (me_l (List.mem_of_getElem? (i := 16) rfl)))))) (fa_c (me_s (me_l (me_r (me_r (me_l (List.mem_of_getElem? (i := 17) rfl)))))) (fa_c (me_s (me_l (me_r (me_r (me_l (List.mem_of_getElem? (i := 18) rfl)))))) (fa_c (me_s (me_l (me_r (me_r (me_l (List.mem_of_getElem? (i := 19) rfl)))))) (fa_c (me_s (me_l (me_r (me_r (me_l (List.mem_of_getElem? (i := 20) rfl)))))) (fa_c (me_s (me_l (me_r (me_r (me_l (List.mem_of_getElem? (i := 21) rfl)))))) fa_n)))))))))))))))))))))))) (fa_c (me_s (me_l (me_r (me_r (me_l (List.mem_of_getElem? (i := 22) rfl)))))) (fa_c (me_s (me_l (me_r (me_r (me_l (List.mem_of_getElem? (i := 23) rfl)))))) (fa_c (me_s (me_l (me_r (me_r (me_r (me_l (List.mem_of_getElem? (i := 0) rfl))))))) (fa_c (me_s (me_l (me_r (me_r (me_r (me_l (List.mem_of_getElem? (i := 1) rfl))))))) (fa_c (me_s (me_l (me_r (me_r (me_r (me_l (List.mem_of_getElem? (i := 2) rfl))))))) (fa_c (me_s (me_l (me_r (me_r (me_r (me_l (List.mem_of_getElem? (i := 3) rfl))))))) (fa_c (me_s (me_l (me_r (me_r (me_r (me_l (List.mem_of_getElem? (i := 4) rfl))))))) (fa_c (me_s (me_l (me_r (me_r (me_r (me_l (List.mem_of_getElem? (i := 5) rfl))))))) (fa_c (me_s (me_l (me_r (me_r (me_r (me_l (List.mem_of_getElem? (i := 6) rfl))))))) (fa_c (me_s (me_l (me_r (me_r (me_r (me_l (List.mem_of_getElem? (i := 7) rfl))))))) (fa_c (me_s (me_l (me_r (me_r (me_r (me_l (List.mem_of_getElem? (i := 8) rfl))))))) (fa_c (me_s (me_l (me_r (me_r (me_r (me_l (List.mem_of_getElem? (i := 9) rfl))))))) (fa_c (me_s (me_l (me_r (me_r (me_r (me_l (List.mem_of_getElem? (i := 10) rfl))))))) (fa_c (me_s (me_l (me_r (me_r (me_r (me_l (List.mem_of_getElem? (i := 11) rfl))))))) (fa_c (me_s (me_l (me_r (me_r (me_r (me_l (List.mem_of_getElem? (i := 12) rfl))))))) (fa_c (me_s (me_l (me_r (me_r (me_r (me_l (List.mem_of_getElem? (i := 13) rfl))))))) (fa_c (me_s (me_l (me_r (me_r (me_r (me_l (List.mem_of_getElem? (i := 14) rfl))))))) (fa_c (me_s (me_l (me_l (List.mem_of_getElem? (i := 17) rfl)))) (fa_c (me_s (me_l (me_l (List.mem_of_getElem? (i := 18) rfl)))) (fa_c (me_s (me_l (me_l (List.mem_of_getElem? (i := 19) rfl)))) (fa_c (me_s (me_l (me_r (me_r (me_r (me_l (List.mem_of_getElem? (i := 15) rfl))))))) (fa_c (me_s (me_l (me_r (me_r (me_r (me_l (List.mem_of_getElem? (i := 16) rfl))))))) (fa_c (me_s (me_l (me_r (me_r (me_r (me_l (List.mem_of_getElem? (i := 17) rfl))))))) fa_n))))))))))))))))))))))))) (fun w h => (me_s (me_r h))))) (by decide +kernel)
set_option maxRecDepth 20000 in
theorem gX9_scan_X9_tokenOf : GoodIn wsX9_scan (wsV RX9 118 RX9 yX9_tokenOf wsX9_tokenOf) := goodIn_app (goodIn_sub (fa_c (me_s (me_l (me_l (List.mem_of_getElem? (i := 23) rfl)))) (fa_c (me_s (me_l (me_r (me_l (List.mem_of_getElem? (i := 0) rfl))))) (fa_c (me_s (me_l (me_r (me_l (List.mem_of_getElem? (i := 1) rfl))))) (fa_c (me_s (me_l (me_l (List.mem_of_getElem? (i := 12) rfl)))) fa_n)))) (by decide +kernel)) ggX9_scan_X9_tokenOf
theorem dX9_scan_50 : decode cX9_scan 50 = .ok (.invokevirtual 118, 3) := z_dd_182 (by decide +kernel)
theorem dX9_scan_53 : decode cX9_scan 53 = .ok (.iload 4, 2) := z_dd_21 (by decide +kernel)
theorem dX9_scan_55 : decode cX9_scan 55 = .ok (.aload_n 0, 1) := z_dd_42 (by decide +kernel)
theorem dX9_scan_56 : decode cX9_scan 56 = .ok (.iload 4, 2) := z_dd_21 (by decide +kernel)
theorem dX9_scan_58 : decode cX9_scan 58 = .ok (.iload_n 3, 1) := z_dd_29 (by decide +kernel)
set_option maxRecDepth 20000 in
theorem ggX9_scan_X9_numberOf : GoodIn wsX9_scan wsX9_numberOf := goodIn_sub (fa_c (me_s (me_l (me_r (me_r (me_r (me_l (List.mem_of_getElem? (i := 21) rfl))))))) (fa_a (fa_c (me_s (me_l (me_l (List.mem_of_getElem? (i := 6) rfl)))) (fa_c (me_s (me_l (me_l (List.mem_of_getElem? (i := 7) rfl)))) (fa_c (me_s (me_l (me_l (List.mem_of_getElem? (i := 3) rfl)))) (fa_c (me_s (me_l (me_l (List.mem_of_getElem? (i := 8) rfl)))) (fa_c (me_s (me_l (me_l (List.mem_of_getElem? (i := 0) rfl)))) (fa_c (me_s (me_l (me_l (List.mem_of_getElem? (i := 17) rfl)))) (fa_c (me_s (me_l (me_l (List.mem_of_getElem? (i := 18) rfl)))) (fa_c (me_s (me_l (me_l (List.mem_of_getElem? (i := 12) rfl)))) (fa_c (me_s (me_l (me_l (List.mem_of_getElem? (i := 19) rfl)))) fa_n))))))))) (fun w h => (me_s (me_r h))))) (by decide +kernel)
set_option maxRecDepth 20000 in
theorem gX9_scan_X9_numberOf : GoodIn wsX9_scan (wsV RX9 121 RX9 yX9_numberOf wsX9_numberOf) := goodIn_app (goodIn_sub (fa_c (me_s (me_l (me_r (me_r (me_r (me_l (List.mem_of_getElem? (i := 18) rfl))))))) (fa_c (me_s (me_l (me_r (me_r (me_r (me_l (List.mem_of_getElem? (i := 19) rfl))))))) (fa_c (me_s (me_l (me_r (me_r (me_r (me_l (List.mem_of_getElem? (i := 20) rfl))))))) (fa_c (me_s (me_l (me_l (List.mem_of_getElem? (i := 12) rfl)))) fa_n)))) (by decide +kernel)) ggX9_scan_X9_numberOf
theorem dX9_scan_59 : decode cX9_scan 59 = .ok (.invokevirtual 121, 3) := z_dd_182 (by decide +kernel)
theorem dX9_scan_62 : decode cX9_scan 62 = .ok (.invokevirtual 124, 3) := z_dd_182 (by decide +kernel)
theorem z_l304 : (304 : Int32).toInt = 304 := by decide
theorem z_l305 : (305 : Int32).toInt = 305 := by decide
theorem z_l306 : (306 : Int32).toInt = 306 := by decide
theorem z_l315 : (315 : Int32).toInt = 315 := by decide
theorem z_l316 : (316 : Int32).toInt = 316 := by decide
theorem z_l317 : (317 : Int32).toInt = 317 := by decide
theorem z_l318 : (318 : Int32).toInt = 318 := by decide
theorem z_l319 : (319 : Int32).toInt = 319 := by decide
set_option maxHeartbeats 8000000 in
set_option maxRecDepth 100000 in
theorem sx_X9_isBlank (l : Launch) (G : z_G) (ad : Nat → Nat) (c : z_C) (I : z_I) (a1 : Int32) : z_M l yX9_isBlank wsX9_isBlank { frames := 1, cells := 0, slots := 0, locals := 12 } [.int a1] G (shC c, ad, I, JX, PC c ad) (fun r u1 => u1 = (shC c, ad, I, JX, PC c ad) ∧ (r = 1 ∨ r = 0)) 0 0 := by
  intro sz
  refine z_headQ (cc := cX9_isBlank) (maxL := 1) (ret := (some .boolean)) (by decide) rfl (Nat.le_of_ble_eq_true rfl) ?_
  intro p e s m below meth c0 ls hIn hK hsz hW hl
  obtain ⟨hx, hb, hr, hml, hown, hts, hlocks, hname⟩ := hIn
  subst hsz
  have hown : s.vm.findClass RX9 = some m.cls := hown
  have hA : ∀ q : Nat, s.heap.size ≤ q → z_A (shC c, ad, I, JX, PC c ad) s.heap.size q := fun q h => Or.inr h
  generalize hAe : z_A (shC c, ad, I, JX, PC c ad) s.heap.size = A at *
  have hS : va_S A s.heap s.heap [] := va_S.rf
  have hl : lv_has ls 1 [(0, .int a1)] := hl
  refine lv_iload_n hx hb dX9_isBlank_0 rfl (lv_at hl 0 rfl) ?_
  refine lv_bipush (v := 32) hx hb dX9_isBlank_1 (by decide) ?_
  refine lv_icmp_eq (tgt := 12) hx hb dX9_isBlank_3 (by decide) (fun c1 => ?_) (fun c1 => ?_)
  · have g2 := z_f_eq rfl z_l32 c1
    have b3 := Int32.toInt_lt a1
    refine lv_iconst (v := 1) hx hb dX9_isBlank_12 (by decide) ?_
    refine lv_goto (tgt := 17) hx hb dX9_isBlank_13 (by decide) ?_
    exact z_zret hx hb hr (by decide) hK hS (Nat.le_of_ble_eq_true rfl) (Nat.le_of_ble_eq_true rfl) hlocks dX9_isBlank_17 (shC c, ad, I, JX, PC c ad) hW ⟨rfl, Or.inl rfl⟩
  · have g4 := z_f_ne rfl z_l32 c1
    have b5 := Int32.toInt_lt a1
    refine lv_iload_n hx hb dX9_isBlank_6 rfl (lv_at hl 0 rfl) ?_
    refine lv_bipush (v := 10) hx hb dX9_isBlank_7 (by decide) ?_
    refine lv_icmp_ne (tgt := 16) hx hb dX9_isBlank_9 (by decide) (fun c6 => ?_) (fun c6 => ?_)
    · have g7 := z_f_ne rfl z_l10 c6
      refine lv_iconst (v := 0) hx hb dX9_isBlank_16 (by decide) ?_
      exact z_zret hx hb hr (by decide) hK hS (Nat.le_of_ble_eq_true rfl) (Nat.le_of_ble_eq_true rfl) hlocks dX9_isBlank_17 (shC c, ad, I, JX, PC c ad) hW ⟨rfl, Or.inr rfl⟩
    · have g8 := z_f_eq rfl z_l10 c6
      refine lv_iconst (v := 1) hx hb dX9_isBlank_12 (by decide) ?_
      refine lv_goto (tgt := 17) hx hb dX9_isBlank_13 (by decide) ?_
      exact z_zret hx hb hr (by decide) hK hS (Nat.le_of_ble_eq_true rfl) (Nat.le_of_ble_eq_true rfl) hlocks dX9_isBlank_17 (shC c, ad, I, JX, PC c ad) hW ⟨rfl, Or.inl rfl⟩
set_option maxHeartbeats 8000000 in
set_option maxRecDepth 100000 in
theorem sx_X9_isLetter (l : Launch) (G : z_G) (ad : Nat → Nat) (c : z_C) (I : z_I) (a1 : Int32) : z_M l yX9_isLetter wsX9_isLetter { frames := 1, cells := 0, slots := 0, locals := 12 } [.int a1] G (shC c, ad, I, JX, PC c ad) (fun r u1 => u1 = (shC c, ad, I, JX, PC c ad) ∧ (r = 1 ∨ r = 0)) 0 0 := by
  intro sz
  refine z_headQ (cc := cX9_isLetter) (maxL := 1) (ret := (some .boolean)) (by decide) rfl (Nat.le_of_ble_eq_true rfl) ?_
  intro p e s m below meth c0 ls hIn hK hsz hW hl
  obtain ⟨hx, hb, hr, hml, hown, hts, hlocks, hname⟩ := hIn
  subst hsz
  have hown : s.vm.findClass RX9 = some m.cls := hown
  have hA : ∀ q : Nat, s.heap.size ≤ q → z_A (shC c, ad, I, JX, PC c ad) s.heap.size q := fun q h => Or.inr h
  generalize hAe : z_A (shC c, ad, I, JX, PC c ad) s.heap.size = A at *
  have hS : va_S A s.heap s.heap [] := va_S.rf
  have hl : lv_has ls 1 [(0, .int a1)] := hl
  refine lv_iload_n hx hb dX9_isLetter_0 rfl (lv_at hl 0 rfl) ?_
  refine lv_bipush (v := 97) hx hb dX9_isLetter_1 (by decide) ?_
  refine lv_icmp_lt (tgt := 16) hx hb dX9_isLetter_3 (by decide) (fun c1 => ?_) (fun c1 => ?_)
  · have g2 := z_f_lt rfl z_l97 c1
    have b3 := Int32.toInt_lt a1
    refine lv_iconst (v := 0) hx hb dX9_isLetter_16 (by decide) ?_
    exact z_zret hx hb hr (by decide) hK hS (Nat.le_of_ble_eq_true rfl) (Nat.le_of_ble_eq_true rfl) hlocks dX9_isLetter_17 (shC c, ad, I, JX, PC c ad) hW ⟨rfl, Or.inr rfl⟩
  · have g4 := z_f_nlt rfl z_l97 c1
    have b5 := Int32.toInt_lt a1
    refine lv_iload_n hx hb dX9_isLetter_6 rfl (lv_at hl 0 rfl) ?_
    refine lv_bipush (v := 122) hx hb dX9_isLetter_7 (by decide) ?_
    refine lv_icmp_gt (tgt := 16) hx hb dX9_isLetter_9 (by decide) (fun c6 => ?_) (fun c6 => ?_)
    · have g7 := z_f_gt rfl z_l122 c6
      refine lv_iconst (v := 0) hx hb dX9_isLetter_16 (by decide) ?_
      exact z_zret hx hb hr (by decide) hK hS (Nat.le_of_ble_eq_true rfl) (Nat.le_of_ble_eq_true rfl) hlocks dX9_isLetter_17 (shC c, ad, I, JX, PC c ad) hW ⟨rfl, Or.inr rfl⟩
    · have g8 := z_f_ngt rfl z_l122 c6
      refine lv_iconst (v := 1) hx hb dX9_isLetter_12 (by decide) ?_
      refine lv_goto (tgt := 17) hx hb dX9_isLetter_13 (by decide) ?_
      exact z_zret hx hb hr (by decide) hK hS (Nat.le_of_ble_eq_true rfl) (Nat.le_of_ble_eq_true rfl) hlocks dX9_isLetter_17 (shC c, ad, I, JX, PC c ad) hW ⟨rfl, Or.inl rfl⟩
set_option maxHeartbeats 8000000 in
set_option maxRecDepth 100000 in
theorem sx_X9_isDigit (l : Launch) (G : z_G) (ad : Nat → Nat) (c : z_C) (I : z_I) (a1 : Int32) : z_M l yX9_isDigit wsX9_isDigit { frames := 1, cells := 0, slots := 0, locals := 12 } [.int a1] G (shC c, ad, I, JX, PC c ad) (fun r u1 => u1 = (shC c, ad, I, JX, PC c ad) ∧ (r = 1 ∨ r = 0)) 0 0 := by
  intro sz
  refine z_headQ (cc := cX9_isDigit) (maxL := 1) (ret := (some .boolean)) (by decide) rfl (Nat.le_of_ble_eq_true rfl) ?_
  intro p e s m below meth c0 ls hIn hK hsz hW hl
  obtain ⟨hx, hb, hr, hml, hown, hts, hlocks, hname⟩ := hIn
  subst hsz
  have hown : s.vm.findClass RX9 = some m.cls := hown
  have hA : ∀ q : Nat, s.heap.size ≤ q → z_A (shC c, ad, I, JX, PC c ad) s.heap.size q := fun q h => Or.inr h
  generalize hAe : z_A (shC c, ad, I, JX, PC c ad) s.heap.size = A at *
  have hS : va_S A s.heap s.heap [] := va_S.rf
  have hl : lv_has ls 1 [(0, .int a1)] := hl
  refine lv_iload_n hx hb dX9_isDigit_0 rfl (lv_at hl 0 rfl) ?_
  refine lv_bipush (v := 48) hx hb dX9_isDigit_1 (by decide) ?_
  refine lv_icmp_lt (tgt := 16) hx hb dX9_isDigit_3 (by decide) (fun c1 => ?_) (fun c1 => ?_)
  · have g2 := z_f_lt rfl z_l48 c1
    have b3 := Int32.toInt_lt a1
    refine lv_iconst (v := 0) hx hb dX9_isDigit_16 (by decide) ?_
    exact z_zret hx hb hr (by decide) hK hS (Nat.le_of_ble_eq_true rfl) (Nat.le_of_ble_eq_true rfl) hlocks dX9_isDigit_17 (shC c, ad, I, JX, PC c ad) hW ⟨rfl, Or.inr rfl⟩
  · have g4 := z_f_nlt rfl z_l48 c1
    have b5 := Int32.toInt_lt a1
    refine lv_iload_n hx hb dX9_isDigit_6 rfl (lv_at hl 0 rfl) ?_
    refine lv_bipush (v := 57) hx hb dX9_isDigit_7 (by decide) ?_
    refine lv_icmp_gt (tgt := 16) hx hb dX9_isDigit_9 (by decide) (fun c6 => ?_) (fun c6 => ?_)
    · have g7 := z_f_gt rfl z_l57 c6
      refine lv_iconst (v := 0) hx hb dX9_isDigit_16 (by decide) ?_
      exact z_zret hx hb hr (by decide) hK hS (Nat.le_of_ble_eq_true rfl) (Nat.le_of_ble_eq_true rfl) hlocks dX9_isDigit_17 (shC c, ad, I, JX, PC c ad) hW ⟨rfl, Or.inr rfl⟩
    · have g8 := z_f_ngt rfl z_l57 c6
      refine lv_iconst (v := 1) hx hb dX9_isDigit_12 (by decide) ?_
      refine lv_goto (tgt := 17) hx hb dX9_isDigit_13 (by decide) ?_
      exact z_zret hx hb hr (by decide) hK hS (Nat.le_of_ble_eq_true rfl) (Nat.le_of_ble_eq_true rfl) hlocks dX9_isDigit_17 (shC c, ad, I, JX, PC c ad) hW ⟨rfl, Or.inl rfl⟩
set_option maxHeartbeats 8000000 in
set_option maxRecDepth 100000 in
theorem sx_X9_isSign (l : Launch) (G : z_G) (ad : Nat → Nat) (c : z_C) (I : z_I) (a1 : Int32) : z_M l yX9_isSign wsX9_isSign { frames := 1, cells := 0, slots := 0, locals := 12 } [.int a1] G (shC c, ad, I, JX, PC c ad) (fun r u1 => u1 = (shC c, ad, I, JX, PC c ad) ∧ (r = 1 ∨ r = 0)) 0 0 := by
  intro sz
  refine z_headQ (cc := cX9_isSign) (maxL := 1) (ret := (some .boolean)) (by decide) rfl (Nat.le_of_ble_eq_true rfl) ?_
  intro p e s m below meth c0 ls hIn hK hsz hW hl
  obtain ⟨hx, hb, hr, hml, hown, hts, hlocks, hname⟩ := hIn
  subst hsz
  have hown : s.vm.findClass RX9 = some m.cls := hown
  have hA : ∀ q : Nat, s.heap.size ≤ q → z_A (shC c, ad, I, JX, PC c ad) s.heap.size q := fun q h => Or.inr h
  generalize hAe : z_A (shC c, ad, I, JX, PC c ad) s.heap.size = A at *
  have hS : va_S A s.heap s.heap [] := va_S.rf
  have hl : lv_has ls 1 [(0, .int a1)] := hl
  refine lv_iload_n hx hb dX9_isSign_0 rfl (lv_at hl 0 rfl) ?_
  rcases z_lkS (a1 : Int32).toInt with h1 | h1
  · refine lv_lookup (off := 115) (tgt := 116) hx hb dX9_isSign_1 (by decide) h1 (by decide) ?_
    refine lv_iconst (v := 1) hx hb dX9_isSign_116 (by decide) ?_
    exact z_zret hx hb hr (by decide) hK hS (Nat.le_of_ble_eq_true rfl) (Nat.le_of_ble_eq_true rfl) hlocks dX9_isSign_117 (shC c, ad, I, JX, PC c ad) hW ⟨rfl, Or.inl rfl⟩
  · refine lv_lookup (off := 117) (tgt := 118) hx hb dX9_isSign_1 (by decide) h1 (by decide) ?_
    refine lv_iconst (v := 0) hx hb dX9_isSign_118 (by decide) ?_
    exact z_zret hx hb hr (by decide) hK hS (Nat.le_of_ble_eq_true rfl) (Nat.le_of_ble_eq_true rfl) hlocks dX9_isSign_119 (shC c, ad, I, JX, PC c ad) hW ⟨rfl, Or.inr rfl⟩
noncomputable def L_X9_addToken : z_L := [(14, 999), (16, 999), (15, 999), (12, 5)]
theorem zj_X9_addToken_X9 : ∀ w ∈ wsX90, w ∈ wsX9_addToken := fun w h => (List.mem_cons_of_mem _ (List.mem_append_right _ h))
set_option maxHeartbeats 8000000 in
set_option maxRecDepth 100000 in
theorem sx_X9_addToken (l : Launch) (G : z_G) (ad : Nat → Nat) (c : z_C) (I : z_I) (hR : z_iR I) (a1 : Int32) (a2 : Int32) (a3 : Int32) : z_Mv l yX9_addToken wsX9_addToken { frames := 1, cells := 0, slots := 0, locals := 12 } [.ref (ad 12), .int a1, .int a2, .int a3] G (shC c, ad, I, JX, PC c ad) (fun u1 => ∃ I1 : z_I, u1 = (shC c, ad, I1, JX, PC c ad) ∧ z_iR I1 ∧ z_fr L_X9_addToken I1 I) 0 0 := by
  intro sz
  refine z_headQ (cc := cX9_addToken) (maxL := 4) (ret := none) (by decide) rfl (Nat.le_of_ble_eq_true rfl) ?_
  intro p e s m below meth c0 ls hIn hK hsz hW hl
  obtain ⟨hx, hb, hr, hml, hown, hts, hlocks, hname⟩ := hIn
  subst hsz
  have hown : s.vm.findClass RX9 = some m.cls := hown
  have hA : ∀ q : Nat, s.heap.size ≤ q → z_A (shC c, ad, I, JX, PC c ad) s.heap.size q := fun q h => Or.inr h
  generalize hAe : z_A (shC c, ad, I, JX, PC c ad) s.heap.size = A at *
  have hS : va_S A s.heap s.heap [] := va_S.rf
  have hl : lv_has ls 4 [(0, .ref (ad 12)), (1, .int a1), (2, .int a2), (3, .int a3)] := hl
  refine lv_aload_n hx hb dX9_addToken_0 rfl (lv_at hl 0 rfl) ?_
  have r1 : 0 ≤ (I 12 5).toInt ∧ (I 12 5).toInt ≤ 501 := hR.2.1
  refine z_get (T := TX9) (N := 14) (ci := 9) (i := 12) (v := .int (I 12 5)) hx hb hts zj_X9_addToken_X9 hown hK hW rfl rfl 5 (by decide) (hts (.fieldLink RX9 76 "PetrolBoard$Reader" "scanned" "I") (me_s (me_l (List.mem_of_getElem? (i := 0) rfl)))) (fun _ h => h) rfl dX9_addToken_1 ?_
  refine lv_aload_n hx hb dX9_addToken_4 rfl (lv_at hl 0 rfl) ?_
  refine z_get (T := TX9) (N := 14) (ci := 9) (i := 12) (v := .ref (ad 14)) hx hb hts zj_X9_addToken_X9 hown hK hW rfl rfl 2 (by decide) (hts (.fieldLink RX9 15 "PetrolBoard$Reader" "tokens" "[I") (me_s (me_l (List.mem_of_getElem? (i := 1) rfl)))) (fun _ h => h) rfl dX9_addToken_5 ?_
  refine z_alen (i := 14) (v := 501) hx hb hK hW rfl (by simp [z_tys]) (by rfl) dX9_addToken_8 ?_
  refine lv_icmp_ge (tgt := 52) hx hb dX9_addToken_9 (by decide) (fun c2 => ?_) (fun c2 => ?_)
  · have g3 := z_f_ge rfl z_l501 c2
    exact z_vret hx hb hr hK hS (Nat.le_of_ble_eq_true rfl) (Nat.le_of_ble_eq_true rfl) hlocks dX9_addToken_52 (shC c, ad, I, JX, PC c ad) hW ⟨I, rfl, ⟨(by show 0 ≤ (I 12 1).toInt ∧ (I 12 1).toInt ≤ 500; exact hR.1), (by show 0 ≤ (I 12 5).toInt ∧ (I 12 5).toInt ≤ 501; exact hR.2.1), (by show (-1) ≤ (I 12 6).toInt ∧ (I 12 6).toInt ≤ 1000000; exact hR.2.2.1), (by show 0 ≤ (I 12 9).toInt ∧ (I 12 9).toInt ≤ 500; exact hR.2.2.2.1), (by show 0 ≤ (I 12 13).toInt ∧ (I 12 13).toInt ≤ 24; exact hR.2.2.2.2)⟩, z_fr_0⟩
  · have g4 := z_f_nge rfl z_l501 c2
    refine lv_aload_n hx hb dX9_addToken_12 rfl (lv_at hl 0 rfl) ?_
    refine z_get (T := TX9) (N := 14) (ci := 9) (i := 12) (v := .ref (ad 14)) hx hb hts zj_X9_addToken_X9 hown hK hW rfl rfl 2 (by decide) (hts (.fieldLink RX9 15 "PetrolBoard$Reader" "tokens" "[I") (me_s (me_l (List.mem_of_getElem? (i := 1) rfl)))) (fun _ h => h) rfl dX9_addToken_13 ?_
    refine lv_aload_n hx hb dX9_addToken_16 rfl (lv_at hl 0 rfl) ?_
    refine z_get (T := TX9) (N := 14) (ci := 9) (i := 12) (v := .int (I 12 5)) hx hb hts zj_X9_addToken_X9 hown hK hW rfl rfl 5 (by decide) (hts (.fieldLink RX9 76 "PetrolBoard$Reader" "scanned" "I") (me_s (me_l (List.mem_of_getElem? (i := 0) rfl)))) (fun _ h => h) rfl dX9_addToken_17 ?_
    refine lv_iload_n hx hb dX9_addToken_20 rfl (lv_at hl 1 rfl) ?_
    refine z_iast (i := 14) hx hb hK hW hS rfl (z_ix rfl (by omega) (by omega)) dX9_addToken_21 (fun H locs hz1 hW hS => ?_)
    obtain ⟨I5, eI5⟩ : ∃ K : z_I, K = z_up I 14 (I 12 5).toNatClampNeg a1 := ⟨_, rfl⟩
    rw [← eI5] at hW
    have f6 := z_fr_a z_fr_0 (show z_wa L_X9_addToken 14 = true by decide) eI5
    refine lv_aload_n hx hb dX9_addToken_22 rfl (lv_at hl 0 rfl) ?_
    refine z_get (T := TX9) (N := 14) (ci := 9) (i := 12) (v := .ref (ad 16)) hx hb hts zj_X9_addToken_X9 hown hK hW rfl rfl 4 (by decide) (hts (.fieldLink RX9 21 "PetrolBoard$Reader" "places" "[I") (me_s (me_l (List.mem_of_getElem? (i := 2) rfl)))) (fun _ h => h) rfl dX9_addToken_23 ?_
    refine lv_aload_n hx hb dX9_addToken_26 rfl (lv_at hl 0 rfl) ?_
    refine z_get (T := TX9) (N := 14) (ci := 9) (i := 12) (v := .int (I 12 5)) hx hb hts zj_X9_addToken_X9 hown hK hW rfl rfl 5 (by decide) (hts (.fieldLink RX9 76 "PetrolBoard$Reader" "scanned" "I") (me_s (me_l (List.mem_of_getElem? (i := 0) rfl)))) (fun _ h => h) (congrArg Value.int (by rw [eI5, z_up_n (by decide)])) dX9_addToken_27 ?_
    refine lv_iload_n hx hb dX9_addToken_30 rfl (lv_at hl 2 rfl) ?_
    refine z_iast (i := 16) hx hb hK hW hS rfl (z_ix rfl (by omega) (by omega)) dX9_addToken_31 (fun H locs hz1 hW hS => ?_)
    obtain ⟨I7, eI7⟩ : ∃ K : z_I, K = z_up I5 16 (I 12 5).toNatClampNeg a2 := ⟨_, rfl⟩
    rw [← eI7] at hW
    have f8 := z_fr_a f6 (show z_wa L_X9_addToken 16 = true by decide) eI7
    refine lv_aload_n hx hb dX9_addToken_32 rfl (lv_at hl 0 rfl) ?_
    refine z_get (T := TX9) (N := 14) (ci := 9) (i := 12) (v := .ref (ad 15)) hx hb hts zj_X9_addToken_X9 hown hK hW rfl rfl 3 (by decide) (hts (.fieldLink RX9 18 "PetrolBoard$Reader" "values" "[I") (me_s (me_l (List.mem_of_getElem? (i := 3) rfl)))) (fun _ h => h) rfl dX9_addToken_33 ?_
    refine lv_aload_n hx hb dX9_addToken_36 rfl (lv_at hl 0 rfl) ?_
    refine z_get (T := TX9) (N := 14) (ci := 9) (i := 12) (v := .int (I 12 5)) hx hb hts zj_X9_addToken_X9 hown hK hW rfl rfl 5 (by decide) (hts (.fieldLink RX9 76 "PetrolBoard$Reader" "scanned" "I") (me_s (me_l (List.mem_of_getElem? (i := 0) rfl)))) (fun _ h => h) (congrArg Value.int (by rw [eI7, z_up_n (by decide), eI5, z_up_n (by decide)])) dX9_addToken_37 ?_
    refine lv_iload_n hx hb dX9_addToken_40 rfl (lv_at hl 3 rfl) ?_
    refine z_iast (i := 15) hx hb hK hW hS rfl (z_ix rfl (by omega) (by omega)) dX9_addToken_41 (fun H locs hz1 hW hS => ?_)
    obtain ⟨I9, eI9⟩ : ∃ K : z_I, K = z_up I7 15 (I 12 5).toNatClampNeg a3 := ⟨_, rfl⟩
    rw [← eI9] at hW
    have f10 := z_fr_a f8 (show z_wa L_X9_addToken 15 = true by decide) eI9
    refine lv_aload_n hx hb dX9_addToken_42 rfl (lv_at hl 0 rfl) ?_
    refine lv_dup hx hb dX9_addToken_43 rfl ?_
    refine z_get (T := TX9) (N := 14) (ci := 9) (i := 12) (v := .int (I 12 5)) hx hb hts zj_X9_addToken_X9 hown hK hW rfl rfl 5 (by decide) (hts (.fieldLink RX9 76 "PetrolBoard$Reader" "scanned" "I") (me_s (me_l (List.mem_of_getElem? (i := 0) rfl)))) (fun _ h => h) (congrArg Value.int (by rw [eI9, z_up_n (by decide), eI7, z_up_n (by decide), eI5, z_up_n (by decide)])) dX9_addToken_44 ?_
    refine lv_iconst (v := 1) hx hb dX9_addToken_47 (by decide) ?_
    refine lv_iadd hx hb dX9_addToken_48 ?_
    refine lv_topi (fun x11 ex11 => ?_)
    have tx11 : x11.toInt = (I 12 5).toInt + 1 := z_tadd ex11 rfl z_l1 (by omega) (by omega)
    refine z_put (T := TX9) (N := 14) (ci := 9) (i := 12) (v := .int x11) (I1 := z_up I9 12 5 x11) (J1 := JX) (P1 := PC c ad) hx hb hts zj_X9_addToken_X9 tyX9 tyX9_ok nmX9 hown hK hW hS rfl rfl 5 (by decide) (hts (.fieldLink RX9 76 "PetrolBoard$Reader" "scanned" "I") (me_s (me_l (List.mem_of_getElem? (i := 0) rfl)))) (fun _ h => h) rfl rfl rfl (by first | rfl | exact congrArg _ z_up_s) (fun a b h ty => z_vI h ty) dX9_addToken_49 (fun H locs hz1 hW hS => ?_)
    obtain ⟨I12, eI12⟩ : ∃ K : z_I, K = z_up I9 12 5 x11 := ⟨_, rfl⟩
    rw [← eI12] at hW
    have f13 := z_fr_k f10 (show z_wr L_X9_addToken 12 5 = true by decide) eI12
    exact z_vret hx hb hr hK hS (Nat.le_of_ble_eq_true rfl) (Nat.le_of_ble_eq_true rfl) hlocks dX9_addToken_52 (shC c, ad, I12, JX, PC c ad) hW ⟨I12, rfl, ⟨(by show 0 ≤ (I12 12 1).toInt ∧ (I12 12 1).toInt ≤ 500; rw [eI12, z_up_k (by decide), eI9, z_up_n (by decide), eI7, z_up_n (by decide), eI5, z_up_n (by decide)]; exact hR.1), (by show 0 ≤ (I12 12 5).toInt ∧ (I12 12 5).toInt ≤ 501; rw [eI12, z_up_s]; omega), (by show (-1) ≤ (I12 12 6).toInt ∧ (I12 12 6).toInt ≤ 1000000; rw [eI12, z_up_k (by decide), eI9, z_up_n (by decide), eI7, z_up_n (by decide), eI5, z_up_n (by decide)]; exact hR.2.2.1), (by show 0 ≤ (I12 12 9).toInt ∧ (I12 12 9).toInt ≤ 500; rw [eI12, z_up_k (by decide), eI9, z_up_n (by decide), eI7, z_up_n (by decide), eI5, z_up_n (by decide)]; exact hR.2.2.2.1), (by show 0 ≤ (I12 12 13).toInt ∧ (I12 12 13).toInt ≤ 24; rw [eI12, z_up_k (by decide), eI9, z_up_n (by decide), eI7, z_up_n (by decide), eI5, z_up_n (by decide)]; exact hR.2.2.2.2)⟩, f13⟩
theorem zj_X9_endOf_X9 : ∀ w ∈ wsX90, w ∈ wsX9_endOf := fun w h => (List.mem_cons_of_mem _ (List.mem_append_right _ h))
set_option maxHeartbeats 8000000 in
set_option maxRecDepth 100000 in
theorem sx_X9_endOf (l : Launch) (G : z_G) (ad : Nat → Nat) (c : z_C) (I : z_I) (a1 : Int32) (a2 : Int32) (q1 : 0 ≤ a1.toInt ∧ a1.toInt ≤ 499) (q2 : 0 ≤ a2.toInt ∧ a2.toInt ≤ 500) : z_M l yX9_endOf wsX9_endOf { frames := 2, cells := 0, slots := 0, locals := 32 } [.ref (ad 12), .int a1, .int a2] G (shC c, ad, I, JX, PC c ad) (fun r u1 => u1 = (shC c, ad, I, JX, PC c ad) ∧ (a1.toInt + 1 ≤ r.toInt ∧ r.toInt ≤ 500)) 0 0 := by
  intro sz
  refine z_headQ (cc := cX9_endOf) (maxL := 5) (ret := (some .int)) (by decide) rfl (Nat.le_of_ble_eq_true rfl) ?_
  intro p e s m below meth c0 ls hIn hK hsz hW hl
  obtain ⟨hx, hb, hr, hml, hown, hts, hlocks, hname⟩ := hIn
  subst hsz
  have hown : s.vm.findClass RX9 = some m.cls := hown
  have hA : ∀ q : Nat, s.heap.size ≤ q → z_A (shC c, ad, I, JX, PC c ad) s.heap.size q := fun q h => Or.inr h
  generalize hAe : z_A (shC c, ad, I, JX, PC c ad) s.heap.size = A at *
  have hS : va_S A s.heap s.heap [] := va_S.rf
  have hl : lv_has ls 5 [(0, .ref (ad 12)), (1, .int a1), (2, .int a2)] := hl
  refine lv_iload_n hx hb dX9_endOf_0 rfl (lv_at hl 1 rfl) ?_
  refine lv_iconst (v := 1) hx hb dX9_endOf_1 (by decide) ?_
  refine lv_iadd hx hb dX9_endOf_2 ?_
  refine lv_topi (fun x1 ex1 => ?_)
  have tx1 : x1.toInt = a1.toInt + 1 := z_tadd ex1 rfl z_l1 (by omega) (by omega)
  refine lv_istore_n (lv' := [(3, .int x1), (0, .ref (ad 12)), (1, .int a1), (2, .int a2)]) hx hb dX9_endOf_3 rfl hl (by decide) rfl (fun ls hl => ?_)
  refine lv_iload_n hx hb dX9_endOf_4 rfl (lv_at hl 2 rfl) ?_
  refine lv_if_lt (tgt := 17) hx hb dX9_endOf_5 (by decide) (fun c2 => (by have g := z_f_lt rfl z_l0 c2; omega)) (fun c2 => ?_)
  have g3 := z_f_nlt rfl z_l0 c2
  refine lv_iload_n hx hb dX9_endOf_8 rfl (lv_at hl 2 rfl) ?_
  refine lv_aload_n hx hb dX9_endOf_9 rfl (lv_at hl 1 rfl) ?_
  refine z_get (T := TX9) (N := 14) (ci := 9) (i := 12) (v := .ref (ad 13)) hx hb hts zj_X9_endOf_X9 hown hK hW rfl rfl 0 (by decide) (hts (.fieldLink RX9 9 "PetrolBoard$Reader" "text" "[I") (me_s (me_l (List.mem_of_getElem? (i := 0) rfl)))) (fun _ h => h) rfl dX9_endOf_10 ?_
  refine z_alen (i := 13) (v := 500) hx hb hK hW rfl (by simp [z_tys]) (by rfl) dX9_endOf_13 ?_
  refine lv_icmp_lt (tgt := 19) hx hb dX9_endOf_14 (by decide) (fun c4 => ?_) (fun c4 => (by have g := z_f_nlt rfl z_l500 c4; omega))
  have g5 := z_f_lt rfl z_l500 c4
  refine lv_aload_n hx hb dX9_endOf_19 rfl (lv_at hl 1 rfl) ?_
  refine z_get (T := TX9) (N := 14) (ci := 9) (i := 12) (v := .ref (ad 13)) hx hb hts zj_X9_endOf_X9 hown hK hW rfl rfl 0 (by decide) (hts (.fieldLink RX9 9 "PetrolBoard$Reader" "text" "[I") (me_s (me_l (List.mem_of_getElem? (i := 0) rfl)))) (fun _ h => h) rfl dX9_endOf_20 ?_
  refine lv_iload_n hx hb dX9_endOf_23 rfl (lv_at hl 2 rfl) ?_
  refine z_iald (i := 13) hx hb hK hW rfl (z_ix rfl (by omega) (by omega)) dX9_endOf_24 ?_
  refine lv_topi (fun x6 ex6 => ?_)
  refine z_ci hW hS hA (va_runS (As := [.int x6]) (rest := []) ⟨hx, hb, hml, hown, hts⟩ (sx_X9_isLetter l G ad c I  x6  _) (va_cwS 1 hts gX9_endOf_X9_isLetter rfl rfl rfl hy_X9_isLetter.2 ⟨Nat.le_of_ble_eq_true rfl, Nat.le_of_ble_eq_true rfl⟩) (z_preS hK hW) rfl rfl hl.1 rfl (lv_room (Nat.le_of_ble_eq_true rfl)) dX9_endOf_25 ⟨Nat.le_of_ble_eq_true rfl, Nat.le_of_ble_eq_true rfl⟩) (fun r u1 H locs hp hW hS => ?_)
  obtain ⟨e9, hp⟩ := hp
  rw [e9] at hW
  rcases hp with rfl | rfl
  · refine lv_istore (lv' := [(4, .int 1), (3, .int x1), (0, .ref (ad 12)), (1, .int a1), (2, .int a2)]) hx hb dX9_endOf_28 hl (by decide) rfl (fun ls hl => ?_)
    refine lv_iload hx hb dX9_endOf_30 (lv_at hl 0 rfl) ?_
    refine lv_if_ne (tgt := 49) hx hb dX9_endOf_32 (by decide) (fun c7 => ?_) (fun c7 => absurd c7 (by decide))
    have lp8 : ∀ (f : Nat) (y9 : Int32) (H : Heap) (locs : List Loc) (ls : Array Slot), (2147483647 < y9.toInt + (f : Int)) → (1 ≤ y9.toInt) → (y9.toInt ≤ 500) → (x1.toInt ≤ y9.toInt) → z_W G A (shC c, ad, I, JX, PC c ad) H → va_S A s.heap H locs → lv_has ls 5 [(4, .int 1), (3, .int y9), (0, .ref (ad 12)), (1, .int a1), (2, .int a2)] → W p l e (headSpec wsX9_endOf { frames := 2, cells := 0, slots := 0, locals := 32 }).room s m ([.ref (ad 12), .int a1, .int a2] : List Value).toArray below meth c0 H locs 0 0 (MQ below (va_Qi (fun (r : Int32) (u1 : z_U) => u1 = (shC c, ad, I, JX, PC c ad) ∧ (a1.toInt + 1 ≤ r.toInt ∧ r.toInt ≤ 500)) (z_B G A) A) ([.ref (ad 12), .int a1, .int a2] : List Value).toArray s 0 0 A) (F0 m 49 ls []) := by
      intro f
      induction f with
      | zero => intro y9 H locs ls lp8m lp8l3 lp8u3 lp8z hW hS hl; exact absurd lp8m (by have := Int32.toInt_lt y9; have := Int32.le_toInt y9; omega)
      | succ f lp8ih =>
        intro y9 H locs ls lp8m lp8l3 lp8u3 lp8z hW hS hl
        refine lv_iload_n hx hb dX9_endOf_49 rfl (lv_at hl 1 rfl) ?_
        refine lv_iload_n hx hb dX9_endOf_50 rfl (lv_at hl 4 rfl) ?_
        refine lv_icmp_ge (tgt := 101) hx hb dX9_endOf_51 (by decide) (fun c10 => ?_) (fun c10 => ?_)
        · have g11 := z_f_ge rfl rfl c10
          refine lv_iload_n hx hb dX9_endOf_101 rfl (lv_at hl 1 rfl) ?_
          exact z_iret hx hb hr hK hS (Nat.le_of_ble_eq_true rfl) (Nat.le_of_ble_eq_true rfl) hlocks dX9_endOf_102 (shC c, ad, I, JX, PC c ad) hW ⟨rfl, (by omega)⟩
        · have g12 := z_f_nge rfl rfl c10
          refine lv_iload_n hx hb dX9_endOf_54 rfl (lv_at hl 1 rfl) ?_
          refine lv_aload_n hx hb dX9_endOf_55 rfl (lv_at hl 2 rfl) ?_
          refine z_get (T := TX9) (N := 14) (ci := 9) (i := 12) (v := .ref (ad 13)) hx hb hts zj_X9_endOf_X9 hown hK hW rfl rfl 0 (by decide) (hts (.fieldLink RX9 9 "PetrolBoard$Reader" "text" "[I") (me_s (me_l (List.mem_of_getElem? (i := 0) rfl)))) (fun _ h => h) rfl dX9_endOf_56 ?_
          refine z_alen (i := 13) (v := 500) hx hb hK hW rfl (by simp [z_tys]) (by rfl) dX9_endOf_59 ?_
          refine lv_icmp_ge (tgt := 101) hx hb dX9_endOf_60 (by decide) (fun c13 => (by have g := z_f_ge rfl z_l500 c13; omega)) (fun c13 => ?_)
          have g14 := z_f_nge rfl z_l500 c13
          refine lv_iload hx hb dX9_endOf_63 (lv_at hl 0 rfl) ?_
          refine lv_if_eq (tgt := 83) hx hb dX9_endOf_65 (by decide) (fun c15 => absurd c15 (by decide)) (fun c15 => ?_)
          refine lv_aload_n hx hb dX9_endOf_68 rfl (lv_at hl 2 rfl) ?_
          refine z_get (T := TX9) (N := 14) (ci := 9) (i := 12) (v := .ref (ad 13)) hx hb hts zj_X9_endOf_X9 hown hK hW rfl rfl 0 (by decide) (hts (.fieldLink RX9 9 "PetrolBoard$Reader" "text" "[I") (me_s (me_l (List.mem_of_getElem? (i := 0) rfl)))) (fun _ h => h) rfl dX9_endOf_69 ?_
          refine lv_iload_n hx hb dX9_endOf_72 rfl (lv_at hl 1 rfl) ?_
          refine z_iald (i := 13) hx hb hK hW rfl (z_ix rfl (by omega) (by omega)) dX9_endOf_73 ?_
          refine lv_topi (fun x16 ex16 => ?_)
          refine z_ci hW hS hA (va_runS (As := [.int x16]) (rest := []) ⟨hx, hb, hml, hown, hts⟩ (sx_X9_isLetter l G ad c I  x16  _) (va_cwS 1 hts gX9_endOf_X9_isLetter rfl rfl rfl hy_X9_isLetter.2 ⟨Nat.le_of_ble_eq_true rfl, Nat.le_of_ble_eq_true rfl⟩) (z_preS hK hW) rfl rfl hl.1 rfl (lv_room (Nat.le_of_ble_eq_true rfl)) dX9_endOf_74 ⟨Nat.le_of_ble_eq_true rfl, Nat.le_of_ble_eq_true rfl⟩) (fun r u1 H locs hp hW hS => ?_)
          obtain ⟨e9, hp⟩ := hp
          rw [e9] at hW
          rcases hp with rfl | rfl
          · refine lv_if_eq (tgt := 101) hx hb dX9_endOf_77 (by decide) (fun c17 => absurd c17 (by decide)) (fun c17 => ?_)
            refine lv_goto (tgt := 95) hx hb dX9_endOf_80 (by decide) ?_
            obtain ⟨x18, ex18⟩ : ∃ y : Int32, y = y9 + 1 := ⟨_, rfl⟩
            have tx18 : x18.toInt = y9.toInt + 1 := z_tadd ex18 rfl z_l1 (by omega) (by omega)
            refine lv_iinc (v := x18) (lv' := [(3, .int x18), (4, .int 1), (0, .ref (ad 12)), (1, .int a1), (2, .int a2)]) hx hb dX9_endOf_95 hl (k := 1) rfl (by rw [ex18]; rfl) (by decide) rfl (fun ls hl => ?_)
            refine lv_goto (tgt := 49) hx hb dX9_endOf_98 (by decide) ?_
            exact lp8ih x18 _ _ _ (by omega) (by omega) (by omega) (by omega) hW hS (lv_sub hl [1, 0, 2, 3, 4] rfl)
          · refine lv_if_eq (tgt := 101) hx hb dX9_endOf_77 (by decide) (fun c19 => ?_) (fun c19 => absurd (by decide) c19)
            refine lv_iload_n hx hb dX9_endOf_101 rfl (lv_at hl 1 rfl) ?_
            exact z_iret hx hb hr hK hS (Nat.le_of_ble_eq_true rfl) (Nat.le_of_ble_eq_true rfl) hlocks dX9_endOf_102 (shC c, ad, I, JX, PC c ad) hW ⟨rfl, (by omega)⟩
    exact lp8 4294967296 x1 _ _ _ (z_m0u _) (by omega) (by omega) (by omega) hW hS (lv_sub hl [0, 1, 2, 3, 4] rfl)
  · refine lv_istore (lv' := [(4, .int 0), (3, .int x1), (0, .ref (ad 12)), (1, .int a1), (2, .int a2)]) hx hb dX9_endOf_28 hl (by decide) rfl (fun ls hl => ?_)
    refine lv_iload hx hb dX9_endOf_30 (lv_at hl 0 rfl) ?_
    refine lv_if_ne (tgt := 49) hx hb dX9_endOf_32 (by decide) (fun c20 => absurd (by decide) c20) (fun c20 => ?_)
    refine lv_aload_n hx hb dX9_endOf_35 rfl (lv_at hl 2 rfl) ?_
    refine z_get (T := TX9) (N := 14) (ci := 9) (i := 12) (v := .ref (ad 13)) hx hb hts zj_X9_endOf_X9 hown hK hW rfl rfl 0 (by decide) (hts (.fieldLink RX9 9 "PetrolBoard$Reader" "text" "[I") (me_s (me_l (List.mem_of_getElem? (i := 0) rfl)))) (fun _ h => h) rfl dX9_endOf_36 ?_
    refine lv_iload_n hx hb dX9_endOf_39 rfl (lv_at hl 3 rfl) ?_
    refine z_iald (i := 13) hx hb hK hW rfl (z_ix rfl (by omega) (by omega)) dX9_endOf_40 ?_
    refine z_topi (v := x6) ex6.symm ?_
    refine z_ci hW hS hA (va_runS (As := [.int x6]) (rest := []) ⟨hx, hb, hml, hown, hts⟩ (sx_X9_isDigit l G ad c I  x6  _) (va_cwS 1 hts gX9_endOf_X9_isDigit rfl rfl rfl hy_X9_isDigit.2 ⟨Nat.le_of_ble_eq_true rfl, Nat.le_of_ble_eq_true rfl⟩) (z_preS hK hW) rfl rfl hl.1 rfl (lv_room (Nat.le_of_ble_eq_true rfl)) dX9_endOf_41 ⟨Nat.le_of_ble_eq_true rfl, Nat.le_of_ble_eq_true rfl⟩) (fun r u1 H locs hp hW hS => ?_)
    obtain ⟨e9, hp⟩ := hp
    rw [e9] at hW
    rcases hp with rfl | rfl
    · refine lv_if_ne (tgt := 49) hx hb dX9_endOf_44 (by decide) (fun c21 => ?_) (fun c21 => absurd c21 (by decide))
      have lp22 : ∀ (f : Nat) (y23 : Int32) (H : Heap) (locs : List Loc) (ls : Array Slot), (2147483647 < y23.toInt + (f : Int)) → (1 ≤ y23.toInt) → (y23.toInt ≤ 500) → (x1.toInt ≤ y23.toInt) → z_W G A (shC c, ad, I, JX, PC c ad) H → va_S A s.heap H locs → lv_has ls 5 [(4, .int 0), (3, .int y23), (0, .ref (ad 12)), (1, .int a1), (2, .int a2)] → W p l e (headSpec wsX9_endOf { frames := 2, cells := 0, slots := 0, locals := 32 }).room s m ([.ref (ad 12), .int a1, .int a2] : List Value).toArray below meth c0 H locs 0 0 (MQ below (va_Qi (fun (r : Int32) (u1 : z_U) => u1 = (shC c, ad, I, JX, PC c ad) ∧ (a1.toInt + 1 ≤ r.toInt ∧ r.toInt ≤ 500)) (z_B G A) A) ([.ref (ad 12), .int a1, .int a2] : List Value).toArray s 0 0 A) (F0 m 49 ls []) := by
        intro f
        induction f with
        | zero => intro y23 H locs ls lp22m lp22l3 lp22u3 lp22z hW hS hl; exact absurd lp22m (by have := Int32.toInt_lt y23; have := Int32.le_toInt y23; omega)
        | succ f lp22ih =>
          intro y23 H locs ls lp22m lp22l3 lp22u3 lp22z hW hS hl
          refine lv_iload_n hx hb dX9_endOf_49 rfl (lv_at hl 1 rfl) ?_
          refine lv_iload_n hx hb dX9_endOf_50 rfl (lv_at hl 4 rfl) ?_
          refine lv_icmp_ge (tgt := 101) hx hb dX9_endOf_51 (by decide) (fun c24 => ?_) (fun c24 => ?_)
          · have g25 := z_f_ge rfl rfl c24
            refine lv_iload_n hx hb dX9_endOf_101 rfl (lv_at hl 1 rfl) ?_
            exact z_iret hx hb hr hK hS (Nat.le_of_ble_eq_true rfl) (Nat.le_of_ble_eq_true rfl) hlocks dX9_endOf_102 (shC c, ad, I, JX, PC c ad) hW ⟨rfl, (by omega)⟩
          · have g26 := z_f_nge rfl rfl c24
            refine lv_iload_n hx hb dX9_endOf_54 rfl (lv_at hl 1 rfl) ?_
            refine lv_aload_n hx hb dX9_endOf_55 rfl (lv_at hl 2 rfl) ?_
            refine z_get (T := TX9) (N := 14) (ci := 9) (i := 12) (v := .ref (ad 13)) hx hb hts zj_X9_endOf_X9 hown hK hW rfl rfl 0 (by decide) (hts (.fieldLink RX9 9 "PetrolBoard$Reader" "text" "[I") (me_s (me_l (List.mem_of_getElem? (i := 0) rfl)))) (fun _ h => h) rfl dX9_endOf_56 ?_
            refine z_alen (i := 13) (v := 500) hx hb hK hW rfl (by simp [z_tys]) (by rfl) dX9_endOf_59 ?_
            refine lv_icmp_ge (tgt := 101) hx hb dX9_endOf_60 (by decide) (fun c27 => (by have g := z_f_ge rfl z_l500 c27; omega)) (fun c27 => ?_)
            have g28 := z_f_nge rfl z_l500 c27
            refine lv_iload hx hb dX9_endOf_63 (lv_at hl 0 rfl) ?_
            refine lv_if_eq (tgt := 83) hx hb dX9_endOf_65 (by decide) (fun c29 => ?_) (fun c29 => absurd (by decide) c29)
            refine lv_aload_n hx hb dX9_endOf_83 rfl (lv_at hl 2 rfl) ?_
            refine z_get (T := TX9) (N := 14) (ci := 9) (i := 12) (v := .ref (ad 13)) hx hb hts zj_X9_endOf_X9 hown hK hW rfl rfl 0 (by decide) (hts (.fieldLink RX9 9 "PetrolBoard$Reader" "text" "[I") (me_s (me_l (List.mem_of_getElem? (i := 0) rfl)))) (fun _ h => h) rfl dX9_endOf_84 ?_
            refine lv_iload_n hx hb dX9_endOf_87 rfl (lv_at hl 1 rfl) ?_
            refine z_iald (i := 13) hx hb hK hW rfl (z_ix rfl (by omega) (by omega)) dX9_endOf_88 ?_
            refine lv_topi (fun x30 ex30 => ?_)
            refine z_ci hW hS hA (va_runS (As := [.int x30]) (rest := []) ⟨hx, hb, hml, hown, hts⟩ (sx_X9_isDigit l G ad c I  x30  _) (va_cwS 1 hts gX9_endOf_X9_isDigit rfl rfl rfl hy_X9_isDigit.2 ⟨Nat.le_of_ble_eq_true rfl, Nat.le_of_ble_eq_true rfl⟩) (z_preS hK hW) rfl rfl hl.1 rfl (lv_room (Nat.le_of_ble_eq_true rfl)) dX9_endOf_89 ⟨Nat.le_of_ble_eq_true rfl, Nat.le_of_ble_eq_true rfl⟩) (fun r u1 H locs hp hW hS => ?_)
            obtain ⟨e9, hp⟩ := hp
            rw [e9] at hW
            rcases hp with rfl | rfl
            · refine lv_if_eq (tgt := 101) hx hb dX9_endOf_92 (by decide) (fun c31 => absurd c31 (by decide)) (fun c31 => ?_)
              obtain ⟨x32, ex32⟩ : ∃ y : Int32, y = y23 + 1 := ⟨_, rfl⟩
              have tx32 : x32.toInt = y23.toInt + 1 := z_tadd ex32 rfl z_l1 (by omega) (by omega)
              refine lv_iinc (v := x32) (lv' := [(3, .int x32), (4, .int 0), (0, .ref (ad 12)), (1, .int a1), (2, .int a2)]) hx hb dX9_endOf_95 hl (k := 1) rfl (by rw [ex32]; rfl) (by decide) rfl (fun ls hl => ?_)
              refine lv_goto (tgt := 49) hx hb dX9_endOf_98 (by decide) ?_
              exact lp22ih x32 _ _ _ (by omega) (by omega) (by omega) (by omega) hW hS (lv_sub hl [1, 0, 2, 3, 4] rfl)
            · refine lv_if_eq (tgt := 101) hx hb dX9_endOf_92 (by decide) (fun c33 => ?_) (fun c33 => absurd (by decide) c33)
              refine lv_iload_n hx hb dX9_endOf_101 rfl (lv_at hl 1 rfl) ?_
              exact z_iret hx hb hr hK hS (Nat.le_of_ble_eq_true rfl) (Nat.le_of_ble_eq_true rfl) hlocks dX9_endOf_102 (shC c, ad, I, JX, PC c ad) hW ⟨rfl, (by omega)⟩
      exact lp22 4294967296 x1 _ _ _ (z_m0u _) (by omega) (by omega) (by omega) hW hS (lv_sub hl [0, 1, 2, 3, 4] rfl)
    · refine lv_if_ne (tgt := 49) hx hb dX9_endOf_44 (by decide) (fun c34 => absurd (by decide) c34) (fun c34 => ?_)
      refine lv_iload_n hx hb dX9_endOf_47 rfl (lv_at hl 1 rfl) ?_
      exact z_iret hx hb hr hK hS (Nat.le_of_ble_eq_true rfl) (Nat.le_of_ble_eq_true rfl) hlocks dX9_endOf_48 (shC c, ad, I, JX, PC c ad) hW ⟨rfl, (by omega)⟩
theorem zj_X9_numberOf_X9 : ∀ w ∈ wsX90, w ∈ wsX9_numberOf := fun w h => (List.mem_cons_of_mem _ (List.mem_append_right _ h))
set_option maxHeartbeats 8000000 in
set_option maxRecDepth 100000 in
theorem sx_X9_numberOf (l : Launch) (G : z_G) (ad : Nat → Nat) (c : z_C) (I : z_I) (a1 : Int32) (a2 : Int32) (q1 : 0 ≤ a1.toInt ∧ a1.toInt ≤ 499) : z_M l yX9_numberOf wsX9_numberOf { frames := 2, cells := 0, slots := 0, locals := 40 } [.ref (ad 12), .int a1, .int a2] G (shC c, ad, I, JX, PC c ad) (fun r u1 => u1 = (shC c, ad, I, JX, PC c ad)) 0 0 := by
  intro sz
  refine z_headQ (cc := cX9_numberOf) (maxL := 5) (ret := (some .int)) (by decide) rfl (Nat.le_of_ble_eq_true rfl) ?_
  intro p e s m below meth c0 ls hIn hK hsz hW hl
  obtain ⟨hx, hb, hr, hml, hown, hts, hlocks, hname⟩ := hIn
  subst hsz
  have hown : s.vm.findClass RX9 = some m.cls := hown
  have hA : ∀ q : Nat, s.heap.size ≤ q → z_A (shC c, ad, I, JX, PC c ad) s.heap.size q := fun q h => Or.inr h
  generalize hAe : z_A (shC c, ad, I, JX, PC c ad) s.heap.size = A at *
  have hS : va_S A s.heap s.heap [] := va_S.rf
  have hl : lv_has ls 5 [(0, .ref (ad 12)), (1, .int a1), (2, .int a2)] := hl
  refine lv_iconst (v := 0) hx hb dX9_numberOf_0 (by decide) ?_
  refine lv_istore_n (lv' := [(3, .int 0), (0, .ref (ad 12)), (1, .int a1), (2, .int a2)]) hx hb dX9_numberOf_1 rfl hl (by decide) rfl (fun ls hl => ?_)
  refine lv_iload_n hx hb dX9_numberOf_2 rfl (lv_at hl 2 rfl) ?_
  refine lv_iconst (v := 0) hx hb dX9_numberOf_3 (by decide) ?_
  refine va_mmax (x := a1) (y := 0) hx hb (hml.trans hl.1.symm) hown (hts (.methodLink RX9 128 Lib.Math.max.name) (me_s (me_l (List.mem_of_getElem? (i := 0) rfl)))) (hts (.static Lib.Math.max.name) (me_s (me_l (List.mem_of_getElem? (i := 1) rfl)))) (hts (.initialized "java/lang/Math") (me_s (me_l (List.mem_of_getElem? (i := 2) rfl)))) (hts (.code Lib.Math.max.name Lib.Math.max.code 2 (some .int)) (me_s (me_l (List.mem_of_getElem? (i := 3) rfl)))) (Nat.le_of_ble_eq_true rfl) (Nat.le_of_ble_eq_true rfl) (Nat.le_of_ble_eq_true rfl) (Nat.le_of_ble_eq_true rfl) dX9_numberOf_4 ?_
  refine lv_topi (fun x1 ex1 => ?_)
  have tx1 := z_tmmax ex1 rfl z_l0
  refine lv_istore (lv' := [(4, .int x1), (3, .int 0), (0, .ref (ad 12)), (1, .int a1), (2, .int a2)]) hx hb dX9_numberOf_7 hl (by decide) rfl (fun ls hl => ?_)
  have lp2 : ∀ (f : Nat) (y3 : Int32) (y4 : Int32) (H : Heap) (locs : List Loc) (ls : Array Slot), (2147483647 < y3.toInt + (f : Int)) → (0 ≤ y3.toInt) → (x1.toInt ≤ y3.toInt) → z_W G A (shC c, ad, I, JX, PC c ad) H → va_S A s.heap H locs → lv_has ls 5 [(4, .int y3), (3, .int y4), (0, .ref (ad 12)), (1, .int a1), (2, .int a2)] → W p l e (headSpec wsX9_numberOf { frames := 2, cells := 0, slots := 0, locals := 40 }).room s m ([.ref (ad 12), .int a1, .int a2] : List Value).toArray below meth c0 H locs 0 0 (MQ below (va_Qi (fun (r : Int32) (u1 : z_U) => u1 = (shC c, ad, I, JX, PC c ad)) (z_B G A) A) ([.ref (ad 12), .int a1, .int a2] : List Value).toArray s 0 0 A) (F0 m 9 ls []) := by
    intro f
    induction f with
    | zero => intro y3 y4 H locs ls lp2m lp2l4 lp2z hW hS hl; exact absurd lp2m (by have := Int32.toInt_lt y3; have := Int32.le_toInt y3; omega)
    | succ f lp2ih =>
      intro y3 y4 H locs ls lp2m lp2l4 lp2z hW hS hl
      refine lv_iload hx hb dX9_numberOf_9 (lv_at hl 0 rfl) ?_
      refine lv_iload_n hx hb dX9_numberOf_11 rfl (lv_at hl 4 rfl) ?_
      refine lv_icmp_ge (tgt := 73) hx hb dX9_numberOf_12 (by decide) (fun c5 => ?_) (fun c5 => ?_)
      · have g6 := z_f_ge rfl rfl c5
        have b7 := Int32.toInt_lt y3
        have b8 := Int32.toInt_lt a2
        refine lv_iload_n hx hb dX9_numberOf_73 rfl (lv_at hl 1 rfl) ?_
        exact z_iret hx hb hr hK hS (Nat.le_of_ble_eq_true rfl) (Nat.le_of_ble_eq_true rfl) hlocks dX9_numberOf_74 (shC c, ad, I, JX, PC c ad) hW rfl
      · have g9 := z_f_nge rfl rfl c5
        have b10 := Int32.toInt_lt y3
        have b11 := Int32.toInt_lt a2
        refine lv_iload hx hb dX9_numberOf_15 (lv_at hl 0 rfl) ?_
        refine lv_aload_n hx hb dX9_numberOf_17 rfl (lv_at hl 2 rfl) ?_
        refine z_get (T := TX9) (N := 14) (ci := 9) (i := 12) (v := .ref (ad 13)) hx hb hts zj_X9_numberOf_X9 hown hK hW rfl rfl 0 (by decide) (hts (.fieldLink RX9 9 "PetrolBoard$Reader" "text" "[I") (me_s (me_l (List.mem_of_getElem? (i := 4) rfl)))) (fun _ h => h) rfl dX9_numberOf_18 ?_
        refine z_alen (i := 13) (v := 500) hx hb hK hW rfl (by simp [z_tys]) (by rfl) dX9_numberOf_21 ?_
        refine lv_icmp_ge (tgt := 73) hx hb dX9_numberOf_22 (by decide) (fun c12 => ?_) (fun c12 => ?_)
        · have g13 := z_f_ge rfl z_l500 c12
          refine lv_iload_n hx hb dX9_numberOf_73 rfl (lv_at hl 1 rfl) ?_
          exact z_iret hx hb hr hK hS (Nat.le_of_ble_eq_true rfl) (Nat.le_of_ble_eq_true rfl) hlocks dX9_numberOf_74 (shC c, ad, I, JX, PC c ad) hW rfl
        · have g14 := z_f_nge rfl z_l500 c12
          refine lv_iload hx hb dX9_numberOf_25 (lv_at hl 0 rfl) ?_
          refine lv_iload_n hx hb dX9_numberOf_27 rfl (lv_at hl 3 rfl) ?_
          refine lv_bipush (v := 6) hx hb dX9_numberOf_28 (by decide) ?_
          refine lv_iadd hx hb dX9_numberOf_30 ?_
          refine lv_topi (fun x15 ex15 => ?_)
          have tx15 : x15.toInt = a1.toInt + 6 := z_tadd ex15 rfl z_l6 (by omega) (by omega)
          refine lv_icmp_ge (tgt := 73) hx hb dX9_numberOf_31 (by decide) (fun c16 => ?_) (fun c16 => ?_)
          · have g17 := z_f_ge rfl rfl c16
            refine lv_iload_n hx hb dX9_numberOf_73 rfl (lv_at hl 1 rfl) ?_
            exact z_iret hx hb hr hK hS (Nat.le_of_ble_eq_true rfl) (Nat.le_of_ble_eq_true rfl) hlocks dX9_numberOf_74 (shC c, ad, I, JX, PC c ad) hW rfl
          · have g18 := z_f_nge rfl rfl c16
            refine lv_aload_n hx hb dX9_numberOf_34 rfl (lv_at hl 2 rfl) ?_
            refine z_get (T := TX9) (N := 14) (ci := 9) (i := 12) (v := .ref (ad 13)) hx hb hts zj_X9_numberOf_X9 hown hK hW rfl rfl 0 (by decide) (hts (.fieldLink RX9 9 "PetrolBoard$Reader" "text" "[I") (me_s (me_l (List.mem_of_getElem? (i := 4) rfl)))) (fun _ h => h) rfl dX9_numberOf_35 ?_
            refine lv_iload hx hb dX9_numberOf_38 (lv_at hl 0 rfl) ?_
            refine z_iald (i := 13) hx hb hK hW rfl (z_ix rfl (by omega) (by omega)) dX9_numberOf_40 ?_
            refine lv_topi (fun x19 ex19 => ?_)
            refine z_ci hW hS hA (va_runS (As := [.int x19]) (rest := []) ⟨hx, hb, hml, hown, hts⟩ (sx_X9_isDigit l G ad c I  x19  _) (va_cwS 1 hts gX9_numberOf_X9_isDigit rfl rfl rfl hy_X9_isDigit.2 ⟨Nat.le_of_ble_eq_true rfl, Nat.le_of_ble_eq_true rfl⟩) (z_preS hK hW) rfl rfl hl.1 rfl (lv_room (Nat.le_of_ble_eq_true rfl)) dX9_numberOf_41 ⟨Nat.le_of_ble_eq_true rfl, Nat.le_of_ble_eq_true rfl⟩) (fun r u1 H locs hp hW hS => ?_)
            obtain ⟨e9, hp⟩ := hp
            rw [e9] at hW
            rcases hp with rfl | rfl
            · refine lv_if_eq (tgt := 65) hx hb dX9_numberOf_44 (by decide) (fun c20 => absurd c20 (by decide)) (fun c20 => ?_)
              refine lv_iload_n hx hb dX9_numberOf_47 rfl (lv_at hl 1 rfl) ?_
              refine lv_bipush (v := 10) hx hb dX9_numberOf_48 (by decide) ?_
              refine lv_imul hx hb dX9_numberOf_50 ?_
              refine lv_topi (fun x21 ex21 => ?_)
              refine lv_aload_n hx hb dX9_numberOf_51 rfl (lv_at hl 2 rfl) ?_
              refine z_get (T := TX9) (N := 14) (ci := 9) (i := 12) (v := .ref (ad 13)) hx hb hts zj_X9_numberOf_X9 hown hK hW rfl rfl 0 (by decide) (hts (.fieldLink RX9 9 "PetrolBoard$Reader" "text" "[I") (me_s (me_l (List.mem_of_getElem? (i := 4) rfl)))) (fun _ h => h) rfl dX9_numberOf_52 ?_
              refine lv_iload hx hb dX9_numberOf_55 (lv_at hl 0 rfl) ?_
              refine z_iald (i := 13) hx hb hK hW rfl (z_ix rfl (by omega) (by omega)) dX9_numberOf_57 ?_
              refine z_topi (v := x19) ex19.symm ?_
              refine lv_iadd hx hb dX9_numberOf_58 ?_
              refine lv_topi (fun x22 ex22 => ?_)
              refine lv_bipush (v := 48) hx hb dX9_numberOf_59 (by decide) ?_
              refine lv_isub hx hb dX9_numberOf_61 ?_
              refine lv_topi (fun x23 ex23 => ?_)
              refine lv_goto (tgt := 66) hx hb dX9_numberOf_62 (by decide) ?_
              refine lv_istore_n (lv' := [(3, .int x23), (4, .int y3), (0, .ref (ad 12)), (1, .int a1), (2, .int a2)]) hx hb dX9_numberOf_66 rfl hl (by decide) rfl (fun ls hl => ?_)
              obtain ⟨x24, ex24⟩ : ∃ y : Int32, y = y3 + 1 := ⟨_, rfl⟩
              have tx24 : x24.toInt = y3.toInt + 1 := z_tadd ex24 rfl z_l1 (by omega) (by omega)
              refine lv_iinc (v := x24) (lv' := [(4, .int x24), (3, .int x23), (0, .ref (ad 12)), (1, .int a1), (2, .int a2)]) hx hb dX9_numberOf_67 hl (k := 1) rfl (by rw [ex24]; rfl) (by decide) rfl (fun ls hl => ?_)
              refine lv_goto (tgt := 9) hx hb dX9_numberOf_70 (by decide) ?_
              exact lp2ih x24 x23 _ _ _ (by omega) (by omega) (by omega) hW hS (lv_sub hl [0, 1, 2, 3, 4] rfl)
            · refine lv_if_eq (tgt := 65) hx hb dX9_numberOf_44 (by decide) (fun c25 => ?_) (fun c25 => absurd (by decide) c25)
              refine lv_iconst (v := 0) hx hb dX9_numberOf_65 (by decide) ?_
              refine lv_istore_n (lv' := [(3, .int 0), (4, .int y3), (0, .ref (ad 12)), (1, .int a1), (2, .int a2)]) hx hb dX9_numberOf_66 rfl hl (by decide) rfl (fun ls hl => ?_)
              obtain ⟨x26, ex26⟩ : ∃ y : Int32, y = y3 + 1 := ⟨_, rfl⟩
              have tx26 : x26.toInt = y3.toInt + 1 := z_tadd ex26 rfl z_l1 (by omega) (by omega)
              refine lv_iinc (v := x26) (lv' := [(4, .int x26), (3, .int 0), (0, .ref (ad 12)), (1, .int a1), (2, .int a2)]) hx hb dX9_numberOf_67 hl (k := 1) rfl (by rw [ex26]; rfl) (by decide) rfl (fun ls hl => ?_)
              refine lv_goto (tgt := 9) hx hb dX9_numberOf_70 (by decide) ?_
              exact lp2ih x26 (0) _ _ _ (by omega) (by omega) (by omega) hW hS (lv_sub hl [0, 1, 2, 3, 4] rfl)
  exact lp2 4294967296 x1 (0) _ _ _ (z_m0u _) (by omega) (by omega) hW hS (lv_sub hl [0, 1, 2, 3, 4] rfl)
set_option maxHeartbeats 8000000 in
set_option maxRecDepth 100000 in
theorem sx_X9_wordText (l : Launch) (G : z_G) (adK adV : Nat → Nat) (ad : Nat → Nat) (c : z_C) (I : z_I) (a1 : Int32) : z_MqN (z_Ck adK adV) l yX9_wordText wsX9_wordText { frames := 1, cells := 0, slots := 0, locals := 12 } [.int a1] G (shC c, ad, I, JX, PC c ad) (fun r u1 => u1 = (shC c, ad, I, JX, PC c ad) ∧ (∃ i, i < 21 ∧ r = some (adK i))) 0 0 := by
  intro sz
  refine z_headN (cc := cX9_wordText) (maxL := 1) (ret := (some (.object "java/lang/String"))) (by decide) rfl (Nat.le_of_ble_eq_true rfl) ?_
  intro p e s m below meth c0 ls hIn hK hsz hW hl hKn
  obtain ⟨hx, hb, hr, hml, hown, hts, hlocks, hname⟩ := hIn
  subst hsz
  have hown : s.vm.findClass RX9 = some m.cls := hown
  have hA : ∀ q : Nat, s.heap.size ≤ q → z_A (shC c, ad, I, JX, PC c ad) s.heap.size q := fun q h => Or.inr h
  generalize hAe : z_A (shC c, ad, I, JX, PC c ad) s.heap.size = A at *
  have hS : va_S A s.heap s.heap [] := va_S.rf
  have hl : lv_has ls 1 [(0, .int a1)] := hl
  refine lv_iload_n hx hb dX9_wordText_0 rfl (lv_at hl 0 rfl) ?_
  by_cases q1 : a1 = 300
  · refine lv_tableIn (tgt := 96) hx hb dX9_wordText_1 (by rw [q1]; decide) (by rw [q1]; decide) (by rw [q1]; rfl) (by decide) ?_
    refine va_ldcS hx hb hown (hKn.2.1 0 (by decide)) dX9_wordText_96 ?_
    exact z_qretO hx hb hr hK hS (Nat.le_of_ble_eq_true rfl) (Nat.le_of_ble_eq_true rfl) hlocks dX9_wordText_98 (shC c, ad, I, JX, PC c ad) hW ⟨rfl, ⟨0, by decide, rfl⟩⟩
  by_cases q2 : a1 = 301
  · refine lv_tableIn (tgt := 99) hx hb dX9_wordText_1 (by rw [q2]; decide) (by rw [q2]; decide) (by rw [q2]; rfl) (by decide) ?_
    refine va_ldcS hx hb hown (hKn.2.1 1 (by decide)) dX9_wordText_99 ?_
    exact z_qretO hx hb hr hK hS (Nat.le_of_ble_eq_true rfl) (Nat.le_of_ble_eq_true rfl) hlocks dX9_wordText_101 (shC c, ad, I, JX, PC c ad) hW ⟨rfl, ⟨1, by decide, rfl⟩⟩
  by_cases q3 : a1 = 302
  · refine lv_tableIn (tgt := 102) hx hb dX9_wordText_1 (by rw [q3]; decide) (by rw [q3]; decide) (by rw [q3]; rfl) (by decide) ?_
    refine va_ldcS hx hb hown (hKn.2.1 2 (by decide)) dX9_wordText_102 ?_
    exact z_qretO hx hb hr hK hS (Nat.le_of_ble_eq_true rfl) (Nat.le_of_ble_eq_true rfl) hlocks dX9_wordText_104 (shC c, ad, I, JX, PC c ad) hW ⟨rfl, ⟨2, by decide, rfl⟩⟩
  by_cases q4 : a1 = 303
  · refine lv_tableIn (tgt := 105) hx hb dX9_wordText_1 (by rw [q4]; decide) (by rw [q4]; decide) (by rw [q4]; rfl) (by decide) ?_
    refine va_ldcS hx hb hown (hKn.2.1 3 (by decide)) dX9_wordText_105 ?_
    exact z_qretO hx hb hr hK hS (Nat.le_of_ble_eq_true rfl) (Nat.le_of_ble_eq_true rfl) hlocks dX9_wordText_107 (shC c, ad, I, JX, PC c ad) hW ⟨rfl, ⟨3, by decide, rfl⟩⟩
  by_cases q5 : a1 = 304
  · refine lv_tableIn (tgt := 108) hx hb dX9_wordText_1 (by rw [q5]; decide) (by rw [q5]; decide) (by rw [q5]; rfl) (by decide) ?_
    refine va_ldcS hx hb hown (hKn.2.1 4 (by decide)) dX9_wordText_108 ?_
    exact z_qretO hx hb hr hK hS (Nat.le_of_ble_eq_true rfl) (Nat.le_of_ble_eq_true rfl) hlocks dX9_wordText_110 (shC c, ad, I, JX, PC c ad) hW ⟨rfl, ⟨4, by decide, rfl⟩⟩
  by_cases q6 : a1 = 305
  · refine lv_tableIn (tgt := 111) hx hb dX9_wordText_1 (by rw [q6]; decide) (by rw [q6]; decide) (by rw [q6]; rfl) (by decide) ?_
    refine va_ldcS hx hb hown (hKn.2.1 5 (by decide)) dX9_wordText_111 ?_
    exact z_qretO hx hb hr hK hS (Nat.le_of_ble_eq_true rfl) (Nat.le_of_ble_eq_true rfl) hlocks dX9_wordText_113 (shC c, ad, I, JX, PC c ad) hW ⟨rfl, ⟨5, by decide, rfl⟩⟩
  by_cases q7 : a1 = 306
  · refine lv_tableIn (tgt := 114) hx hb dX9_wordText_1 (by rw [q7]; decide) (by rw [q7]; decide) (by rw [q7]; rfl) (by decide) ?_
    refine va_ldcS hx hb hown (hKn.2.1 6 (by decide)) dX9_wordText_114 ?_
    exact z_qretO hx hb hr hK hS (Nat.le_of_ble_eq_true rfl) (Nat.le_of_ble_eq_true rfl) hlocks dX9_wordText_116 (shC c, ad, I, JX, PC c ad) hW ⟨rfl, ⟨6, by decide, rfl⟩⟩
  by_cases q8 : a1 = 307
  · refine lv_tableIn (tgt := 117) hx hb dX9_wordText_1 (by rw [q8]; decide) (by rw [q8]; decide) (by rw [q8]; rfl) (by decide) ?_
    refine va_ldcS hx hb hown (hKn.2.1 7 (by decide)) dX9_wordText_117 ?_
    exact z_qretO hx hb hr hK hS (Nat.le_of_ble_eq_true rfl) (Nat.le_of_ble_eq_true rfl) hlocks dX9_wordText_119 (shC c, ad, I, JX, PC c ad) hW ⟨rfl, ⟨7, by decide, rfl⟩⟩
  by_cases q9 : a1 = 308
  · refine lv_tableIn (tgt := 120) hx hb dX9_wordText_1 (by rw [q9]; decide) (by rw [q9]; decide) (by rw [q9]; rfl) (by decide) ?_
    refine va_ldcS hx hb hown (hKn.2.1 8 (by decide)) dX9_wordText_120 ?_
    exact z_qretO hx hb hr hK hS (Nat.le_of_ble_eq_true rfl) (Nat.le_of_ble_eq_true rfl) hlocks dX9_wordText_122 (shC c, ad, I, JX, PC c ad) hW ⟨rfl, ⟨8, by decide, rfl⟩⟩
  by_cases q10 : a1 = 309
  · refine lv_tableIn (tgt := 123) hx hb dX9_wordText_1 (by rw [q10]; decide) (by rw [q10]; decide) (by rw [q10]; rfl) (by decide) ?_
    refine va_ldcS hx hb hown (hKn.2.1 9 (by decide)) dX9_wordText_123 ?_
    exact z_qretO hx hb hr hK hS (Nat.le_of_ble_eq_true rfl) (Nat.le_of_ble_eq_true rfl) hlocks dX9_wordText_125 (shC c, ad, I, JX, PC c ad) hW ⟨rfl, ⟨9, by decide, rfl⟩⟩
  by_cases q11 : a1 = 310
  · refine lv_tableIn (tgt := 126) hx hb dX9_wordText_1 (by rw [q11]; decide) (by rw [q11]; decide) (by rw [q11]; rfl) (by decide) ?_
    refine va_ldcS hx hb hown (hKn.2.1 10 (by decide)) dX9_wordText_126 ?_
    exact z_qretO hx hb hr hK hS (Nat.le_of_ble_eq_true rfl) (Nat.le_of_ble_eq_true rfl) hlocks dX9_wordText_128 (shC c, ad, I, JX, PC c ad) hW ⟨rfl, ⟨10, by decide, rfl⟩⟩
  by_cases q12 : a1 = 311
  · refine lv_tableIn (tgt := 129) hx hb dX9_wordText_1 (by rw [q12]; decide) (by rw [q12]; decide) (by rw [q12]; rfl) (by decide) ?_
    refine va_ldcS hx hb hown (hKn.2.1 11 (by decide)) dX9_wordText_129 ?_
    exact z_qretO hx hb hr hK hS (Nat.le_of_ble_eq_true rfl) (Nat.le_of_ble_eq_true rfl) hlocks dX9_wordText_131 (shC c, ad, I, JX, PC c ad) hW ⟨rfl, ⟨11, by decide, rfl⟩⟩
  by_cases q13 : a1 = 312
  · refine lv_tableIn (tgt := 132) hx hb dX9_wordText_1 (by rw [q13]; decide) (by rw [q13]; decide) (by rw [q13]; rfl) (by decide) ?_
    refine va_ldcS hx hb hown (hKn.2.1 12 (by decide)) dX9_wordText_132 ?_
    exact z_qretO hx hb hr hK hS (Nat.le_of_ble_eq_true rfl) (Nat.le_of_ble_eq_true rfl) hlocks dX9_wordText_134 (shC c, ad, I, JX, PC c ad) hW ⟨rfl, ⟨12, by decide, rfl⟩⟩
  by_cases q14 : a1 = 313
  · refine lv_tableIn (tgt := 135) hx hb dX9_wordText_1 (by rw [q14]; decide) (by rw [q14]; decide) (by rw [q14]; rfl) (by decide) ?_
    refine va_ldcS hx hb hown (hKn.2.1 13 (by decide)) dX9_wordText_135 ?_
    exact z_qretO hx hb hr hK hS (Nat.le_of_ble_eq_true rfl) (Nat.le_of_ble_eq_true rfl) hlocks dX9_wordText_137 (shC c, ad, I, JX, PC c ad) hW ⟨rfl, ⟨13, by decide, rfl⟩⟩
  by_cases q15 : a1 = 314
  · refine lv_tableIn (tgt := 138) hx hb dX9_wordText_1 (by rw [q15]; decide) (by rw [q15]; decide) (by rw [q15]; rfl) (by decide) ?_
    refine va_ldcS hx hb hown (hKn.2.1 14 (by decide)) dX9_wordText_138 ?_
    exact z_qretO hx hb hr hK hS (Nat.le_of_ble_eq_true rfl) (Nat.le_of_ble_eq_true rfl) hlocks dX9_wordText_140 (shC c, ad, I, JX, PC c ad) hW ⟨rfl, ⟨14, by decide, rfl⟩⟩
  by_cases q16 : a1 = 315
  · refine lv_tableIn (tgt := 141) hx hb dX9_wordText_1 (by rw [q16]; decide) (by rw [q16]; decide) (by rw [q16]; rfl) (by decide) ?_
    refine va_ldcS hx hb hown (hKn.2.1 15 (by decide)) dX9_wordText_141 ?_
    exact z_qretO hx hb hr hK hS (Nat.le_of_ble_eq_true rfl) (Nat.le_of_ble_eq_true rfl) hlocks dX9_wordText_143 (shC c, ad, I, JX, PC c ad) hW ⟨rfl, ⟨15, by decide, rfl⟩⟩
  by_cases q17 : a1 = 316
  · refine lv_tableIn (tgt := 144) hx hb dX9_wordText_1 (by rw [q17]; decide) (by rw [q17]; decide) (by rw [q17]; rfl) (by decide) ?_
    refine va_ldcS hx hb hown (hKn.2.1 16 (by decide)) dX9_wordText_144 ?_
    exact z_qretO hx hb hr hK hS (Nat.le_of_ble_eq_true rfl) (Nat.le_of_ble_eq_true rfl) hlocks dX9_wordText_146 (shC c, ad, I, JX, PC c ad) hW ⟨rfl, ⟨16, by decide, rfl⟩⟩
  by_cases q18 : a1 = 317
  · refine lv_tableIn (tgt := 147) hx hb dX9_wordText_1 (by rw [q18]; decide) (by rw [q18]; decide) (by rw [q18]; rfl) (by decide) ?_
    refine va_ldcS hx hb hown (hKn.2.1 17 (by decide)) dX9_wordText_147 ?_
    exact z_qretO hx hb hr hK hS (Nat.le_of_ble_eq_true rfl) (Nat.le_of_ble_eq_true rfl) hlocks dX9_wordText_149 (shC c, ad, I, JX, PC c ad) hW ⟨rfl, ⟨17, by decide, rfl⟩⟩
  by_cases q19 : a1 = 318
  · refine lv_tableIn (tgt := 150) hx hb dX9_wordText_1 (by rw [q19]; decide) (by rw [q19]; decide) (by rw [q19]; rfl) (by decide) ?_
    refine va_ldcS hx hb hown (hKn.2.1 18 (by decide)) dX9_wordText_150 ?_
    exact z_qretO hx hb hr hK hS (Nat.le_of_ble_eq_true rfl) (Nat.le_of_ble_eq_true rfl) hlocks dX9_wordText_152 (shC c, ad, I, JX, PC c ad) hW ⟨rfl, ⟨18, by decide, rfl⟩⟩
  by_cases q20 : a1 = 319
  · refine lv_tableIn (tgt := 153) hx hb dX9_wordText_1 (by rw [q20]; decide) (by rw [q20]; decide) (by rw [q20]; rfl) (by decide) ?_
    refine va_ldcS hx hb hown (hKn.2.1 19 (by decide)) dX9_wordText_153 ?_
    exact z_qretO hx hb hr hK hS (Nat.le_of_ble_eq_true rfl) (Nat.le_of_ble_eq_true rfl) hlocks dX9_wordText_155 (shC c, ad, I, JX, PC c ad) hW ⟨rfl, ⟨19, by decide, rfl⟩⟩
  have q1 := z_f_ne rfl z_l300 q1
  have q2 := z_f_ne rfl z_l301 q2
  have q3 := z_f_ne rfl z_l302 q3
  have q4 := z_f_ne rfl z_l303 q4
  have q5 := z_f_ne rfl z_l304 q5
  have q6 := z_f_ne rfl z_l305 q6
  have q7 := z_f_ne rfl z_l306 q7
  have q8 := z_f_ne rfl z_l307 q8
  have q9 := z_f_ne rfl z_l308 q9
  have q10 := z_f_ne rfl z_l309 q10
  have q11 := z_f_ne rfl z_l310 q11
  have q12 := z_f_ne rfl z_l311 q12
  have q13 := z_f_ne rfl z_l312 q13
  have q14 := z_f_ne rfl z_l313 q14
  have q15 := z_f_ne rfl z_l314 q15
  have q16 := z_f_ne rfl z_l315 q16
  have q17 := z_f_ne rfl z_l316 q17
  have q18 := z_f_ne rfl z_l317 q18
  have q19 := z_f_ne rfl z_l318 q19
  have q20 := z_f_ne rfl z_l319 q20
  refine lv_tableOut (tgt := 156) hx hb dX9_wordText_1 (by omega) (by decide) ?_
  refine va_ldcS hx hb hown (hKn.2.1 20 (by decide)) dX9_wordText_156 ?_
  exact z_qretO hx hb hr hK hS (Nat.le_of_ble_eq_true rfl) (Nat.le_of_ble_eq_true rfl) hlocks dX9_wordText_158 (shC c, ad, I, JX, PC c ad) hW ⟨rfl, ⟨20, by decide, rfl⟩⟩
theorem zj_X9_isWord_X9 : ∀ w ∈ wsX90, w ∈ wsX9_isWord := fun w h => (List.mem_cons_of_mem _ (List.mem_append_right _ h))
set_option maxHeartbeats 8000000 in
set_option maxRecDepth 100000 in
theorem sx_X9_isWord (l : Launch) (G : z_G) (adK adV : Nat → Nat) (ad : Nat → Nat) (c : z_C) (I : z_I) (i : Nat) (a2 : Int32) (a3 : Int32) (hi : i < 21) (q2 : 0 ≤ a2.toInt ∧ a2.toInt ≤ 499) (q3 : 0 ≤ a3.toInt ∧ a3.toInt ≤ 500) : z_MN (z_Ck adK adV) l yX9_isWord wsX9_isWord { frames := 5, cells := 0, slots := 0, locals := 97 } [.ref (ad 12), .ref (adK i), .int a2, .int a3] G (shC c, ad, I, JX, PC c ad) (fun r u1 => u1 = (shC c, ad, I, JX, PC c ad) ∧ (r = 1 ∨ r = 0)) 0 0 := by
  intro sz
  refine z_headN (cc := cX9_isWord) (maxL := 5) (ret := (some .boolean)) (by decide) rfl (Nat.le_of_ble_eq_true rfl) ?_
  intro p e s m below meth c0 ls hIn hK hsz hW hl hKn
  obtain ⟨hx, hb, hr, hml, hown, hts, hlocks, hname⟩ := hIn
  subst hsz
  have hown : s.vm.findClass RX9 = some m.cls := hown
  have hA : ∀ q : Nat, s.heap.size ≤ q → z_A (shC c, ad, I, JX, PC c ad) s.heap.size q := fun q h => Or.inr h
  generalize hAe : z_A (shC c, ad, I, JX, PC c ad) s.heap.size = A at *
  have hS : va_S A s.heap s.heap [] := va_S.rf
  have hl : lv_has ls 5 [(0, .ref (ad 12)), (1, .ref (adK i)), (2, .int a2), (3, .int a3)] := hl
  have hl6 := z_lenB hi
  refine lv_iload_n hx hb dX9_isWord_0 rfl (lv_at hl 2 rfl) ?_
  refine lv_if_lt (tgt := 23) hx hb dX9_isWord_1 (by decide) (fun c1 => (by have g := z_f_lt rfl z_l0 c1; omega)) (fun c1 => ?_)
  have g2 := z_f_nlt rfl z_l0 c1
  refine lv_iload_n hx hb dX9_isWord_4 rfl (lv_at hl 3 rfl) ?_
  refine lv_aload_n hx hb dX9_isWord_5 rfl (lv_at hl 0 rfl) ?_
  refine z_get (T := TX9) (N := 14) (ci := 9) (i := 12) (v := .ref (ad 13)) hx hb hts zj_X9_isWord_X9 hown hK hW rfl rfl 0 (by decide) (hts (.fieldLink RX9 9 "PetrolBoard$Reader" "text" "[I") (me_s (me_l (me_l (List.mem_of_getElem? (i := 0) rfl))))) (fun _ h => h) rfl dX9_isWord_6 ?_
  refine z_alen (i := 13) (v := 500) hx hb hK hW rfl (by simp [z_tys]) (by rfl) dX9_isWord_9 ?_
  refine lv_icmp_gt (tgt := 23) hx hb dX9_isWord_10 (by decide) (fun c3 => (by have g := z_f_gt rfl z_l500 c3; omega)) (fun c3 => ?_)
  have g4 := z_f_ngt rfl z_l500 c3
  refine lv_aload_n hx hb dX9_isWord_13 rfl (lv_at hl 1 rfl) ?_
  refine z_ci hW hS hA (va_runV (As := []) (rest := []) ⟨hx, hb, hml, hown, hts⟩ (sx_J0_length_8abf5 l G adK adV ad I (shC c, ad, I, JX, PC c ad) i  hi  _) (cwV 0 hts gX9_isWord_J0_length_8abf5 rfl rfl rfl hy_J0_length_8abf5 ⟨Nat.le_of_ble_eq_true rfl, Nat.le_of_ble_eq_true rfl⟩) (z_preKN (z_Ck.nice adK adV) hK hW hS hA hKn (vk_recv hKn.1 hi hS)) rfl rfl hl.1 rfl (lv_room (Nat.le_of_ble_eq_true rfl)) dX9_isWord_14 ⟨Nat.le_of_ble_eq_true rfl, Nat.le_of_ble_eq_true rfl⟩) (fun r u1 H locs hp hW hS => ?_)
  obtain ⟨e9, hp⟩ := hp
  rw [e9] at hW
  rw [hp]
  have h5 := z_lenB hi
  refine lv_iload_n hx hb dX9_isWord_17 rfl (lv_at hl 3 rfl) ?_
  refine lv_iload_n hx hb dX9_isWord_18 rfl (lv_at hl 2 rfl) ?_
  refine lv_isub hx hb dX9_isWord_19 ?_
  refine lv_topi (fun x6 ex6 => ?_)
  have tx6 : x6.toInt = a3.toInt - a2.toInt := z_tsub ex6 rfl rfl (by omega) (by omega)
  refine lv_icmp_eq (tgt := 25) hx hb dX9_isWord_20 (by decide) (fun c7 => ?_) (fun c7 => ?_)
  · have g8 := z_f_eq (z_lenT hi) rfl c7
    refine lv_iconst (v := 0) hx hb dX9_isWord_25 (by decide) ?_
    refine lv_istore (lv' := [(4, .int 0), (0, .ref (ad 12)), (1, .ref (adK i)), (2, .int a2), (3, .int a3)]) hx hb dX9_isWord_26 hl (by decide) rfl (fun ls hl => ?_)
    have lp9 : ∀ (f : Nat) (y10 : Int32) (H : Heap) (locs : List Loc) (ls : Array Slot), (2147483647 < y10.toInt + (f : Int)) → (0 ≤ y10.toInt) → z_W G A (shC c, ad, I, JX, PC c ad) H → va_S A s.heap H locs → lv_has ls 5 [(4, .int y10), (0, .ref (ad 12)), (1, .ref (adK i)), (2, .int a2), (3, .int a3)] → W p l e (headSpec wsX9_isWord { frames := 5, cells := 0, slots := 0, locals := 97 }).room s m ([.ref (ad 12), .ref (adK i), .int a2, .int a3] : List Value).toArray below meth c0 H locs 0 0 (MQ below (va_Qi (fun (r : Int32) (u1 : z_U) => u1 = (shC c, ad, I, JX, PC c ad) ∧ (r = 1 ∨ r = 0)) (z_B G A) A) ([.ref (ad 12), .ref (adK i), .int a2, .int a3] : List Value).toArray s 0 0 A) (F0 m 28 ls []) := by
      intro f
      induction f with
      | zero => intro y10 H locs ls lp9m lp9l4 hW hS hl; exact absurd lp9m (by have := Int32.toInt_lt y10; have := Int32.le_toInt y10; omega)
      | succ f lp9ih =>
        intro y10 H locs ls lp9m lp9l4 hW hS hl
        refine lv_iload hx hb dX9_isWord_28 (lv_at hl 0 rfl) ?_
        refine lv_aload_n hx hb dX9_isWord_30 rfl (lv_at hl 2 rfl) ?_
        refine z_ci hW hS hA (va_runV (As := []) (rest := [.int y10]) ⟨hx, hb, hml, hown, hts⟩ (sx_J0_length_8abf5 l G adK adV ad I (shC c, ad, I, JX, PC c ad) i  hi  _) (cwV 0 hts gX9_isWord_J0_length_8abf5 rfl rfl rfl hy_J0_length_8abf5 ⟨Nat.le_of_ble_eq_true rfl, Nat.le_of_ble_eq_true rfl⟩) (z_preKN (z_Ck.nice adK adV) hK hW hS hA hKn (vk_recv hKn.1 hi hS)) rfl rfl hl.1 rfl (lv_room (Nat.le_of_ble_eq_true rfl)) dX9_isWord_31 ⟨Nat.le_of_ble_eq_true rfl, Nat.le_of_ble_eq_true rfl⟩) (fun r u1 H locs hp hW hS => ?_)
        obtain ⟨e9, hp⟩ := hp
        rw [e9] at hW
        rw [hp]
        have h11 := z_lenB hi
        refine lv_icmp_ge (tgt := 75) hx hb dX9_isWord_34 (by decide) (fun c12 => ?_) (fun c12 => ?_)
        · have g13 := z_f_ge rfl (z_lenT hi) c12
          have b14 := Int32.toInt_lt y10
          refine lv_iconst (v := 1) hx hb dX9_isWord_75 (by decide) ?_
          exact z_zret hx hb hr (by decide) hK hS (Nat.le_of_ble_eq_true rfl) (Nat.le_of_ble_eq_true rfl) hlocks dX9_isWord_76 (shC c, ad, I, JX, PC c ad) hW ⟨rfl, Or.inl rfl⟩
        · have g15 := z_f_nge rfl (z_lenT hi) c12
          have b16 := Int32.toInt_lt y10
          refine lv_iload_n hx hb dX9_isWord_37 rfl (lv_at hl 3 rfl) ?_
          refine lv_iload hx hb dX9_isWord_38 (lv_at hl 0 rfl) ?_
          refine lv_iadd hx hb dX9_isWord_40 ?_
          refine lv_topi (fun x17 ex17 => ?_)
          have tx17 : x17.toInt = a2.toInt + y10.toInt := z_tadd ex17 rfl rfl (by omega) (by omega)
          refine lv_aload_n hx hb dX9_isWord_41 rfl (lv_at hl 1 rfl) ?_
          refine z_get (T := TX9) (N := 14) (ci := 9) (i := 12) (v := .ref (ad 13)) hx hb hts zj_X9_isWord_X9 hown hK hW rfl rfl 0 (by decide) (hts (.fieldLink RX9 9 "PetrolBoard$Reader" "text" "[I") (me_s (me_l (me_l (List.mem_of_getElem? (i := 0) rfl))))) (fun _ h => h) rfl dX9_isWord_42 ?_
          refine z_alen (i := 13) (v := 500) hx hb hK hW rfl (by simp [z_tys]) (by rfl) dX9_isWord_45 ?_
          refine lv_icmp_ge (tgt := 75) hx hb dX9_isWord_46 (by decide) (fun c18 => ?_) (fun c18 => ?_)
          · have g19 := z_f_ge rfl z_l500 c18
            refine lv_iconst (v := 1) hx hb dX9_isWord_75 (by decide) ?_
            exact z_zret hx hb hr (by decide) hK hS (Nat.le_of_ble_eq_true rfl) (Nat.le_of_ble_eq_true rfl) hlocks dX9_isWord_76 (shC c, ad, I, JX, PC c ad) hW ⟨rfl, Or.inl rfl⟩
          · have g20 := z_f_nge rfl z_l500 c18
            refine lv_aload_n hx hb dX9_isWord_49 rfl (lv_at hl 2 rfl) ?_
            refine lv_iload hx hb dX9_isWord_50 (lv_at hl 0 rfl) ?_
            refine z_ci hW hS hA (va_runV (As := [.int y10]) (rest := []) ⟨hx, hb, hml, hown, hts⟩ (sx_J0_charAt_5068e l G adK adV ad I (shC c, ad, I, JX, PC c ad) i y10 hi (by have := z_lenT hi; omega) (by have := z_lenT hi; omega) _) (cwV 1 hts gX9_isWord_J0_charAt_5068e rfl rfl rfl hy_J0_charAt_5068e ⟨Nat.le_of_ble_eq_true rfl, Nat.le_of_ble_eq_true rfl⟩) (z_preKN (z_Ck.nice adK adV) hK hW hS hA hKn (vk_recv hKn.1 hi hS)) rfl rfl hl.1 rfl (lv_room (Nat.le_of_ble_eq_true rfl)) dX9_isWord_52 ⟨Nat.le_of_ble_eq_true rfl, Nat.le_of_ble_eq_true rfl⟩) (fun r u1 H locs hp hW hS => ?_)
            rw [hp] at hW
            refine lv_topi (fun x21 ex21 => ?_)
            refine lv_aload_n hx hb dX9_isWord_55 rfl (lv_at hl 1 rfl) ?_
            refine z_get (T := TX9) (N := 14) (ci := 9) (i := 12) (v := .ref (ad 13)) hx hb hts zj_X9_isWord_X9 hown hK hW rfl rfl 0 (by decide) (hts (.fieldLink RX9 9 "PetrolBoard$Reader" "text" "[I") (me_s (me_l (me_l (List.mem_of_getElem? (i := 0) rfl))))) (fun _ h => h) rfl dX9_isWord_56 ?_
            refine lv_iload_n hx hb dX9_isWord_59 rfl (lv_at hl 3 rfl) ?_
            refine lv_iload hx hb dX9_isWord_60 (lv_at hl 0 rfl) ?_
            refine lv_iadd hx hb dX9_isWord_62 ?_
            refine lv_topi (fun x22 ex22 => ?_)
            have tx22 : x22.toInt = a2.toInt + y10.toInt := z_tadd ex22 rfl rfl (by omega) (by omega)
            refine z_iald (i := 13) hx hb hK hW rfl (z_ix rfl (by omega) (by omega)) dX9_isWord_63 ?_
            refine lv_topi (fun x23 ex23 => ?_)
            refine lv_icmp_eq (tgt := 69) hx hb dX9_isWord_64 (by decide) (fun c24 => ?_) (fun c24 => ?_)
            · have g25 := z_f_eq rfl rfl c24
              have b26 := Int32.toInt_lt x21
              have b27 := Int32.toInt_lt x23
              obtain ⟨x28, ex28⟩ : ∃ y : Int32, y = y10 + 1 := ⟨_, rfl⟩
              have tx28 : x28.toInt = y10.toInt + 1 := z_tadd ex28 rfl z_l1 (by omega) (by omega)
              refine lv_iinc (v := x28) (lv' := [(4, .int x28), (0, .ref (ad 12)), (1, .ref (adK i)), (2, .int a2), (3, .int a3)]) hx hb dX9_isWord_69 hl (k := 0) rfl (by rw [ex28]; rfl) (by decide) rfl (fun ls hl => ?_)
              refine lv_goto (tgt := 28) hx hb dX9_isWord_72 (by decide) ?_
              exact lp9ih x28 _ _ _ (by omega) (by omega) hW hS (lv_sub hl [0, 1, 2, 3, 4] rfl)
            · have g29 := z_f_ne rfl rfl c24
              have b30 := Int32.toInt_lt x21
              have b31 := Int32.toInt_lt x23
              refine lv_iconst (v := 0) hx hb dX9_isWord_67 (by decide) ?_
              exact z_zret hx hb hr (by decide) hK hS (Nat.le_of_ble_eq_true rfl) (Nat.le_of_ble_eq_true rfl) hlocks dX9_isWord_68 (shC c, ad, I, JX, PC c ad) hW ⟨rfl, Or.inr rfl⟩
    exact lp9 4294967296 (0) _ _ _ (z_m0u _) (by rw [z_l0]; omega) hW hS (lv_sub hl [0, 1, 2, 3, 4] rfl)
  · have g32 := z_f_ne (z_lenT hi) rfl c7
    refine lv_iconst (v := 0) hx hb dX9_isWord_23 (by decide) ?_
    exact z_zret hx hb hr (by decide) hK hS (Nat.le_of_ble_eq_true rfl) (Nat.le_of_ble_eq_true rfl) hlocks dX9_isWord_24 (shC c, ad, I, JX, PC c ad) hW ⟨rfl, Or.inr rfl⟩
set_option maxHeartbeats 8000000 in
set_option maxRecDepth 100000 in
theorem sx_X9_wordOf (l : Launch) (G : z_G) (adK adV : Nat → Nat) (ad : Nat → Nat) (c : z_C) (I : z_I) (a1 : Int32) (a2 : Int32) (q1 : 0 ≤ a1.toInt ∧ a1.toInt ≤ 499) (q2 : 0 ≤ a2.toInt ∧ a2.toInt ≤ 500) : z_MN (z_Ck adK adV) l yX9_wordOf wsX9_wordOf { frames := 6, cells := 0, slots := 0, locals := 121 } [.ref (ad 12), .int a1, .int a2] G (shC c, ad, I, JX, PC c ad) (fun r u1 => u1 = (shC c, ad, I, JX, PC c ad)) 0 0 := by
  intro sz
  refine z_headN (cc := cX9_wordOf) (maxL := 4) (ret := (some .int)) (by decide) rfl (Nat.le_of_ble_eq_true rfl) ?_
  intro p e s m below meth c0 ls hIn hK hsz hW hl hKn
  obtain ⟨hx, hb, hr, hml, hown, hts, hlocks, hname⟩ := hIn
  subst hsz
  have hown : s.vm.findClass RX9 = some m.cls := hown
  have hA : ∀ q : Nat, s.heap.size ≤ q → z_A (shC c, ad, I, JX, PC c ad) s.heap.size q := fun q h => Or.inr h
  generalize hAe : z_A (shC c, ad, I, JX, PC c ad) s.heap.size = A at *
  have hS : va_S A s.heap s.heap [] := va_S.rf
  have hl : lv_has ls 4 [(0, .ref (ad 12)), (1, .int a1), (2, .int a2)] := hl
  refine lv_sipush (v := 300) hx hb dX9_wordOf_0 (by decide) ?_
  refine lv_istore_n (lv' := [(3, .int 300), (0, .ref (ad 12)), (1, .int a1), (2, .int a2)]) hx hb dX9_wordOf_3 rfl hl (by decide) rfl (fun ls hl => ?_)
  have lp1 : ∀ (f : Nat) (y2 : Int32) (H : Heap) (locs : List Loc) (ls : Array Slot), (2147483647 < y2.toInt + (f : Int)) → (300 ≤ y2.toInt) → z_W G A (shC c, ad, I, JX, PC c ad) H → va_S A s.heap H locs → lv_has ls 4 [(3, .int y2), (0, .ref (ad 12)), (1, .int a1), (2, .int a2)] → W p l e (headSpec wsX9_wordOf { frames := 6, cells := 0, slots := 0, locals := 121 }).room s m ([.ref (ad 12), .int a1, .int a2] : List Value).toArray below meth c0 H locs 0 0 (MQ below (va_Qi (fun (r : Int32) (u1 : z_U) => u1 = (shC c, ad, I, JX, PC c ad)) (z_B G A) A) ([.ref (ad 12), .int a1, .int a2] : List Value).toArray s 0 0 A) (F0 m 4 ls []) := by
    intro f
    induction f with
    | zero => intro y2 H locs ls lp1m lp1l3 hW hS hl; exact absurd lp1m (by have := Int32.toInt_lt y2; have := Int32.le_toInt y2; omega)
    | succ f lp1ih =>
      intro y2 H locs ls lp1m lp1l3 hW hS hl
      refine lv_iload_n hx hb dX9_wordOf_4 rfl (lv_at hl 0 rfl) ?_
      refine lv_sipush (v := 320) hx hb dX9_wordOf_5 (by decide) ?_
      refine lv_icmp_gt (tgt := 32) hx hb dX9_wordOf_8 (by decide) (fun c3 => ?_) (fun c3 => ?_)
      · have g4 := z_f_gt rfl z_l320 c3
        have b5 := Int32.toInt_lt y2
        refine lv_sipush (v := 402) hx hb dX9_wordOf_32 (by decide) ?_
        exact z_iret hx hb hr hK hS (Nat.le_of_ble_eq_true rfl) (Nat.le_of_ble_eq_true rfl) hlocks dX9_wordOf_35 (shC c, ad, I, JX, PC c ad) hW rfl
      · have g6 := z_f_ngt rfl z_l320 c3
        have b7 := Int32.toInt_lt y2
        refine lv_aload_n hx hb dX9_wordOf_11 rfl (lv_at hl 1 rfl) ?_
        refine lv_iload_n hx hb dX9_wordOf_12 rfl (lv_at hl 0 rfl) ?_
        refine z_cq hW hS hA (va_runS (As := [.int y2]) (rest := [.ref (ad 12)]) ⟨hx, hb, hml, hown, hts⟩ (sx_X9_wordText l G adK adV ad c I  y2  _) (va_cwS 1 hts gX9_wordOf_X9_wordText rfl rfl rfl hy_X9_wordText.2 ⟨Nat.le_of_ble_eq_true rfl, Nat.le_of_ble_eq_true rfl⟩) (z_preSN (z_Ck.nice adK adV) hK hW hS hA hKn) rfl rfl hl.1 rfl (lv_room (Nat.le_of_ble_eq_true rfl)) dX9_wordOf_13 ⟨Nat.le_of_ble_eq_true rfl, Nat.le_of_ble_eq_true rfl⟩) (fun r u1 H locs hp hW hS => ?_)
        obtain ⟨e9, hp⟩ := hp
        rw [e9] at hW
        obtain ⟨i, hi, rfl⟩ := hp
        refine W.eq (g2 := F0 m 16 ls (.ref (adK i) :: [.ref (ad 12)])) rfl ?_
        refine lv_iload_n hx hb dX9_wordOf_16 rfl (lv_at hl 2 rfl) ?_
        refine lv_iload_n hx hb dX9_wordOf_17 rfl (lv_at hl 3 rfl) ?_
        refine z_ci hW hS hA (va_runV (As := [.ref (adK i), .int a1, .int a2]) (rest := []) ⟨hx, hb, hml, hown, hts⟩ (sx_X9_isWord l G adK adV ad c I i a1 a2 hi (by omega) (by omega) _) (cwV 3 hts gX9_wordOf_X9_isWord rfl rfl rfl hy_X9_isWord ⟨Nat.le_of_ble_eq_true rfl, Nat.le_of_ble_eq_true rfl⟩) (z_preVN (z_Ck.nice adK adV) (i := 12) hK hW hS hA hKn rfl rfl) rfl rfl hl.1 rfl (lv_room (Nat.le_of_ble_eq_true rfl)) dX9_wordOf_18 ⟨Nat.le_of_ble_eq_true rfl, Nat.le_of_ble_eq_true rfl⟩) (fun r u1 H locs hp hW hS => ?_)
        obtain ⟨e9, hp⟩ := hp
        rw [e9] at hW
        rcases hp with rfl | rfl
        · refine lv_if_eq (tgt := 26) hx hb dX9_wordOf_21 (by decide) (fun c8 => absurd c8 (by decide)) (fun c8 => ?_)
          refine lv_iload_n hx hb dX9_wordOf_24 rfl (lv_at hl 0 rfl) ?_
          exact z_iret hx hb hr hK hS (Nat.le_of_ble_eq_true rfl) (Nat.le_of_ble_eq_true rfl) hlocks dX9_wordOf_25 (shC c, ad, I, JX, PC c ad) hW rfl
        · refine lv_if_eq (tgt := 26) hx hb dX9_wordOf_21 (by decide) (fun c9 => ?_) (fun c9 => absurd (by decide) c9)
          obtain ⟨x10, ex10⟩ : ∃ y : Int32, y = y2 + 1 := ⟨_, rfl⟩
          have tx10 : x10.toInt = y2.toInt + 1 := z_tadd ex10 rfl z_l1 (by omega) (by omega)
          refine lv_iinc (v := x10) (lv' := [(3, .int x10), (0, .ref (ad 12)), (1, .int a1), (2, .int a2)]) hx hb dX9_wordOf_26 hl (k := 0) rfl (by rw [ex10]; rfl) (by decide) rfl (fun ls hl => ?_)
          refine lv_goto (tgt := 4) hx hb dX9_wordOf_29 (by decide) ?_
          exact lp1ih x10 _ _ _ (by omega) (by omega) hW hS (lv_sub hl [0, 1, 2, 3] rfl)
  exact lp1 4294967296 (300) _ _ _ (z_m0u _) (by rw [z_l300]; omega) hW hS (lv_sub hl [0, 1, 2, 3] rfl)
theorem zj_X9_tokenOf_X9 : ∀ w ∈ wsX90, w ∈ wsX9_tokenOf := fun w h => (List.mem_cons_of_mem _ (List.mem_append_right _ h))
set_option maxHeartbeats 8000000 in
set_option maxRecDepth 100000 in
theorem sx_X9_tokenOf (l : Launch) (G : z_G) (adK adV : Nat → Nat) (ad : Nat → Nat) (c : z_C) (I : z_I) (a1 : Int32) (a2 : Int32) (q1 : 0 ≤ a1.toInt ∧ a1.toInt ≤ 499) (q2 : 0 ≤ a2.toInt ∧ a2.toInt ≤ 500) : z_MN (z_Ck adK adV) l yX9_tokenOf wsX9_tokenOf { frames := 7, cells := 0, slots := 0, locals := 144 } [.ref (ad 12), .int a1, .int a2] G (shC c, ad, I, JX, PC c ad) (fun r u1 => u1 = (shC c, ad, I, JX, PC c ad)) 0 0 := by
  intro sz
  refine z_headN (cc := cX9_tokenOf) (maxL := 4) (ret := (some .int)) (by decide) rfl (Nat.le_of_ble_eq_true rfl) ?_
  intro p e s m below meth c0 ls hIn hK hsz hW hl hKn
  obtain ⟨hx, hb, hr, hml, hown, hts, hlocks, hname⟩ := hIn
  subst hsz
  have hown : s.vm.findClass RX9 = some m.cls := hown
  have hA : ∀ q : Nat, s.heap.size ≤ q → z_A (shC c, ad, I, JX, PC c ad) s.heap.size q := fun q h => Or.inr h
  generalize hAe : z_A (shC c, ad, I, JX, PC c ad) s.heap.size = A at *
  have hS : va_S A s.heap s.heap [] := va_S.rf
  have hl : lv_has ls 4 [(0, .ref (ad 12)), (1, .int a1), (2, .int a2)] := hl
  refine lv_iload_n hx hb dX9_tokenOf_0 rfl (lv_at hl 1 rfl) ?_
  refine lv_if_lt (tgt := 13) hx hb dX9_tokenOf_1 (by decide) (fun c1 => (by have g := z_f_lt rfl z_l0 c1; omega)) (fun c1 => ?_)
  have g2 := z_f_nlt rfl z_l0 c1
  refine lv_iload_n hx hb dX9_tokenOf_4 rfl (lv_at hl 1 rfl) ?_
  refine lv_aload_n hx hb dX9_tokenOf_5 rfl (lv_at hl 0 rfl) ?_
  refine z_get (T := TX9) (N := 14) (ci := 9) (i := 12) (v := .ref (ad 13)) hx hb hts zj_X9_tokenOf_X9 hown hK hW rfl rfl 0 (by decide) (hts (.fieldLink RX9 9 "PetrolBoard$Reader" "text" "[I") (me_s (me_l (me_l (List.mem_of_getElem? (i := 0) rfl))))) (fun _ h => h) rfl dX9_tokenOf_6 ?_
  refine z_alen (i := 13) (v := 500) hx hb hK hW rfl (by simp [z_tys]) (by rfl) dX9_tokenOf_9 ?_
  refine lv_icmp_lt (tgt := 17) hx hb dX9_tokenOf_10 (by decide) (fun c3 => ?_) (fun c3 => (by have g := z_f_nlt rfl z_l500 c3; omega))
  have g4 := z_f_lt rfl z_l500 c3
  refine lv_aload_n hx hb dX9_tokenOf_17 rfl (lv_at hl 0 rfl) ?_
  refine z_get (T := TX9) (N := 14) (ci := 9) (i := 12) (v := .ref (ad 13)) hx hb hts zj_X9_tokenOf_X9 hown hK hW rfl rfl 0 (by decide) (hts (.fieldLink RX9 9 "PetrolBoard$Reader" "text" "[I") (me_s (me_l (me_l (List.mem_of_getElem? (i := 0) rfl))))) (fun _ h => h) rfl dX9_tokenOf_18 ?_
  refine lv_iload_n hx hb dX9_tokenOf_21 rfl (lv_at hl 1 rfl) ?_
  refine z_iald (i := 13) hx hb hK hW rfl (z_ix rfl (by omega) (by omega)) dX9_tokenOf_22 ?_
  refine lv_topi (fun x5 ex5 => ?_)
  refine lv_istore_n (lv' := [(3, .int x5), (0, .ref (ad 12)), (1, .int a1), (2, .int a2)]) hx hb dX9_tokenOf_23 rfl hl (by decide) rfl (fun ls hl => ?_)
  refine lv_iload_n hx hb dX9_tokenOf_24 rfl (lv_at hl 0 rfl) ?_
  refine z_ci hW hS hA (va_runS (As := [.int x5]) (rest := []) ⟨hx, hb, hml, hown, hts⟩ (sx_X9_isLetter l G ad c I  x5  _) (va_cwS 1 hts gX9_tokenOf_X9_isLetter rfl rfl rfl hy_X9_isLetter.2 ⟨Nat.le_of_ble_eq_true rfl, Nat.le_of_ble_eq_true rfl⟩) (z_preS hK hW) rfl rfl hl.1 rfl (lv_room (Nat.le_of_ble_eq_true rfl)) dX9_tokenOf_25 ⟨Nat.le_of_ble_eq_true rfl, Nat.le_of_ble_eq_true rfl⟩) (fun r u1 H locs hp hW hS => ?_)
  obtain ⟨e9, hp⟩ := hp
  rw [e9] at hW
  rcases hp with rfl | rfl
  · refine lv_if_eq (tgt := 38) hx hb dX9_tokenOf_28 (by decide) (fun c6 => absurd c6 (by decide)) (fun c6 => ?_)
    refine lv_aload_n hx hb dX9_tokenOf_31 rfl (lv_at hl 1 rfl) ?_
    refine lv_iload_n hx hb dX9_tokenOf_32 rfl (lv_at hl 2 rfl) ?_
    refine lv_iload_n hx hb dX9_tokenOf_33 rfl (lv_at hl 3 rfl) ?_
    refine z_ci hW hS hA (va_runV (As := [.int a1, .int a2]) (rest := []) ⟨hx, hb, hml, hown, hts⟩ (sx_X9_wordOf l G adK adV ad c I  a1 a2 (by first | omega | decide) (by first | omega | decide) _) (cwV 2 hts gX9_tokenOf_X9_wordOf rfl rfl rfl hy_X9_wordOf ⟨Nat.le_of_ble_eq_true rfl, Nat.le_of_ble_eq_true rfl⟩) (z_preVN (z_Ck.nice adK adV) (i := 12) hK hW hS hA hKn rfl rfl) rfl rfl hl.1 rfl (lv_room (Nat.le_of_ble_eq_true rfl)) dX9_tokenOf_34 ⟨Nat.le_of_ble_eq_true rfl, Nat.le_of_ble_eq_true rfl⟩) (fun r u1 H locs hp hW hS => ?_)
    rw [hp] at hW
    refine lv_topi (fun x7 ex7 => ?_)
    exact z_iret hx hb hr hK hS (Nat.le_of_ble_eq_true rfl) (Nat.le_of_ble_eq_true rfl) hlocks dX9_tokenOf_37 (shC c, ad, I, JX, PC c ad) hW rfl
  · refine lv_if_eq (tgt := 38) hx hb dX9_tokenOf_28 (by decide) (fun c8 => ?_) (fun c8 => absurd (by decide) c8)
    refine lv_iload_n hx hb dX9_tokenOf_38 rfl (lv_at hl 0 rfl) ?_
    refine z_ci hW hS hA (va_runS (As := [.int x5]) (rest := []) ⟨hx, hb, hml, hown, hts⟩ (sx_X9_isDigit l G ad c I  x5  _) (va_cwS 1 hts gX9_tokenOf_X9_isDigit rfl rfl rfl hy_X9_isDigit.2 ⟨Nat.le_of_ble_eq_true rfl, Nat.le_of_ble_eq_true rfl⟩) (z_preS hK hW) rfl rfl hl.1 rfl (lv_room (Nat.le_of_ble_eq_true rfl)) dX9_tokenOf_39 ⟨Nat.le_of_ble_eq_true rfl, Nat.le_of_ble_eq_true rfl⟩) (fun r u1 H locs hp hW hS => ?_)
    obtain ⟨e9, hp⟩ := hp
    rw [e9] at hW
    rcases hp with rfl | rfl
    · refine lv_if_eq (tgt := 63) hx hb dX9_tokenOf_42 (by decide) (fun c9 => absurd c9 (by decide)) (fun c9 => ?_)
      refine lv_iload_n hx hb dX9_tokenOf_45 rfl (lv_at hl 3 rfl) ?_
      refine lv_iload_n hx hb dX9_tokenOf_46 rfl (lv_at hl 2 rfl) ?_
      refine lv_isub hx hb dX9_tokenOf_47 ?_
      refine lv_topi (fun x10 ex10 => ?_)
      have tx10 : x10.toInt = a2.toInt - a1.toInt := z_tsub ex10 rfl rfl (by omega) (by omega)
      refine lv_bipush (v := 6) hx hb dX9_tokenOf_48 (by decide) ?_
      refine lv_icmp_gt (tgt := 59) hx hb dX9_tokenOf_50 (by decide) (fun c11 => ?_) (fun c11 => ?_)
      · have g12 := z_f_gt rfl z_l6 c11
        refine lv_sipush (v := 402) hx hb dX9_tokenOf_59 (by decide) ?_
        exact z_iret hx hb hr hK hS (Nat.le_of_ble_eq_true rfl) (Nat.le_of_ble_eq_true rfl) hlocks dX9_tokenOf_62 (shC c, ad, I, JX, PC c ad) hW rfl
      · have g13 := z_f_ngt rfl z_l6 c11
        refine lv_sipush (v := 400) hx hb dX9_tokenOf_53 (by decide) ?_
        refine lv_goto (tgt := 62) hx hb dX9_tokenOf_56 (by decide) ?_
        exact z_iret hx hb hr hK hS (Nat.le_of_ble_eq_true rfl) (Nat.le_of_ble_eq_true rfl) hlocks dX9_tokenOf_62 (shC c, ad, I, JX, PC c ad) hW rfl
    · refine lv_if_eq (tgt := 63) hx hb dX9_tokenOf_42 (by decide) (fun c14 => ?_) (fun c14 => absurd (by decide) c14)
      refine lv_iload_n hx hb dX9_tokenOf_63 rfl (lv_at hl 0 rfl) ?_
      refine z_ci hW hS hA (va_runS (As := [.int x5]) (rest := []) ⟨hx, hb, hml, hown, hts⟩ (sx_X9_isSign l G ad c I  x5  _) (va_cwS 1 hts gX9_tokenOf_X9_isSign rfl rfl rfl hy_X9_isSign.2 ⟨Nat.le_of_ble_eq_true rfl, Nat.le_of_ble_eq_true rfl⟩) (z_preS hK hW) rfl rfl hl.1 rfl (lv_room (Nat.le_of_ble_eq_true rfl)) dX9_tokenOf_64 ⟨Nat.le_of_ble_eq_true rfl, Nat.le_of_ble_eq_true rfl⟩) (fun r u1 H locs hp hW hS => ?_)
      obtain ⟨e9, hp⟩ := hp
      rw [e9] at hW
      rcases hp with rfl | rfl
      · refine lv_if_eq (tgt := 74) hx hb dX9_tokenOf_67 (by decide) (fun c15 => absurd c15 (by decide)) (fun c15 => ?_)
        refine lv_iload_n hx hb dX9_tokenOf_70 rfl (lv_at hl 0 rfl) ?_
        refine lv_goto (tgt := 77) hx hb dX9_tokenOf_71 (by decide) ?_
        exact z_iret hx hb hr hK hS (Nat.le_of_ble_eq_true rfl) (Nat.le_of_ble_eq_true rfl) hlocks dX9_tokenOf_77 (shC c, ad, I, JX, PC c ad) hW rfl
      · refine lv_if_eq (tgt := 74) hx hb dX9_tokenOf_67 (by decide) (fun c16 => ?_) (fun c16 => absurd (by decide) c16)
        refine lv_sipush (v := 402) hx hb dX9_tokenOf_74 (by decide) ?_
        exact z_iret hx hb hr hK hS (Nat.le_of_ble_eq_true rfl) (Nat.le_of_ble_eq_true rfl) hlocks dX9_tokenOf_77 (shC c, ad, I, JX, PC c ad) hW rfl
noncomputable def L_X9_scan : z_L := [(14, 999), (16, 999), (15, 999), (12, 5)]
theorem zj_X9_scan_X9 : ∀ w ∈ wsX90, w ∈ wsX9_scan := fun w h => (List.mem_cons_of_mem _ (List.mem_append_right _ h))
set_option maxHeartbeats 8000000 in
set_option maxRecDepth 100000 in
theorem sx_X9_scan (l : Launch) (G : z_G) (adK adV : Nat → Nat) (ad : Nat → Nat) (c : z_C) (I : z_I) (hR : z_iR I) (a1 : Int32) (q1 : 0 ≤ a1.toInt) : z_MvN (z_Ck adK adV) l yX9_scan wsX9_scan { frames := 8, cells := 0, slots := 0, locals := 167 } [.ref (ad 12), .int a1] G (shC c, ad, I, JX, PC c ad) (fun u1 => ∃ I1 : z_I, u1 = (shC c, ad, I1, JX, PC c ad) ∧ z_iR I1 ∧ z_fr L_X9_scan I1 I) 0 0 := by
  intro sz
  refine z_headN (cc := cX9_scan) (maxL := 5) (ret := none) (by decide) rfl (Nat.le_of_ble_eq_true rfl) ?_
  intro p e s m below meth c0 ls hIn hK hsz hW hl hKn
  obtain ⟨hx, hb, hr, hml, hown, hts, hlocks, hname⟩ := hIn
  subst hsz
  have hown : s.vm.findClass RX9 = some m.cls := hown
  have hA : ∀ q : Nat, s.heap.size ≤ q → z_A (shC c, ad, I, JX, PC c ad) s.heap.size q := fun q h => Or.inr h
  generalize hAe : z_A (shC c, ad, I, JX, PC c ad) s.heap.size = A at *
  have hS : va_S A s.heap s.heap [] := va_S.rf
  have hl : lv_has ls 5 [(0, .ref (ad 12)), (1, .int a1)] := hl
  refine lv_iload_n hx hb dX9_scan_0 rfl (lv_at hl 1 rfl) ?_
  refine lv_aload_n hx hb dX9_scan_1 rfl (lv_at hl 0 rfl) ?_
  refine z_get (T := TX9) (N := 14) (ci := 9) (i := 12) (v := .ref (ad 13)) hx hb hts zj_X9_scan_X9 hown hK hW rfl rfl 0 (by decide) (hts (.fieldLink RX9 9 "PetrolBoard$Reader" "text" "[I") (me_s (me_l (me_l (List.mem_of_getElem? (i := 0) rfl))))) (fun _ h => h) rfl dX9_scan_2 ?_
  refine z_alen (i := 13) (v := 500) hx hb hK hW rfl (by simp [z_tys]) (by rfl) dX9_scan_5 ?_
  refine va_mmin (x := a1) (y := 500) hx hb (hml.trans hl.1.symm) hown (hts (.methodLink RX9 40 Lib.Math.min.name) (me_s (me_l (me_l (List.mem_of_getElem? (i := 1) rfl))))) (hts (.static Lib.Math.min.name) (me_s (me_l (me_l (List.mem_of_getElem? (i := 2) rfl))))) (hts (.initialized "java/lang/Math") (me_s (me_l (me_l (List.mem_of_getElem? (i := 3) rfl))))) (hts (.code Lib.Math.min.name Lib.Math.min.code 2 (some .int)) (me_s (me_l (me_l (List.mem_of_getElem? (i := 4) rfl))))) (Nat.le_of_ble_eq_true rfl) (Nat.le_of_ble_eq_true rfl) (Nat.le_of_ble_eq_true rfl) (Nat.le_of_ble_eq_true rfl) dX9_scan_6 ?_
  refine lv_topi (fun x1 ex1 => ?_)
  have tx1 := z_tmmin ex1 rfl z_l500
  refine lv_istore_n (lv' := [(2, .int x1), (0, .ref (ad 12)), (1, .int a1)]) hx hb dX9_scan_9 rfl hl (by decide) rfl (fun ls hl => ?_)
  refine lv_aload_n hx hb dX9_scan_10 rfl (lv_at hl 1 rfl) ?_
  refine lv_iconst (v := 0) hx hb dX9_scan_11 (by decide) ?_
  refine z_put (T := TX9) (N := 14) (ci := 9) (i := 12) (v := .int 0) (I1 := z_up I 12 5 0) (J1 := JX) (P1 := PC c ad) hx hb hts zj_X9_scan_X9 tyX9 tyX9_ok nmX9 hown hK hW hS rfl rfl 5 (by decide) (hts (.fieldLink RX9 76 "PetrolBoard$Reader" "scanned" "I") (me_s (me_l (me_l (List.mem_of_getElem? (i := 5) rfl))))) (fun _ h => h) rfl rfl rfl (by first | rfl | exact congrArg _ z_up_s) (fun a b h ty => z_vI h ty) dX9_scan_12 (fun H locs hz1 hW hS => ?_)
  obtain ⟨I2, eI2⟩ : ∃ K : z_I, K = z_up I 12 5 0 := ⟨_, rfl⟩
  rw [← eI2] at hW
  have f3 := z_fr_k z_fr_0 (show z_wr L_X9_scan 12 5 = true by decide) eI2
  refine lv_iconst (v := 0) hx hb dX9_scan_15 (by decide) ?_
  refine lv_istore (lv' := [(4, .int 0), (2, .int x1), (0, .ref (ad 12)), (1, .int a1)]) hx hb dX9_scan_16 hl (by decide) rfl (fun ls hl => ?_)
  have lp4 : ∀ (f : Nat) (y5 : Int32) (I6 : z_I) (H : Heap) (locs : List Loc) (ls : Array Slot), (2147483647 < y5.toInt + (f : Int)) → (0 ≤ y5.toInt) → (y5.toInt ≤ 500) → (z_iR I6) → (z_fr L_X9_scan I6 I) → z_W G A (shC c, ad, I6, JX, PC c ad) H → va_S A s.heap H locs → lv_has ls 5 [(4, .int y5), (2, .int x1), (0, .ref (ad 12)), (1, .int a1)] → W p l e (headSpec wsX9_scan { frames := 8, cells := 0, slots := 0, locals := 167 }).room s m ([.ref (ad 12), .int a1] : List Value).toArray below meth c0 H locs 0 0 (MQ below (va_Qv (fun (u1 : z_U) => ∃ I1 : z_I, u1 = (shC c, ad, I1, JX, PC c ad) ∧ z_iR I1 ∧ z_fr L_X9_scan I1 I) (z_B G A) A) ([.ref (ad 12), .int a1] : List Value).toArray s 0 0 A) (F0 m 18 ls []) := by
    intro f
    induction f with
    | zero => intro y5 I6  H locs ls lp4m lp4l4 lp4u4 lp4R lp4fr hW hS hl; exact absurd lp4m (by have := Int32.toInt_lt y5; have := Int32.le_toInt y5; omega)
    | succ f lp4ih =>
      intro y5 I6  H locs ls lp4m lp4l4 lp4u4 lp4R lp4fr hW hS hl
      refine lv_iload hx hb dX9_scan_18 (lv_at hl 0 rfl) ?_
      refine lv_iload_n hx hb dX9_scan_20 rfl (lv_at hl 1 rfl) ?_
      refine lv_icmp_ge (tgt := 78) hx hb dX9_scan_21 (by decide) (fun c7 => ?_) (fun c7 => ?_)
      · have g8 := z_f_ge rfl rfl c7
        refine lv_aload_n hx hb dX9_scan_78 rfl (lv_at hl 2 rfl) ?_
        refine lv_sipush (v := 401) hx hb dX9_scan_79 (by decide) ?_
        refine lv_iload_n hx hb dX9_scan_82 rfl (lv_at hl 1 rfl) ?_
        refine lv_iconst (v := 0) hx hb dX9_scan_83 (by decide) ?_
        refine z_cv hW hS hA (va_runV (As := [.int 401, .int x1, .int 0]) (rest := []) ⟨hx, hb, hml, hown, hts⟩ (sx_X9_addToken l G ad c I6 ⟨(by show 0 ≤ (I6 12 1).toInt ∧ (I6 12 1).toInt ≤ 500; exact lp4R.1), (by show 0 ≤ (I6 12 5).toInt ∧ (I6 12 5).toInt ≤ 501; exact lp4R.2.1), (by show (-1) ≤ (I6 12 6).toInt ∧ (I6 12 6).toInt ≤ 1000000; exact lp4R.2.2.1), (by show 0 ≤ (I6 12 9).toInt ∧ (I6 12 9).toInt ≤ 500; exact lp4R.2.2.2.1), (by show 0 ≤ (I6 12 13).toInt ∧ (I6 12 13).toInt ≤ 24; exact lp4R.2.2.2.2)⟩ 401 x1 0  _) (cwV 3 hts gX9_scan_X9_addToken rfl rfl rfl hy_X9_addToken ⟨Nat.le_of_ble_eq_true rfl, Nat.le_of_ble_eq_true rfl⟩) (z_preV (i := 12) hK hW rfl rfl) rfl rfl hl.1 rfl (lv_room (Nat.le_of_ble_eq_true rfl)) dX9_scan_84 ⟨Nat.le_of_ble_eq_true rfl, Nat.le_of_ble_eq_true rfl⟩) (fun u1 H locs hp hW hS => ?_)
        obtain ⟨I9, e9, hI9R, fI9⟩ := hp
        rw [e9] at hW
        have f10 := z_fr_sub (L := L_X9_scan) lp4fr fI9 (by decide)
        exact z_vret hx hb hr hK hS (Nat.le_of_ble_eq_true rfl) (Nat.le_of_ble_eq_true rfl) hlocks dX9_scan_87 (shC c, ad, I9, JX, PC c ad) hW ⟨I9, rfl, ⟨(by show 0 ≤ (I9 12 1).toInt ∧ (I9 12 1).toInt ≤ 500; exact hI9R.1), (by show 0 ≤ (I9 12 5).toInt ∧ (I9 12 5).toInt ≤ 501; exact hI9R.2.1), (by show (-1) ≤ (I9 12 6).toInt ∧ (I9 12 6).toInt ≤ 1000000; exact hI9R.2.2.1), (by show 0 ≤ (I9 12 9).toInt ∧ (I9 12 9).toInt ≤ 500; exact hI9R.2.2.2.1), (by show 0 ≤ (I9 12 13).toInt ∧ (I9 12 13).toInt ≤ 24; exact hI9R.2.2.2.2)⟩, f10⟩
      · have g11 := z_f_nge rfl rfl c7
        refine lv_aload_n hx hb dX9_scan_24 rfl (lv_at hl 2 rfl) ?_
        refine lv_iload hx hb dX9_scan_25 (lv_at hl 0 rfl) ?_
        refine lv_iload_n hx hb dX9_scan_27 rfl (lv_at hl 1 rfl) ?_
        refine z_ci hW hS hA (va_runV (As := [.int y5, .int x1]) (rest := []) ⟨hx, hb, hml, hown, hts⟩ (sx_X9_endOf l G ad c I6  y5 x1 (by first | omega | decide) (by first | omega | decide) _) (cwV 2 hts gX9_scan_X9_endOf rfl rfl rfl hy_X9_endOf ⟨Nat.le_of_ble_eq_true rfl, Nat.le_of_ble_eq_true rfl⟩) (z_preV (i := 12) hK hW rfl rfl) rfl rfl hl.1 rfl (lv_room (Nat.le_of_ble_eq_true rfl)) dX9_scan_28 ⟨Nat.le_of_ble_eq_true rfl, Nat.le_of_ble_eq_true rfl⟩) (fun r u1 H locs hp hW hS => ?_)
        obtain ⟨e9, hp⟩ := hp
        rw [e9] at hW
        have h9 := hp
        generalize r = x12 at h9 ⊢
        have h13 := h9
        refine lv_istore_n (lv' := [(3, .int x12), (4, .int y5), (2, .int x1), (0, .ref (ad 12)), (1, .int a1)]) hx hb dX9_scan_31 rfl hl (by decide) rfl (fun ls hl => ?_)
        refine lv_aload_n hx hb dX9_scan_32 rfl (lv_at hl 3 rfl) ?_
        refine z_get (T := TX9) (N := 14) (ci := 9) (i := 12) (v := .ref (ad 13)) hx hb hts zj_X9_scan_X9 hown hK hW rfl rfl 0 (by decide) (hts (.fieldLink RX9 9 "PetrolBoard$Reader" "text" "[I") (me_s (me_l (me_l (List.mem_of_getElem? (i := 0) rfl))))) (fun _ h => h) rfl dX9_scan_33 ?_
        refine lv_iload hx hb dX9_scan_36 (lv_at hl 1 rfl) ?_
        refine z_iald (i := 13) hx hb hK hW rfl (z_ix rfl (by omega) (by omega)) dX9_scan_38 ?_
        refine lv_topi (fun x14 ex14 => ?_)
        refine z_ci hW hS hA (va_runS (As := [.int x14]) (rest := []) ⟨hx, hb, hml, hown, hts⟩ (sx_X9_isBlank l G ad c I6  x14  _) (va_cwS 1 hts gX9_scan_X9_isBlank rfl rfl rfl hy_X9_isBlank.2 ⟨Nat.le_of_ble_eq_true rfl, Nat.le_of_ble_eq_true rfl⟩) (z_preS hK hW) rfl rfl hl.1 rfl (lv_room (Nat.le_of_ble_eq_true rfl)) dX9_scan_39 ⟨Nat.le_of_ble_eq_true rfl, Nat.le_of_ble_eq_true rfl⟩) (fun r u1 H locs hp hW hS => ?_)
        obtain ⟨e9, hp⟩ := hp
        rw [e9] at hW
        rcases hp with rfl | rfl
        · refine lv_if_ne (tgt := 65) hx hb dX9_scan_42 (by decide) (fun c15 => ?_) (fun c15 => absurd c15 (by decide))
          refine lv_iload_n hx hb dX9_scan_65 rfl (lv_at hl 0 rfl) ?_
          refine lv_iload hx hb dX9_scan_66 (lv_at hl 1 rfl) ?_
          refine lv_iconst (v := 1) hx hb dX9_scan_68 (by decide) ?_
          refine lv_iadd hx hb dX9_scan_69 ?_
          refine lv_topi (fun x16 ex16 => ?_)
          have tx16 : x16.toInt = y5.toInt + 1 := z_tadd ex16 rfl z_l1 (by omega) (by omega)
          refine va_mmax (x := x12) (y := x16) hx hb (hml.trans hl.1.symm) hown (hts (.methodLink RX9 128 Lib.Math.max.name) (me_s (me_l (me_l (List.mem_of_getElem? (i := 6) rfl))))) (hts (.static Lib.Math.max.name) (me_s (me_l (me_l (List.mem_of_getElem? (i := 7) rfl))))) (hts (.initialized "java/lang/Math") (me_s (me_l (me_l (List.mem_of_getElem? (i := 3) rfl))))) (hts (.code Lib.Math.max.name Lib.Math.max.code 2 (some .int)) (me_s (me_l (me_l (List.mem_of_getElem? (i := 8) rfl))))) (Nat.le_of_ble_eq_true rfl) (Nat.le_of_ble_eq_true rfl) (Nat.le_of_ble_eq_true rfl) (Nat.le_of_ble_eq_true rfl) dX9_scan_70 ?_
          refine lv_topi (fun x17 ex17 => ?_)
          have tx17 := z_tmmax ex17 rfl rfl
          refine lv_istore (lv' := [(4, .int x17), (3, .int x12), (2, .int x1), (0, .ref (ad 12)), (1, .int a1)]) hx hb dX9_scan_73 hl (by decide) rfl (fun ls hl => ?_)
          refine lv_goto (tgt := 18) hx hb dX9_scan_75 (by decide) ?_
          exact lp4ih x17 I6  _ _ _ (by omega) (by omega) (by omega) ⟨(by show 0 ≤ (I6 12 1).toInt ∧ (I6 12 1).toInt ≤ 500; exact lp4R.1), (by show 0 ≤ (I6 12 5).toInt ∧ (I6 12 5).toInt ≤ 501; exact lp4R.2.1), (by show (-1) ≤ (I6 12 6).toInt ∧ (I6 12 6).toInt ≤ 1000000; exact lp4R.2.2.1), (by show 0 ≤ (I6 12 9).toInt ∧ (I6 12 9).toInt ≤ 500; exact lp4R.2.2.2.1), (by show 0 ≤ (I6 12 13).toInt ∧ (I6 12 13).toInt ≤ 24; exact lp4R.2.2.2.2)⟩ lp4fr hW hS (lv_sub hl [0, 2, 3, 4] rfl)
        · refine lv_if_ne (tgt := 65) hx hb dX9_scan_42 (by decide) (fun c18 => absurd (by decide) c18) (fun c18 => ?_)
          refine lv_aload_n hx hb dX9_scan_45 rfl (lv_at hl 3 rfl) ?_
          refine lv_aload_n hx hb dX9_scan_46 rfl (lv_at hl 3 rfl) ?_
          refine lv_iload hx hb dX9_scan_47 (lv_at hl 1 rfl) ?_
          refine lv_iload_n hx hb dX9_scan_49 rfl (lv_at hl 0 rfl) ?_
          refine z_ci hW hS hA (va_runV (As := [.int y5, .int x12]) (rest := [.ref (ad 12)]) ⟨hx, hb, hml, hown, hts⟩ (sx_X9_tokenOf l G adK adV ad c I6  y5 x12 (by first | omega | decide) (by first | omega | decide) _) (cwV 2 hts gX9_scan_X9_tokenOf rfl rfl rfl hy_X9_tokenOf ⟨Nat.le_of_ble_eq_true rfl, Nat.le_of_ble_eq_true rfl⟩) (z_preVN (z_Ck.nice adK adV) (i := 12) hK hW hS hA hKn rfl rfl) rfl rfl hl.1 rfl (lv_room (Nat.le_of_ble_eq_true rfl)) dX9_scan_50 ⟨Nat.le_of_ble_eq_true rfl, Nat.le_of_ble_eq_true rfl⟩) (fun r u1 H locs hp hW hS => ?_)
          rw [hp] at hW
          refine lv_topi (fun x19 ex19 => ?_)
          refine lv_iload hx hb dX9_scan_53 (lv_at hl 1 rfl) ?_
          refine lv_aload_n hx hb dX9_scan_55 rfl (lv_at hl 3 rfl) ?_
          refine lv_iload hx hb dX9_scan_56 (lv_at hl 1 rfl) ?_
          refine lv_iload_n hx hb dX9_scan_58 rfl (lv_at hl 0 rfl) ?_
          refine z_ci hW hS hA (va_runV (As := [.int y5, .int x12]) (rest := [.int y5, .int x19, .ref (ad 12)]) ⟨hx, hb, hml, hown, hts⟩ (sx_X9_numberOf l G ad c I6  y5 x12 (by first | omega | decide) _) (cwV 2 hts gX9_scan_X9_numberOf rfl rfl rfl hy_X9_numberOf ⟨Nat.le_of_ble_eq_true rfl, Nat.le_of_ble_eq_true rfl⟩) (z_preV (i := 12) hK hW rfl rfl) rfl rfl hl.1 rfl (lv_room (Nat.le_of_ble_eq_true rfl)) dX9_scan_59 ⟨Nat.le_of_ble_eq_true rfl, Nat.le_of_ble_eq_true rfl⟩) (fun r u1 H locs hp hW hS => ?_)
          rw [hp] at hW
          refine lv_topi (fun x20 ex20 => ?_)
          refine z_cv hW hS hA (va_runV (As := [.int x19, .int y5, .int x20]) (rest := []) ⟨hx, hb, hml, hown, hts⟩ (sx_X9_addToken l G ad c I6 ⟨(by show 0 ≤ (I6 12 1).toInt ∧ (I6 12 1).toInt ≤ 500; exact lp4R.1), (by show 0 ≤ (I6 12 5).toInt ∧ (I6 12 5).toInt ≤ 501; exact lp4R.2.1), (by show (-1) ≤ (I6 12 6).toInt ∧ (I6 12 6).toInt ≤ 1000000; exact lp4R.2.2.1), (by show 0 ≤ (I6 12 9).toInt ∧ (I6 12 9).toInt ≤ 500; exact lp4R.2.2.2.1), (by show 0 ≤ (I6 12 13).toInt ∧ (I6 12 13).toInt ≤ 24; exact lp4R.2.2.2.2)⟩ x19 y5 x20  _) (cwV 3 hts gX9_scan_X9_addToken rfl rfl rfl hy_X9_addToken ⟨Nat.le_of_ble_eq_true rfl, Nat.le_of_ble_eq_true rfl⟩) (z_preV (i := 12) hK hW rfl rfl) rfl rfl hl.1 rfl (lv_room (Nat.le_of_ble_eq_true rfl)) dX9_scan_62 ⟨Nat.le_of_ble_eq_true rfl, Nat.le_of_ble_eq_true rfl⟩) (fun u1 H locs hp hW hS => ?_)
          obtain ⟨I21, e9, hI21R, fI21⟩ := hp
          rw [e9] at hW
          have f22 := z_fr_sub (L := L_X9_scan) lp4fr fI21 (by decide)
          refine lv_iload_n hx hb dX9_scan_65 rfl (lv_at hl 0 rfl) ?_
          refine lv_iload hx hb dX9_scan_66 (lv_at hl 1 rfl) ?_
          refine lv_iconst (v := 1) hx hb dX9_scan_68 (by decide) ?_
          refine lv_iadd hx hb dX9_scan_69 ?_
          refine lv_topi (fun x23 ex23 => ?_)
          have tx23 : x23.toInt = y5.toInt + 1 := z_tadd ex23 rfl z_l1 (by omega) (by omega)
          refine va_mmax (x := x12) (y := x23) hx hb (hml.trans hl.1.symm) hown (hts (.methodLink RX9 128 Lib.Math.max.name) (me_s (me_l (me_l (List.mem_of_getElem? (i := 6) rfl))))) (hts (.static Lib.Math.max.name) (me_s (me_l (me_l (List.mem_of_getElem? (i := 7) rfl))))) (hts (.initialized "java/lang/Math") (me_s (me_l (me_l (List.mem_of_getElem? (i := 3) rfl))))) (hts (.code Lib.Math.max.name Lib.Math.max.code 2 (some .int)) (me_s (me_l (me_l (List.mem_of_getElem? (i := 8) rfl))))) (Nat.le_of_ble_eq_true rfl) (Nat.le_of_ble_eq_true rfl) (Nat.le_of_ble_eq_true rfl) (Nat.le_of_ble_eq_true rfl) dX9_scan_70 ?_
          refine lv_topi (fun x24 ex24 => ?_)
          have tx24 := z_tmmax ex24 rfl rfl
          refine lv_istore (lv' := [(4, .int x24), (3, .int x12), (2, .int x1), (0, .ref (ad 12)), (1, .int a1)]) hx hb dX9_scan_73 hl (by decide) rfl (fun ls hl => ?_)
          refine lv_goto (tgt := 18) hx hb dX9_scan_75 (by decide) ?_
          exact lp4ih x24 I21  _ _ _ (by omega) (by omega) (by omega) ⟨(by show 0 ≤ (I21 12 1).toInt ∧ (I21 12 1).toInt ≤ 500; exact hI21R.1), (by show 0 ≤ (I21 12 5).toInt ∧ (I21 12 5).toInt ≤ 501; exact hI21R.2.1), (by show (-1) ≤ (I21 12 6).toInt ∧ (I21 12 6).toInt ≤ 1000000; exact hI21R.2.2.1), (by show 0 ≤ (I21 12 9).toInt ∧ (I21 12 9).toInt ≤ 500; exact hI21R.2.2.2.1), (by show 0 ≤ (I21 12 13).toInt ∧ (I21 12 13).toInt ≤ 24; exact hI21R.2.2.2.2)⟩ f22 hW hS (lv_sub hl [0, 2, 3, 4] rfl)
  exact lp4 4294967296 (0) I2  _ _ _ (z_m0u _) (by rw [z_l0]; omega) (by rw [z_l0]; omega) ⟨(by show 0 ≤ (I2 12 1).toInt ∧ (I2 12 1).toInt ≤ 500; rw [eI2, z_up_k (by decide)]; exact hR.1), (by show 0 ≤ (I2 12 5).toInt ∧ (I2 12 5).toInt ≤ 501; rw [eI2, z_up_s]; decide), (by show (-1) ≤ (I2 12 6).toInt ∧ (I2 12 6).toInt ≤ 1000000; rw [eI2, z_up_k (by decide)]; exact hR.2.2.1), (by show 0 ≤ (I2 12 9).toInt ∧ (I2 12 9).toInt ≤ 500; rw [eI2, z_up_k (by decide)]; exact hR.2.2.2.1), (by show 0 ≤ (I2 12 13).toInt ∧ (I2 12 13).toInt ≤ 24; rw [eI2, z_up_k (by decide)]; exact hR.2.2.2.2)⟩ f3 hW hS (lv_sub hl [0, 1, 2, 3] rfl)
