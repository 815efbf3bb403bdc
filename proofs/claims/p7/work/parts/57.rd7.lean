theorem dX9_isBlank_0 : decode cX9_isBlank 0 = .ok (.iload_n 0, 1) := by decide +kernel
theorem dX9_isBlank_1 : decode cX9_isBlank 1 = .ok (.bipush 32, 2) := by decide +kernel
theorem dX9_isBlank_3 : decode cX9_isBlank 3 = .ok (.if_icmp .eq 9, 3) := by decide +kernel
theorem dX9_isBlank_12 : decode cX9_isBlank 12 = .ok (.iconst 1, 1) := by decide +kernel
theorem dX9_isBlank_13 : decode cX9_isBlank 13 = .ok (.goto 4, 3) := by decide +kernel
theorem dX9_isBlank_17 : decode cX9_isBlank 17 = .ok (.ireturn, 1) := by decide +kernel
theorem dX9_isBlank_6 : decode cX9_isBlank 6 = .ok (.iload_n 0, 1) := by decide +kernel
theorem dX9_isBlank_7 : decode cX9_isBlank 7 = .ok (.bipush 10, 2) := by decide +kernel
theorem dX9_isBlank_9 : decode cX9_isBlank 9 = .ok (.if_icmp .ne 7, 3) := by decide +kernel
theorem dX9_isBlank_16 : decode cX9_isBlank 16 = .ok (.iconst 0, 1) := by decide +kernel
theorem dX9_isLetter_0 : decode cX9_isLetter 0 = .ok (.iload_n 0, 1) := by decide +kernel
theorem dX9_isLetter_1 : decode cX9_isLetter 1 = .ok (.bipush 97, 2) := by decide +kernel
theorem dX9_isLetter_3 : decode cX9_isLetter 3 = .ok (.if_icmp .lt 13, 3) := by decide +kernel
theorem dX9_isLetter_16 : decode cX9_isLetter 16 = .ok (.iconst 0, 1) := by decide +kernel
theorem dX9_isLetter_17 : decode cX9_isLetter 17 = .ok (.ireturn, 1) := by decide +kernel
theorem dX9_isLetter_6 : decode cX9_isLetter 6 = .ok (.iload_n 0, 1) := by decide +kernel
theorem dX9_isLetter_7 : decode cX9_isLetter 7 = .ok (.bipush 122, 2) := by decide +kernel
theorem dX9_isLetter_9 : decode cX9_isLetter 9 = .ok (.if_icmp .gt 7, 3) := by decide +kernel
theorem dX9_isLetter_12 : decode cX9_isLetter 12 = .ok (.iconst 1, 1) := by decide +kernel
theorem dX9_isLetter_13 : decode cX9_isLetter 13 = .ok (.goto 4, 3) := by decide +kernel
theorem dX9_isDigit_0 : decode cX9_isDigit 0 = .ok (.iload_n 0, 1) := by decide +kernel
theorem dX9_isDigit_1 : decode cX9_isDigit 1 = .ok (.bipush 48, 2) := by decide +kernel
theorem dX9_isDigit_3 : decode cX9_isDigit 3 = .ok (.if_icmp .lt 13, 3) := by decide +kernel
theorem dX9_isDigit_16 : decode cX9_isDigit 16 = .ok (.iconst 0, 1) := by decide +kernel
theorem dX9_isDigit_17 : decode cX9_isDigit 17 = .ok (.ireturn, 1) := by decide +kernel
theorem dX9_isDigit_6 : decode cX9_isDigit 6 = .ok (.iload_n 0, 1) := by decide +kernel
theorem dX9_isDigit_7 : decode cX9_isDigit 7 = .ok (.bipush 57, 2) := by decide +kernel
theorem dX9_isDigit_9 : decode cX9_isDigit 9 = .ok (.if_icmp .gt 7, 3) := by decide +kernel
theorem dX9_isDigit_12 : decode cX9_isDigit 12 = .ok (.iconst 1, 1) := by decide +kernel
theorem dX9_isDigit_13 : decode cX9_isDigit 13 = .ok (.goto 4, 3) := by decide +kernel
theorem dX9_isSign_0 : decode cX9_isSign 0 = .ok (.iload_n 0, 1) := by decide +kernel
theorem dX9_isSign_1 : decode cX9_isSign 1 = .ok (.lookupswitch 117 #[(40, 115), (41, 115), (42, 115), (43, 115), (44, 115), (45, 115), (47, 115), (59, 115), (60, 115), (61, 115), (62, 115), (123, 115), (125, 115)], 115) := by decide +kernel
theorem dX9_isSign_116 : decode cX9_isSign 116 = .ok (.iconst 1, 1) := by decide +kernel
theorem dX9_isSign_117 : decode cX9_isSign 117 = .ok (.ireturn, 1) := by decide +kernel
theorem dX9_isSign_118 : decode cX9_isSign 118 = .ok (.iconst 0, 1) := by decide +kernel
theorem dX9_isSign_119 : decode cX9_isSign 119 = .ok (.ireturn, 1) := by decide +kernel
theorem dX9_addToken_0 : decode cX9_addToken 0 = .ok (.aload_n 0, 1) := by decide +kernel
theorem dX9_addToken_1 : decode cX9_addToken 1 = .ok (.getfield 76, 3) := by decide +kernel
theorem dX9_addToken_4 : decode cX9_addToken 4 = .ok (.aload_n 0, 1) := by decide +kernel
theorem dX9_addToken_5 : decode cX9_addToken 5 = .ok (.getfield 15, 3) := by decide +kernel
theorem dX9_addToken_8 : decode cX9_addToken 8 = .ok (.arraylength, 1) := by decide +kernel
theorem dX9_addToken_9 : decode cX9_addToken 9 = .ok (.if_icmp .ge 43, 3) := by decide +kernel
theorem dX9_addToken_52 : decode cX9_addToken 52 = .ok (.return_, 1) := by decide +kernel
theorem dX9_addToken_12 : decode cX9_addToken 12 = .ok (.aload_n 0, 1) := by decide +kernel
theorem dX9_addToken_13 : decode cX9_addToken 13 = .ok (.getfield 15, 3) := by decide +kernel
theorem dX9_addToken_16 : decode cX9_addToken 16 = .ok (.aload_n 0, 1) := by decide +kernel
theorem dX9_addToken_17 : decode cX9_addToken 17 = .ok (.getfield 76, 3) := by decide +kernel
theorem dX9_addToken_20 : decode cX9_addToken 20 = .ok (.iload_n 1, 1) := by decide +kernel
theorem dX9_addToken_21 : decode cX9_addToken 21 = .ok (.iastore, 1) := by decide +kernel
theorem dX9_addToken_22 : decode cX9_addToken 22 = .ok (.aload_n 0, 1) := by decide +kernel
theorem dX9_addToken_23 : decode cX9_addToken 23 = .ok (.getfield 21, 3) := by decide +kernel
theorem dX9_addToken_26 : decode cX9_addToken 26 = .ok (.aload_n 0, 1) := by decide +kernel
theorem dX9_addToken_27 : decode cX9_addToken 27 = .ok (.getfield 76, 3) := by decide +kernel
theorem dX9_addToken_30 : decode cX9_addToken 30 = .ok (.iload_n 2, 1) := by decide +kernel
theorem dX9_addToken_31 : decode cX9_addToken 31 = .ok (.iastore, 1) := by decide +kernel
theorem dX9_addToken_32 : decode cX9_addToken 32 = .ok (.aload_n 0, 1) := by decide +kernel
theorem dX9_addToken_33 : decode cX9_addToken 33 = .ok (.getfield 18, 3) := by decide +kernel
theorem dX9_addToken_36 : decode cX9_addToken 36 = .ok (.aload_n 0, 1) := by decide +kernel
theorem dX9_addToken_37 : decode cX9_addToken 37 = .ok (.getfield 76, 3) := by decide +kernel
theorem dX9_addToken_40 : decode cX9_addToken 40 = .ok (.iload_n 3, 1) := by decide +kernel
theorem dX9_addToken_41 : decode cX9_addToken 41 = .ok (.iastore, 1) := by decide +kernel
theorem dX9_addToken_42 : decode cX9_addToken 42 = .ok (.aload_n 0, 1) := by decide +kernel
theorem dX9_addToken_43 : decode cX9_addToken 43 = .ok (.dup, 1) := by decide +kernel
theorem dX9_addToken_44 : decode cX9_addToken 44 = .ok (.getfield 76, 3) := by decide +kernel
theorem dX9_addToken_47 : decode cX9_addToken 47 = .ok (.iconst 1, 1) := by decide +kernel
theorem dX9_addToken_48 : decode cX9_addToken 48 = .ok (.iadd, 1) := by decide +kernel
theorem dX9_addToken_49 : decode cX9_addToken 49 = .ok (.putfield 76, 3) := by decide +kernel
theorem dX9_endOf_0 : decode cX9_endOf 0 = .ok (.iload_n 1, 1) := by decide +kernel
theorem dX9_endOf_1 : decode cX9_endOf 1 = .ok (.iconst 1, 1) := by decide +kernel
theorem dX9_endOf_2 : decode cX9_endOf 2 = .ok (.iadd, 1) := by decide +kernel
theorem dX9_endOf_3 : decode cX9_endOf 3 = .ok (.istore_n 3, 1) := by decide +kernel
theorem dX9_endOf_4 : decode cX9_endOf 4 = .ok (.iload_n 1, 1) := by decide +kernel
theorem dX9_endOf_5 : decode cX9_endOf 5 = .ok (.ifCond .lt 12, 3) := by decide +kernel
theorem dX9_endOf_8 : decode cX9_endOf 8 = .ok (.iload_n 1, 1) := by decide +kernel
theorem dX9_endOf_9 : decode cX9_endOf 9 = .ok (.aload_n 0, 1) := by decide +kernel
theorem dX9_endOf_10 : decode cX9_endOf 10 = .ok (.getfield 9, 3) := by decide +kernel
theorem dX9_endOf_13 : decode cX9_endOf 13 = .ok (.arraylength, 1) := by decide +kernel
theorem dX9_endOf_14 : decode cX9_endOf 14 = .ok (.if_icmp .lt 5, 3) := by decide +kernel
theorem dX9_endOf_19 : decode cX9_endOf 19 = .ok (.aload_n 0, 1) := by decide +kernel
theorem dX9_endOf_20 : decode cX9_endOf 20 = .ok (.getfield 9, 3) := by decide +kernel
theorem dX9_endOf_23 : decode cX9_endOf 23 = .ok (.iload_n 1, 1) := by decide +kernel
theorem dX9_endOf_24 : decode cX9_endOf 24 = .ok (.iaload, 1) := by decide +kernel
set_option maxRecDepth 20000 in
theorem ggX9_endOf_X9_isLetter : GoodIn wsX9_endOf wsX9_isLetter := goodIn_sub (fa_c (me_s (me_l (List.mem_of_getElem? (i := 4) rfl))) fa_n) (by decide +kernel)
set_option maxRecDepth 20000 in
theorem gX9_endOf_X9_isLetter : GoodIn wsX9_endOf (va_wsS RX9 131 yX9_isLetter wsX9_isLetter) := goodIn_app (goodIn_sub (fa_c (me_s (me_l (List.mem_of_getElem? (i := 1) rfl))) (fa_c (me_s (me_l (List.mem_of_getElem? (i := 2) rfl))) (fa_c (me_s (me_l (List.mem_of_getElem? (i := 3) rfl))) fa_n))) (by decide +kernel)) ggX9_endOf_X9_isLetter
theorem dX9_endOf_25 : decode cX9_endOf 25 = .ok (.invokestatic 131, 3) := by decide +kernel
theorem dX9_endOf_28 : decode cX9_endOf 28 = .ok (.istore 4, 2) := by decide +kernel
theorem dX9_endOf_30 : decode cX9_endOf 30 = .ok (.iload 4, 2) := by decide +kernel
theorem dX9_endOf_32 : decode cX9_endOf 32 = .ok (.ifCond .ne 17, 3) := by decide +kernel
theorem dX9_endOf_49 : decode cX9_endOf 49 = .ok (.iload_n 3, 1) := by decide +kernel
theorem dX9_endOf_50 : decode cX9_endOf 50 = .ok (.iload_n 2, 1) := by decide +kernel
theorem dX9_endOf_51 : decode cX9_endOf 51 = .ok (.if_icmp .ge 50, 3) := by decide +kernel
theorem dX9_endOf_101 : decode cX9_endOf 101 = .ok (.iload_n 3, 1) := by decide +kernel
theorem dX9_endOf_102 : decode cX9_endOf 102 = .ok (.ireturn, 1) := by decide +kernel
theorem dX9_endOf_54 : decode cX9_endOf 54 = .ok (.iload_n 3, 1) := by decide +kernel
theorem dX9_endOf_55 : decode cX9_endOf 55 = .ok (.aload_n 0, 1) := by decide +kernel
theorem dX9_endOf_56 : decode cX9_endOf 56 = .ok (.getfield 9, 3) := by decide +kernel
theorem dX9_endOf_59 : decode cX9_endOf 59 = .ok (.arraylength, 1) := by decide +kernel
theorem dX9_endOf_60 : decode cX9_endOf 60 = .ok (.if_icmp .ge 41, 3) := by decide +kernel
theorem dX9_endOf_63 : decode cX9_endOf 63 = .ok (.iload 4, 2) := by decide +kernel
theorem dX9_endOf_65 : decode cX9_endOf 65 = .ok (.ifCond .eq 18, 3) := by decide +kernel
theorem dX9_endOf_68 : decode cX9_endOf 68 = .ok (.aload_n 0, 1) := by decide +kernel
theorem dX9_endOf_69 : decode cX9_endOf 69 = .ok (.getfield 9, 3) := by decide +kernel
theorem dX9_endOf_72 : decode cX9_endOf 72 = .ok (.iload_n 3, 1) := by decide +kernel
theorem dX9_endOf_73 : decode cX9_endOf 73 = .ok (.iaload, 1) := by decide +kernel
theorem dX9_endOf_74 : decode cX9_endOf 74 = .ok (.invokestatic 131, 3) := by decide +kernel
theorem dX9_endOf_77 : decode cX9_endOf 77 = .ok (.ifCond .eq 24, 3) := by decide +kernel
theorem dX9_endOf_80 : decode cX9_endOf 80 = .ok (.goto 15, 3) := by decide +kernel
theorem dX9_endOf_95 : decode cX9_endOf 95 = .ok (.iinc 3 1, 3) := by decide +kernel
theorem dX9_endOf_98 : decode cX9_endOf 98 = .ok (.goto (-49), 3) := by decide +kernel
theorem dX9_endOf_35 : decode cX9_endOf 35 = .ok (.aload_n 0, 1) := by decide +kernel
theorem dX9_endOf_36 : decode cX9_endOf 36 = .ok (.getfield 9, 3) := by decide +kernel
theorem dX9_endOf_39 : decode cX9_endOf 39 = .ok (.iload_n 1, 1) := by decide +kernel
theorem dX9_endOf_40 : decode cX9_endOf 40 = .ok (.iaload, 1) := by decide +kernel
set_option maxRecDepth 20000 in
theorem ggX9_endOf_X9_isDigit : GoodIn wsX9_endOf wsX9_isDigit := goodIn_sub (fa_c (me_s (me_l (List.mem_of_getElem? (i := 7) rfl))) fa_n) (by decide +kernel)
set_option maxRecDepth 20000 in
theorem gX9_endOf_X9_isDigit : GoodIn wsX9_endOf (va_wsS RX9 134 yX9_isDigit wsX9_isDigit) := goodIn_app (goodIn_sub (fa_c (me_s (me_l (List.mem_of_getElem? (i := 5) rfl))) (fa_c (me_s (me_l (List.mem_of_getElem? (i := 6) rfl))) (fa_c (me_s (me_l (List.mem_of_getElem? (i := 3) rfl))) fa_n))) (by decide +kernel)) ggX9_endOf_X9_isDigit
theorem dX9_endOf_41 : decode cX9_endOf 41 = .ok (.invokestatic 134, 3) := by decide +kernel
theorem dX9_endOf_44 : decode cX9_endOf 44 = .ok (.ifCond .ne 5, 3) := by decide +kernel
theorem dX9_endOf_83 : decode cX9_endOf 83 = .ok (.aload_n 0, 1) := by decide +kernel
theorem dX9_endOf_84 : decode cX9_endOf 84 = .ok (.getfield 9, 3) := by decide +kernel
theorem dX9_endOf_87 : decode cX9_endOf 87 = .ok (.iload_n 3, 1) := by decide +kernel
theorem dX9_endOf_88 : decode cX9_endOf 88 = .ok (.iaload, 1) := by decide +kernel
theorem dX9_endOf_89 : decode cX9_endOf 89 = .ok (.invokestatic 134, 3) := by decide +kernel
theorem dX9_endOf_92 : decode cX9_endOf 92 = .ok (.ifCond .eq 9, 3) := by decide +kernel
theorem dX9_endOf_47 : decode cX9_endOf 47 = .ok (.iload_n 3, 1) := by decide +kernel
theorem dX9_endOf_48 : decode cX9_endOf 48 = .ok (.ireturn, 1) := by decide +kernel
theorem dX9_numberOf_0 : decode cX9_numberOf 0 = .ok (.iconst 0, 1) := by decide +kernel
theorem dX9_numberOf_1 : decode cX9_numberOf 1 = .ok (.istore_n 3, 1) := by decide +kernel
theorem dX9_numberOf_2 : decode cX9_numberOf 2 = .ok (.iload_n 1, 1) := by decide +kernel
theorem dX9_numberOf_3 : decode cX9_numberOf 3 = .ok (.iconst 0, 1) := by decide +kernel
theorem dX9_numberOf_4 : decode cX9_numberOf 4 = .ok (.invokestatic 128, 3) := by decide +kernel
theorem dX9_numberOf_7 : decode cX9_numberOf 7 = .ok (.istore 4, 2) := by decide +kernel
theorem dX9_numberOf_9 : decode cX9_numberOf 9 = .ok (.iload 4, 2) := by decide +kernel
theorem dX9_numberOf_11 : decode cX9_numberOf 11 = .ok (.iload_n 2, 1) := by decide +kernel
theorem dX9_numberOf_12 : decode cX9_numberOf 12 = .ok (.if_icmp .ge 61, 3) := by decide +kernel
theorem dX9_numberOf_73 : decode cX9_numberOf 73 = .ok (.iload_n 3, 1) := by decide +kernel
theorem dX9_numberOf_74 : decode cX9_numberOf 74 = .ok (.ireturn, 1) := by decide +kernel
theorem dX9_numberOf_15 : decode cX9_numberOf 15 = .ok (.iload 4, 2) := by decide +kernel
theorem dX9_numberOf_17 : decode cX9_numberOf 17 = .ok (.aload_n 0, 1) := by decide +kernel
theorem dX9_numberOf_18 : decode cX9_numberOf 18 = .ok (.getfield 9, 3) := by decide +kernel
theorem dX9_numberOf_21 : decode cX9_numberOf 21 = .ok (.arraylength, 1) := by decide +kernel
theorem dX9_numberOf_22 : decode cX9_numberOf 22 = .ok (.if_icmp .ge 51, 3) := by decide +kernel
theorem dX9_numberOf_25 : decode cX9_numberOf 25 = .ok (.iload 4, 2) := by decide +kernel
theorem dX9_numberOf_27 : decode cX9_numberOf 27 = .ok (.iload_n 1, 1) := by decide +kernel
theorem dX9_numberOf_28 : decode cX9_numberOf 28 = .ok (.bipush 6, 2) := by decide +kernel
theorem dX9_numberOf_30 : decode cX9_numberOf 30 = .ok (.iadd, 1) := by decide +kernel
theorem dX9_numberOf_31 : decode cX9_numberOf 31 = .ok (.if_icmp .ge 42, 3) := by decide +kernel
theorem dX9_numberOf_34 : decode cX9_numberOf 34 = .ok (.aload_n 0, 1) := by decide +kernel
theorem dX9_numberOf_35 : decode cX9_numberOf 35 = .ok (.getfield 9, 3) := by decide +kernel
theorem dX9_numberOf_38 : decode cX9_numberOf 38 = .ok (.iload 4, 2) := by decide +kernel
theorem dX9_numberOf_40 : decode cX9_numberOf 40 = .ok (.iaload, 1) := by decide +kernel
set_option maxRecDepth 20000 in
theorem ggX9_numberOf_X9_isDigit : GoodIn wsX9_numberOf wsX9_isDigit := goodIn_sub (fa_c (me_s (me_l (List.mem_of_getElem? (i := 8) rfl))) fa_n) (by decide +kernel)
set_option maxRecDepth 20000 in
theorem gX9_numberOf_X9_isDigit : GoodIn wsX9_numberOf (va_wsS RX9 134 yX9_isDigit wsX9_isDigit) := goodIn_app (goodIn_sub (fa_c (me_s (me_l (List.mem_of_getElem? (i := 5) rfl))) (fa_c (me_s (me_l (List.mem_of_getElem? (i := 6) rfl))) (fa_c (me_s (me_l (List.mem_of_getElem? (i := 7) rfl))) fa_n))) (by decide +kernel)) ggX9_numberOf_X9_isDigit
theorem dX9_numberOf_41 : decode cX9_numberOf 41 = .ok (.invokestatic 134, 3) := by decide +kernel
theorem dX9_numberOf_44 : decode cX9_numberOf 44 = .ok (.ifCond .eq 21, 3) := by decide +kernel
theorem dX9_numberOf_47 : decode cX9_numberOf 47 = .ok (.iload_n 3, 1) := by decide +kernel
theorem dX9_numberOf_48 : decode cX9_numberOf 48 = .ok (.bipush 10, 2) := by decide +kernel
theorem dX9_numberOf_50 : decode cX9_numberOf 50 = .ok (.imul, 1) := by decide +kernel
theorem dX9_numberOf_51 : decode cX9_numberOf 51 = .ok (.aload_n 0, 1) := by decide +kernel
theorem dX9_numberOf_52 : decode cX9_numberOf 52 = .ok (.getfield 9, 3) := by decide +kernel
theorem dX9_numberOf_55 : decode cX9_numberOf 55 = .ok (.iload 4, 2) := by decide +kernel
theorem dX9_numberOf_57 : decode cX9_numberOf 57 = .ok (.iaload, 1) := by decide +kernel
theorem dX9_numberOf_58 : decode cX9_numberOf 58 = .ok (.iadd, 1) := by decide +kernel
theorem dX9_numberOf_59 : decode cX9_numberOf 59 = .ok (.bipush 48, 2) := by decide +kernel
theorem dX9_numberOf_61 : decode cX9_numberOf 61 = .ok (.isub, 1) := by decide +kernel
theorem dX9_numberOf_62 : decode cX9_numberOf 62 = .ok (.goto 4, 3) := by decide +kernel
theorem dX9_numberOf_66 : decode cX9_numberOf 66 = .ok (.istore_n 3, 1) := by decide +kernel
theorem dX9_numberOf_67 : decode cX9_numberOf 67 = .ok (.iinc 4 1, 3) := by decide +kernel
theorem dX9_numberOf_70 : decode cX9_numberOf 70 = .ok (.goto (-61), 3) := by decide +kernel
theorem dX9_numberOf_65 : decode cX9_numberOf 65 = .ok (.iconst 0, 1) := by decide +kernel
theorem dX9_wordText_0 : decode cX9_wordText 0 = .ok (.iload_n 0, 1) := by decide +kernel
theorem dX9_wordText_1 : decode cX9_wordText 1 = .ok (.tableswitch 155 300 319 #[95, 98, 101, 104, 107, 110, 113, 116, 119, 122, 125, 128, 131, 134, 137, 140, 143, 146, 149, 152], 95) := by decide +kernel
theorem dX9_wordText_96 : decode cX9_wordText 96 = .ok (.ldc 160, 2) := by decide +kernel
theorem dX9_wordText_98 : decode cX9_wordText 98 = .ok (.areturn, 1) := by decide +kernel
theorem dX9_wordText_99 : decode cX9_wordText 99 = .ok (.ldc 162, 2) := by decide +kernel
theorem dX9_wordText_101 : decode cX9_wordText 101 = .ok (.areturn, 1) := by decide +kernel
theorem dX9_wordText_102 : decode cX9_wordText 102 = .ok (.ldc 164, 2) := by decide +kernel
theorem dX9_wordText_104 : decode cX9_wordText 104 = .ok (.areturn, 1) := by decide +kernel
theorem dX9_wordText_105 : decode cX9_wordText 105 = .ok (.ldc 166, 2) := by decide +kernel
theorem dX9_wordText_107 : decode cX9_wordText 107 = .ok (.areturn, 1) := by decide +kernel
theorem dX9_wordText_108 : decode cX9_wordText 108 = .ok (.ldc 168, 2) := by decide +kernel
theorem dX9_wordText_110 : decode cX9_wordText 110 = .ok (.areturn, 1) := by decide +kernel
theorem dX9_wordText_111 : decode cX9_wordText 111 = .ok (.ldc 170, 2) := by decide +kernel
theorem dX9_wordText_113 : decode cX9_wordText 113 = .ok (.areturn, 1) := by decide +kernel
theorem dX9_wordText_114 : decode cX9_wordText 114 = .ok (.ldc 172, 2) := by decide +kernel
theorem dX9_wordText_116 : decode cX9_wordText 116 = .ok (.areturn, 1) := by decide +kernel
theorem dX9_wordText_117 : decode cX9_wordText 117 = .ok (.ldc 174, 2) := by decide +kernel
theorem dX9_wordText_119 : decode cX9_wordText 119 = .ok (.areturn, 1) := by decide +kernel
theorem dX9_wordText_120 : decode cX9_wordText 120 = .ok (.ldc 176, 2) := by decide +kernel
theorem dX9_wordText_122 : decode cX9_wordText 122 = .ok (.areturn, 1) := by decide +kernel
theorem dX9_wordText_123 : decode cX9_wordText 123 = .ok (.ldc 178, 2) := by decide +kernel
theorem dX9_wordText_125 : decode cX9_wordText 125 = .ok (.areturn, 1) := by decide +kernel
theorem dX9_wordText_126 : decode cX9_wordText 126 = .ok (.ldc 180, 2) := by decide +kernel
theorem dX9_wordText_128 : decode cX9_wordText 128 = .ok (.areturn, 1) := by decide +kernel
theorem dX9_wordText_129 : decode cX9_wordText 129 = .ok (.ldc 182, 2) := by decide +kernel
theorem dX9_wordText_131 : decode cX9_wordText 131 = .ok (.areturn, 1) := by decide +kernel
theorem dX9_wordText_132 : decode cX9_wordText 132 = .ok (.ldc 184, 2) := by decide +kernel
theorem dX9_wordText_134 : decode cX9_wordText 134 = .ok (.areturn, 1) := by decide +kernel
theorem dX9_wordText_135 : decode cX9_wordText 135 = .ok (.ldc 186, 2) := by decide +kernel
theorem dX9_wordText_137 : decode cX9_wordText 137 = .ok (.areturn, 1) := by decide +kernel
theorem dX9_wordText_138 : decode cX9_wordText 138 = .ok (.ldc 188, 2) := by decide +kernel
theorem dX9_wordText_140 : decode cX9_wordText 140 = .ok (.areturn, 1) := by decide +kernel
theorem dX9_wordText_141 : decode cX9_wordText 141 = .ok (.ldc 190, 2) := by decide +kernel
theorem dX9_wordText_143 : decode cX9_wordText 143 = .ok (.areturn, 1) := by decide +kernel
theorem dX9_wordText_144 : decode cX9_wordText 144 = .ok (.ldc 192, 2) := by decide +kernel
theorem dX9_wordText_146 : decode cX9_wordText 146 = .ok (.areturn, 1) := by decide +kernel
theorem dX9_wordText_147 : decode cX9_wordText 147 = .ok (.ldc 194, 2) := by decide +kernel
theorem dX9_wordText_149 : decode cX9_wordText 149 = .ok (.areturn, 1) := by decide +kernel
theorem dX9_wordText_150 : decode cX9_wordText 150 = .ok (.ldc 196, 2) := by decide +kernel
theorem dX9_wordText_152 : decode cX9_wordText 152 = .ok (.areturn, 1) := by decide +kernel
theorem dX9_wordText_153 : decode cX9_wordText 153 = .ok (.ldc 198, 2) := by decide +kernel
theorem dX9_wordText_155 : decode cX9_wordText 155 = .ok (.areturn, 1) := by decide +kernel
theorem dX9_wordText_156 : decode cX9_wordText 156 = .ok (.ldc 200, 2) := by decide +kernel
theorem dX9_wordText_158 : decode cX9_wordText 158 = .ok (.areturn, 1) := by decide +kernel
theorem dX9_isWord_0 : decode cX9_isWord 0 = .ok (.iload_n 2, 1) := by decide +kernel
theorem dX9_isWord_1 : decode cX9_isWord 1 = .ok (.ifCond .lt 22, 3) := by decide +kernel
theorem dX9_isWord_4 : decode cX9_isWord 4 = .ok (.iload_n 3, 1) := by decide +kernel
theorem dX9_isWord_5 : decode cX9_isWord 5 = .ok (.aload_n 0, 1) := by decide +kernel
theorem dX9_isWord_6 : decode cX9_isWord 6 = .ok (.getfield 9, 3) := by decide +kernel
theorem dX9_isWord_9 : decode cX9_isWord 9 = .ok (.arraylength, 1) := by decide +kernel
theorem dX9_isWord_10 : decode cX9_isWord 10 = .ok (.if_icmp .gt 13, 3) := by decide +kernel
theorem dX9_isWord_13 : decode cX9_isWord 13 = .ok (.aload_n 1, 1) := by decide +kernel
set_option maxRecDepth 20000 in
theorem ggX9_isWord_J0_length_8abf5 : GoodIn wsX9_isWord wsJ0_length_8abf5 := goodIn_sub (fa_c (me_s (me_l (me_l (List.mem_of_getElem? (i := 5) rfl)))) (fa_c (me_s (me_l (me_l (List.mem_of_getElem? (i := 6) rfl)))) (fa_c (me_s (me_l (me_l (List.mem_of_getElem? (i := 7) rfl)))) (fa_c (me_s (me_l (me_l (List.mem_of_getElem? (i := 8) rfl)))) (fa_c (me_s (me_l (me_l (List.mem_of_getElem? (i := 9) rfl)))) (fa_c (me_s (me_l (me_l (List.mem_of_getElem? (i := 4) rfl)))) (fa_c (me_s (me_l (me_l (List.mem_of_getElem? (i := 10) rfl)))) (fa_c (me_s (me_l (me_l (List.mem_of_getElem? (i := 11) rfl)))) (fa_c (me_s (me_l (me_l (List.mem_of_getElem? (i := 12) rfl)))) fa_n))))))))) (by decide +kernel)
set_option maxRecDepth 20000 in
theorem gX9_isWord_J0_length_8abf5 : GoodIn wsX9_isWord (wsV RX9 151 RJ0 yJ0_length_8abf5 wsJ0_length_8abf5) := goodIn_app (goodIn_sub (fa_c (me_s (me_l (me_l (List.mem_of_getElem? (i := 1) rfl)))) (fa_c (me_s (me_l (me_l (List.mem_of_getElem? (i := 2) rfl)))) (fa_c (me_s (me_l (me_l (List.mem_of_getElem? (i := 3) rfl)))) (fa_c (me_s (me_l (me_l (List.mem_of_getElem? (i := 4) rfl)))) fa_n)))) (by decide +kernel)) ggX9_isWord_J0_length_8abf5
theorem dX9_isWord_14 : decode cX9_isWord 14 = .ok (.invokevirtual 151, 3) := by decide +kernel
theorem dX9_isWord_17 : decode cX9_isWord 17 = .ok (.iload_n 3, 1) := by decide +kernel
theorem dX9_isWord_18 : decode cX9_isWord 18 = .ok (.iload_n 2, 1) := by decide +kernel
theorem dX9_isWord_19 : decode cX9_isWord 19 = .ok (.isub, 1) := by decide +kernel
theorem dX9_isWord_20 : decode cX9_isWord 20 = .ok (.if_icmp .eq 5, 3) := by decide +kernel
theorem dX9_isWord_25 : decode cX9_isWord 25 = .ok (.iconst 0, 1) := by decide +kernel
theorem dX9_isWord_26 : decode cX9_isWord 26 = .ok (.istore 4, 2) := by decide +kernel
theorem dX9_isWord_28 : decode cX9_isWord 28 = .ok (.iload 4, 2) := by decide +kernel
theorem dX9_isWord_30 : decode cX9_isWord 30 = .ok (.aload_n 1, 1) := by decide +kernel
theorem dX9_isWord_31 : decode cX9_isWord 31 = .ok (.invokevirtual 151, 3) := by decide +kernel
theorem dX9_isWord_34 : decode cX9_isWord 34 = .ok (.if_icmp .ge 41, 3) := by decide +kernel
theorem dX9_isWord_75 : decode cX9_isWord 75 = .ok (.iconst 1, 1) := by decide +kernel
theorem dX9_isWord_76 : decode cX9_isWord 76 = .ok (.ireturn, 1) := by decide +kernel
theorem dX9_isWord_37 : decode cX9_isWord 37 = .ok (.iload_n 2, 1) := by decide +kernel
theorem dX9_isWord_38 : decode cX9_isWord 38 = .ok (.iload 4, 2) := by decide +kernel
theorem dX9_isWord_40 : decode cX9_isWord 40 = .ok (.iadd, 1) := by decide +kernel
theorem dX9_isWord_41 : decode cX9_isWord 41 = .ok (.aload_n 0, 1) := by decide +kernel
theorem dX9_isWord_42 : decode cX9_isWord 42 = .ok (.getfield 9, 3) := by decide +kernel
theorem dX9_isWord_45 : decode cX9_isWord 45 = .ok (.arraylength, 1) := by decide +kernel
theorem dX9_isWord_46 : decode cX9_isWord 46 = .ok (.if_icmp .ge 29, 3) := by decide +kernel
theorem dX9_isWord_49 : decode cX9_isWord 49 = .ok (.aload_n 1, 1) := by decide +kernel
theorem dX9_isWord_50 : decode cX9_isWord 50 = .ok (.iload 4, 2) := by decide +kernel
set_option maxRecDepth 20000 in
theorem ggX9_isWord_J0_charAt_5068e : GoodIn wsX9_isWord wsJ0_charAt_5068e := goodIn_sub (fa_c (me_s (me_l (me_l (List.mem_of_getElem? (i := 16) rfl)))) (fa_a (fa_c (me_s (me_l (me_l (List.mem_of_getElem? (i := 6) rfl)))) (fa_c (me_s (me_l (me_l (List.mem_of_getElem? (i := 17) rfl)))) (fa_c (me_s (me_l (me_l (List.mem_of_getElem? (i := 18) rfl)))) (fa_c (me_s (me_l (me_l (List.mem_of_getElem? (i := 19) rfl)))) (fa_c (me_s (me_l (me_l (List.mem_of_getElem? (i := 4) rfl)))) (fa_c (me_s (me_l (me_l (List.mem_of_getElem? (i := 20) rfl)))) (fa_c (me_s (me_l (me_l (List.mem_of_getElem? (i := 11) rfl)))) (fa_c (me_s (me_l (me_l (List.mem_of_getElem? (i := 12) rfl)))) (fa_c (me_s (me_l (me_l (List.mem_of_getElem? (i := 21) rfl)))) (fa_c (me_s (me_l (me_l (List.mem_of_getElem? (i := 22) rfl)))) (fa_c (me_s (me_l (me_l (List.mem_of_getElem? (i := 23) rfl)))) (fa_c (me_s (me_l (me_r (me_l (List.mem_of_getElem? (i := 0) rfl))))) (fa_c (me_s (me_l (me_r (me_l (List.mem_of_getElem? (i := 1) rfl))))) (fa_c (me_s (me_l (me_r (me_l (List.mem_of_getElem? (i := 2) rfl))))) (fa_c (me_s (me_l (me_r (me_l (List.mem_of_getElem? (i := 3) rfl))))) (fa_c (me_s (me_l (me_r (me_l (List.mem_of_getElem? (i := 4) rfl))))) (fa_c (me_s (me_l (me_r (me_l (List.mem_of_getElem? (i := 5) rfl))))) (fa_c (me_s (me_l (me_r (me_l (List.mem_of_getElem? (i := 6) rfl))))) (fa_c (me_s (me_l (me_r (me_l (List.mem_of_getElem? (i := 7) rfl))))) (fa_c (me_s (me_l (me_r (me_l (List.mem_of_getElem? (i := 8) rfl))))) (fa_c (me_s (me_l (me_r (me_l (List.mem_of_getElem? (i := 9) rfl))))) (fa_c (me_s (me_l (me_r (me_l (List.mem_of_getElem? (i := 10) rfl))))) (fa_c (me_s (me_l (me_r (me_l (List.mem_of_getElem? (i := 11) rfl))))) (fa_c (me_s (me_l (me_r (me_l (List.mem_of_getElem? (i := 12) rfl))))) fa_n)))))))))))))))))))))))) (fa_c (me_s (me_l (me_r (me_l (List.mem_of_getElem? (i := 13) rfl))))) (fa_c (me_s (me_l (me_r (me_l (List.mem_of_getElem? (i := 14) rfl))))) (fa_c (me_s (me_l (me_r (me_l (List.mem_of_getElem? (i := 15) rfl))))) (fa_c (me_s (me_l (me_r (me_l (List.mem_of_getElem? (i := 16) rfl))))) (fa_c (me_s (me_l (me_r (me_l (List.mem_of_getElem? (i := 17) rfl))))) (fa_c (me_s (me_l (me_r (me_l (List.mem_of_getElem? (i := 18) rfl))))) (fa_c (me_s (me_l (me_r (me_l (List.mem_of_getElem? (i := 19) rfl))))) (fa_c (me_s (me_l (me_r (me_l (List.mem_of_getElem? (i := 20) rfl))))) (fa_c (me_s (me_l (me_r (me_l (List.mem_of_getElem? (i := 21) rfl))))) (fa_c (me_s (me_l (me_r (me_l (List.mem_of_getElem? (i := 22) rfl))))) (fa_c (me_s (me_l (me_r (me_l (List.mem_of_getElem? (i := 23) rfl))))) (fa_c (me_s (me_l (me_r (me_r (List.mem_of_getElem? (i := 0) rfl))))) (fa_c (me_s (me_l (me_r (me_r (List.mem_of_getElem? (i := 1) rfl))))) fa_n))))))))))))))) (by decide +kernel)
set_option maxRecDepth 20000 in
theorem gX9_isWord_J0_charAt_5068e : GoodIn wsX9_isWord (wsV RX9 156 RJ0 yJ0_charAt_5068e wsJ0_charAt_5068e) := goodIn_app (goodIn_sub (fa_c (me_s (me_l (me_l (List.mem_of_getElem? (i := 13) rfl)))) (fa_c (me_s (me_l (me_l (List.mem_of_getElem? (i := 14) rfl)))) (fa_c (me_s (me_l (me_l (List.mem_of_getElem? (i := 15) rfl)))) (fa_c (me_s (me_l (me_l (List.mem_of_getElem? (i := 4) rfl)))) fa_n)))) (by decide +kernel)) ggX9_isWord_J0_charAt_5068e
theorem dX9_isWord_52 : decode cX9_isWord 52 = .ok (.invokevirtual 156, 3) := by decide +kernel
theorem dX9_isWord_55 : decode cX9_isWord 55 = .ok (.aload_n 0, 1) := by decide +kernel
theorem dX9_isWord_56 : decode cX9_isWord 56 = .ok (.getfield 9, 3) := by decide +kernel
theorem dX9_isWord_59 : decode cX9_isWord 59 = .ok (.iload_n 2, 1) := by decide +kernel
theorem dX9_isWord_60 : decode cX9_isWord 60 = .ok (.iload 4, 2) := by decide +kernel
theorem dX9_isWord_62 : decode cX9_isWord 62 = .ok (.iadd, 1) := by decide +kernel
theorem dX9_isWord_63 : decode cX9_isWord 63 = .ok (.iaload, 1) := by decide +kernel
theorem dX9_isWord_64 : decode cX9_isWord 64 = .ok (.if_icmp .eq 5, 3) := by decide +kernel
theorem dX9_isWord_69 : decode cX9_isWord 69 = .ok (.iinc 4 1, 3) := by decide +kernel
theorem dX9_isWord_72 : decode cX9_isWord 72 = .ok (.goto (-44), 3) := by decide +kernel
theorem dX9_isWord_67 : decode cX9_isWord 67 = .ok (.iconst 0, 1) := by decide +kernel
theorem dX9_isWord_68 : decode cX9_isWord 68 = .ok (.ireturn, 1) := by decide +kernel
theorem dX9_isWord_23 : decode cX9_isWord 23 = .ok (.iconst 0, 1) := by decide +kernel
theorem dX9_isWord_24 : decode cX9_isWord 24 = .ok (.ireturn, 1) := by decide +kernel
theorem dX9_wordOf_0 : decode cX9_wordOf 0 = .ok (.sipush 300, 3) := by decide +kernel
theorem dX9_wordOf_3 : decode cX9_wordOf 3 = .ok (.istore_n 3, 1) := by decide +kernel
theorem dX9_wordOf_4 : decode cX9_wordOf 4 = .ok (.iload_n 3, 1) := by decide +kernel
theorem dX9_wordOf_5 : decode cX9_wordOf 5 = .ok (.sipush 320, 3) := by decide +kernel
theorem dX9_wordOf_8 : decode cX9_wordOf 8 = .ok (.if_icmp .gt 24, 3) := by decide +kernel
theorem dX9_wordOf_32 : decode cX9_wordOf 32 = .ok (.sipush 402, 3) := by decide +kernel
theorem dX9_wordOf_35 : decode cX9_wordOf 35 = .ok (.ireturn, 1) := by decide +kernel
theorem dX9_wordOf_11 : decode cX9_wordOf 11 = .ok (.aload_n 0, 1) := by decide +kernel
theorem dX9_wordOf_12 : decode cX9_wordOf 12 = .ok (.iload_n 3, 1) := by decide +kernel
set_option maxRecDepth 20000 in
theorem ggX9_wordOf_X9_wordText : GoodIn wsX9_wordOf wsX9_wordText := goodIn_sub (fa_c (me_s (me_l (me_l (List.mem_of_getElem? (i := 3) rfl)))) fa_n) (by decide +kernel)
set_option maxRecDepth 20000 in
theorem gX9_wordOf_X9_wordText : GoodIn wsX9_wordOf (va_wsS RX9 143 yX9_wordText wsX9_wordText) := goodIn_app (goodIn_sub (fa_c (me_s (me_l (me_l (List.mem_of_getElem? (i := 0) rfl)))) (fa_c (me_s (me_l (me_l (List.mem_of_getElem? (i := 1) rfl)))) (fa_c (me_s (me_l (me_l (List.mem_of_getElem? (i := 2) rfl)))) fa_n))) (by decide +kernel)) ggX9_wordOf_X9_wordText
theorem dX9_wordOf_13 : decode cX9_wordOf 13 = .ok (.invokestatic 143, 3) := by decide +kernel
theorem dX9_wordOf_16 : decode cX9_wordOf 16 = .ok (.iload_n 1, 1) := by decide +kernel
theorem dX9_wordOf_17 : decode cX9_wordOf 17 = .ok (.iload_n 2, 1) := by decide +kernel
set_option maxRecDepth 20000 in
theorem ggX9_wordOf_X9_isWord : GoodIn wsX9_wordOf wsX9_isWord := goodIn_sub (fa_c (me_s (me_l (me_l (List.mem_of_getElem? (i := 7) rfl)))) (fa_a (fa_a (fa_c (me_s (me_l (me_l (List.mem_of_getElem? (i := 8) rfl)))) (fa_c (me_s (me_l (me_l (List.mem_of_getElem? (i := 9) rfl)))) (fa_c (me_s (me_l (me_l (List.mem_of_getElem? (i := 10) rfl)))) (fa_c (me_s (me_l (me_l (List.mem_of_getElem? (i := 11) rfl)))) (fa_c (me_s (me_l (me_l (List.mem_of_getElem? (i := 12) rfl)))) (fa_c (me_s (me_l (me_l (List.mem_of_getElem? (i := 13) rfl)))) (fa_c (me_s (me_l (me_l (List.mem_of_getElem? (i := 14) rfl)))) (fa_c (me_s (me_l (me_l (List.mem_of_getElem? (i := 15) rfl)))) (fa_c (me_s (me_l (me_l (List.mem_of_getElem? (i := 16) rfl)))) (fa_c (me_s (me_l (me_l (List.mem_of_getElem? (i := 17) rfl)))) (fa_c (me_s (me_l (me_l (List.mem_of_getElem? (i := 18) rfl)))) (fa_c (me_s (me_l (me_l (List.mem_of_getElem? (i := 19) rfl)))) (fa_c (me_s (me_l (me_l (List.mem_of_getElem? (i := 20) rfl)))) (fa_c (me_s (me_l (me_l (List.mem_of_getElem? (i := 21) rfl)))) (fa_c (me_s (me_l (me_l (List.mem_of_getElem? (i := 22) rfl)))) (fa_c (me_s (me_l (me_l (List.mem_of_getElem? (i := 23) rfl)))) (fa_c (me_s (me_l (me_r (me_l (List.mem_of_getElem? (i := 0) rfl))))) (fa_c (me_s (me_l (me_r (me_l (List.mem_of_getElem? (i := 1) rfl))))) (fa_c (me_s (me_l (me_r (me_l (List.mem_of_getElem? (i := 2) rfl))))) (fa_c (me_s (me_l (me_r (me_l (List.mem_of_getElem? (i := 3) rfl))))) (fa_c (me_s (me_l (me_r (me_l (List.mem_of_getElem? (i := 4) rfl))))) (fa_c (me_s (me_l (me_r (me_l (List.mem_of_getElem? (i := 5) rfl))))) (fa_c (me_s (me_l (me_r (me_l (List.mem_of_getElem? (i := 6) rfl))))) (fa_c (me_s (me_l (me_r (me_l (List.mem_of_getElem? (i := 7) rfl))))) fa_n)))))))))))))))))))))))) (fa_a (fa_c (me_s (me_l (me_r (me_l (List.mem_of_getElem? (i := 8) rfl))))) (fa_c (me_s (me_l (me_r (me_l (List.mem_of_getElem? (i := 9) rfl))))) (fa_c (me_s (me_l (me_r (me_l (List.mem_of_getElem? (i := 10) rfl))))) (fa_c (me_s (me_l (me_r (me_l (List.mem_of_getElem? (i := 11) rfl))))) (fa_c (me_s (me_l (me_r (me_l (List.mem_of_getElem? (i := 12) rfl))))) (fa_c (me_s (me_l (me_r (me_l (List.mem_of_getElem? (i := 13) rfl))))) (fa_c (me_s (me_l (me_r (me_l (List.mem_of_getElem? (i := 14) rfl))))) (fa_c (me_s (me_l (me_r (me_l (List.mem_of_getElem? (i := 15) rfl))))) (fa_c (me_s (me_l (me_r (me_l (List.mem_of_getElem? (i := 16) rfl))))) (fa_c (me_s (me_l (me_r (me_l (List.mem_of_getElem? (i := 17) rfl))))) (fa_c (me_s (me_l (me_r (me_l (List.mem_of_getElem? (i := 18) rfl))))) (fa_c (me_s (me_l (me_r (me_l (List.mem_of_getElem? (i := 19) rfl))))) (fa_c (me_s (me_l (me_r (me_l (List.mem_of_getElem? (i := 20) rfl))))) (fa_c (me_s (me_l (me_r (me_l (List.mem_of_getElem? (i := 21) rfl))))) (fa_c (me_s (me_l (me_r (me_l (List.mem_of_getElem? (i := 22) rfl))))) (fa_c (me_s (me_l (me_r (me_l (List.mem_of_getElem? (i := 23) rfl))))) (fa_c (me_s (me_l (me_r (me_r (List.mem_of_getElem? (i := 0) rfl))))) (fa_c (me_s (me_l (me_r (me_r (List.mem_of_getElem? (i := 1) rfl))))) (fa_c (me_s (me_l (me_r (me_r (List.mem_of_getElem? (i := 2) rfl))))) (fa_c (me_s (me_l (me_r (me_r (List.mem_of_getElem? (i := 3) rfl))))) (fa_c (me_s (me_l (me_r (me_r (List.mem_of_getElem? (i := 4) rfl))))) (fa_c (me_s (me_l (me_r (me_r (List.mem_of_getElem? (i := 5) rfl))))) (fa_c (me_s (me_l (me_r (me_r (List.mem_of_getElem? (i := 6) rfl))))) (fa_c (me_s (me_l (me_r (me_r (List.mem_of_getElem? (i := 7) rfl))))) fa_n)))))))))))))))))))))))) (fa_c (me_s (me_l (me_r (me_r (List.mem_of_getElem? (i := 8) rfl))))) (fa_c (me_s (me_l (me_r (me_r (List.mem_of_getElem? (i := 9) rfl))))) fa_n)))) (fun w h => (me_s (me_r h))))) (by decide +kernel)
set_option maxRecDepth 20000 in
theorem gX9_wordOf_X9_isWord : GoodIn wsX9_wordOf (wsV RX9 147 RX9 yX9_isWord wsX9_isWord) := goodIn_app (goodIn_sub (fa_c (me_s (me_l (me_l (List.mem_of_getElem? (i := 4) rfl)))) (fa_c (me_s (me_l (me_l (List.mem_of_getElem? (i := 5) rfl)))) (fa_c (me_s (me_l (me_l (List.mem_of_getElem? (i := 6) rfl)))) (fa_c (me_s (me_l (me_l (List.mem_of_getElem? (i := 2) rfl)))) fa_n)))) (by decide +kernel)) ggX9_wordOf_X9_isWord
theorem dX9_wordOf_18 : decode cX9_wordOf 18 = .ok (.invokevirtual 147, 3) := by decide +kernel
theorem dX9_wordOf_21 : decode cX9_wordOf 21 = .ok (.ifCond .eq 5, 3) := by decide +kernel
theorem dX9_wordOf_24 : decode cX9_wordOf 24 = .ok (.iload_n 3, 1) := by decide +kernel
theorem dX9_wordOf_25 : decode cX9_wordOf 25 = .ok (.ireturn, 1) := by decide +kernel
theorem dX9_wordOf_26 : decode cX9_wordOf 26 = .ok (.iinc 3 1, 3) := by decide +kernel
theorem dX9_wordOf_29 : decode cX9_wordOf 29 = .ok (.goto (-25), 3) := by decide +kernel
theorem dX9_tokenOf_0 : decode cX9_tokenOf 0 = .ok (.iload_n 1, 1) := by decide +kernel
theorem dX9_tokenOf_1 : decode cX9_tokenOf 1 = .ok (.ifCond .lt 12, 3) := by decide +kernel
theorem dX9_tokenOf_4 : decode cX9_tokenOf 4 = .ok (.iload_n 1, 1) := by decide +kernel
theorem dX9_tokenOf_5 : decode cX9_tokenOf 5 = .ok (.aload_n 0, 1) := by decide +kernel
theorem dX9_tokenOf_6 : decode cX9_tokenOf 6 = .ok (.getfield 9, 3) := by decide +kernel
theorem dX9_tokenOf_9 : decode cX9_tokenOf 9 = .ok (.arraylength, 1) := by decide +kernel
theorem dX9_tokenOf_10 : decode cX9_tokenOf 10 = .ok (.if_icmp .lt 7, 3) := by decide +kernel
theorem dX9_tokenOf_17 : decode cX9_tokenOf 17 = .ok (.aload_n 0, 1) := by decide +kernel
theorem dX9_tokenOf_18 : decode cX9_tokenOf 18 = .ok (.getfield 9, 3) := by decide +kernel
theorem dX9_tokenOf_21 : decode cX9_tokenOf 21 = .ok (.iload_n 1, 1) := by decide +kernel
theorem dX9_tokenOf_22 : decode cX9_tokenOf 22 = .ok (.iaload, 1) := by decide +kernel
theorem dX9_tokenOf_23 : decode cX9_tokenOf 23 = .ok (.istore_n 3, 1) := by decide +kernel
theorem dX9_tokenOf_24 : decode cX9_tokenOf 24 = .ok (.iload_n 3, 1) := by decide +kernel
set_option maxRecDepth 20000 in
theorem ggX9_tokenOf_X9_isLetter : GoodIn wsX9_tokenOf wsX9_isLetter := goodIn_sub (fa_c (me_s (me_l (me_l (List.mem_of_getElem? (i := 4) rfl)))) fa_n) (by decide +kernel)
set_option maxRecDepth 20000 in
theorem gX9_tokenOf_X9_isLetter : GoodIn wsX9_tokenOf (va_wsS RX9 131 yX9_isLetter wsX9_isLetter) := goodIn_app (goodIn_sub (fa_c (me_s (me_l (me_l (List.mem_of_getElem? (i := 1) rfl)))) (fa_c (me_s (me_l (me_l (List.mem_of_getElem? (i := 2) rfl)))) (fa_c (me_s (me_l (me_l (List.mem_of_getElem? (i := 3) rfl)))) fa_n))) (by decide +kernel)) ggX9_tokenOf_X9_isLetter
theorem dX9_tokenOf_25 : decode cX9_tokenOf 25 = .ok (.invokestatic 131, 3) := by decide +kernel
theorem dX9_tokenOf_28 : decode cX9_tokenOf 28 = .ok (.ifCond .eq 10, 3) := by decide +kernel
theorem dX9_tokenOf_31 : decode cX9_tokenOf 31 = .ok (.aload_n 0, 1) := by decide +kernel
theorem dX9_tokenOf_32 : decode cX9_tokenOf 32 = .ok (.iload_n 1, 1) := by decide +kernel
theorem dX9_tokenOf_33 : decode cX9_tokenOf 33 = .ok (.iload_n 2, 1) := by decide +kernel
set_option maxRecDepth 20000 in
theorem ggX9_tokenOf_X9_wordOf : GoodIn wsX9_tokenOf wsX9_wordOf := goodIn_sub (fa_c (me_s (me_l (me_l (List.mem_of_getElem? (i := 8) rfl)))) (fa_a (fa_a (fa_c (me_s (me_l (me_l (List.mem_of_getElem? (i := 9) rfl)))) (fa_c (me_s (me_l (me_l (List.mem_of_getElem? (i := 10) rfl)))) (fa_c (me_s (me_l (me_l (List.mem_of_getElem? (i := 3) rfl)))) (fa_c (me_s (me_l (me_l (List.mem_of_getElem? (i := 11) rfl)))) (fa_c (me_s (me_l (me_l (List.mem_of_getElem? (i := 12) rfl)))) (fa_c (me_s (me_l (me_l (List.mem_of_getElem? (i := 13) rfl)))) (fa_c (me_s (me_l (me_l (List.mem_of_getElem? (i := 14) rfl)))) (fa_c (me_s (me_l (me_l (List.mem_of_getElem? (i := 15) rfl)))) (fa_c (me_s (me_l (me_l (List.mem_of_getElem? (i := 0) rfl)))) (fa_c (me_s (me_l (me_l (List.mem_of_getElem? (i := 16) rfl)))) (fa_c (me_s (me_l (me_l (List.mem_of_getElem? (i := 17) rfl)))) (fa_c (me_s (me_l (me_l (List.mem_of_getElem? (i := 18) rfl)))) (fa_c (me_s (me_l (me_l (List.mem_of_getElem? (i := 19) rfl)))) (fa_c (me_s (me_l (me_l (List.mem_of_getElem? (i := 20) rfl)))) (fa_c (me_s (me_l (me_l (List.mem_of_getElem? (i := 21) rfl)))) (fa_c (me_s (me_l (me_l (List.mem_of_getElem? (i := 22) rfl)))) (fa_c (me_s (me_l (me_l (List.mem_of_getElem? (i := 23) rfl)))) (fa_c (me_s (me_l (me_r (me_l (List.mem_of_getElem? (i := 0) rfl))))) (fa_c (me_s (me_l (me_r (me_l (List.mem_of_getElem? (i := 1) rfl))))) (fa_c (me_s (me_l (me_r (me_l (List.mem_of_getElem? (i := 2) rfl))))) (fa_c (me_s (me_l (me_r (me_l (List.mem_of_getElem? (i := 3) rfl))))) (fa_c (me_s (me_l (me_r (me_l (List.mem_of_getElem? (i := 4) rfl))))) (fa_c (me_s (me_l (me_r (me_l (List.mem_of_getElem? (i := 5) rfl))))) (fa_c (me_s (me_l (me_r (me_l (List.mem_of_getElem? (i := 6) rfl))))) fa_n)))))))))))))))))))))))) (fa_a (fa_c (me_s (me_l (me_r (me_l (List.mem_of_getElem? (i := 7) rfl))))) (fa_c (me_s (me_l (me_r (me_l (List.mem_of_getElem? (i := 8) rfl))))) (fa_c (me_s (me_l (me_r (me_l (List.mem_of_getElem? (i := 9) rfl))))) (fa_c (me_s (me_l (me_r (me_l (List.mem_of_getElem? (i := 10) rfl))))) (fa_c (me_s (me_l (me_r (me_l (List.mem_of_getElem? (i := 11) rfl))))) (fa_c (me_s (me_l (me_r (me_l (List.mem_of_getElem? (i := 12) rfl))))) (fa_c (me_s (me_l (me_r (me_l (List.mem_of_getElem? (i := 13) rfl))))) (fa_c (me_s (me_l (me_r (me_l (List.mem_of_getElem? (i := 14) rfl))))) (fa_c (me_s (me_l (me_r (me_l (List.mem_of_getElem? (i := 15) rfl))))) (fa_c (me_s (me_l (me_r (me_l (List.mem_of_getElem? (i := 16) rfl))))) (fa_c (me_s (me_l (me_r (me_l (List.mem_of_getElem? (i := 17) rfl))))) (fa_c (me_s (me_l (me_r (me_l (List.mem_of_getElem? (i := 18) rfl))))) (fa_c (me_s (me_l (me_r (me_l (List.mem_of_getElem? (i := 19) rfl))))) (fa_c (me_s (me_l (me_r (me_l (List.mem_of_getElem? (i := 20) rfl))))) (fa_c (me_s (me_l (me_r (me_l (List.mem_of_getElem? (i := 21) rfl))))) (fa_c (me_s (me_l (me_r (me_l (List.mem_of_getElem? (i := 22) rfl))))) (fa_c (me_s (me_l (me_r (me_l (List.mem_of_getElem? (i := 23) rfl))))) (fa_c (me_s (me_l (me_r (me_r (List.mem_of_getElem? (i := 0) rfl))))) (fa_c (me_s (me_l (me_r (me_r (List.mem_of_getElem? (i := 1) rfl))))) (fa_c (me_s (me_l (me_r (me_r (List.mem_of_getElem? (i := 2) rfl))))) (fa_c (me_s (me_l (me_r (me_r (List.mem_of_getElem? (i := 3) rfl))))) (fa_c (me_s (me_l (me_r (me_r (List.mem_of_getElem? (i := 4) rfl))))) (fa_c (me_s (me_l (me_r (me_r (List.mem_of_getElem? (i := 5) rfl))))) (fa_c (me_s (me_l (me_r (me_r (List.mem_of_getElem? (i := 6) rfl))))) fa_n)))))))))))))))))))))))) (fa_c (me_s (me_l (me_r (me_r (List.mem_of_getElem? (i := 7) rfl))))) (fa_c (me_s (me_l (me_r (me_r (List.mem_of_getElem? (i := 8) rfl))))) (fa_c (me_s (me_l (me_r (me_r (List.mem_of_getElem? (i := 9) rfl))))) (fa_c (me_s (me_l (me_r (me_r (List.mem_of_getElem? (i := 10) rfl))))) (fa_c (me_s (me_l (me_r (me_r (List.mem_of_getElem? (i := 11) rfl))))) (fa_c (me_s (me_l (me_r (me_r (List.mem_of_getElem? (i := 12) rfl))))) (fa_c (me_s (me_l (me_r (me_r (List.mem_of_getElem? (i := 13) rfl))))) (fa_c (me_s (me_l (me_r (me_r (List.mem_of_getElem? (i := 14) rfl))))) (fa_c (me_s (me_l (me_r (me_r (List.mem_of_getElem? (i := 15) rfl))))) (fa_c (me_s (me_l (me_r (me_r (List.mem_of_getElem? (i := 16) rfl))))) fa_n)))))))))))) (fun w h => (me_s (me_r h))))) (by decide +kernel)
set_option maxRecDepth 20000 in
theorem gX9_tokenOf_X9_wordOf : GoodIn wsX9_tokenOf (wsV RX9 137 RX9 yX9_wordOf wsX9_wordOf) := goodIn_app (goodIn_sub (fa_c (me_s (me_l (me_l (List.mem_of_getElem? (i := 5) rfl)))) (fa_c (me_s (me_l (me_l (List.mem_of_getElem? (i := 6) rfl)))) (fa_c (me_s (me_l (me_l (List.mem_of_getElem? (i := 7) rfl)))) (fa_c (me_s (me_l (me_l (List.mem_of_getElem? (i := 3) rfl)))) fa_n)))) (by decide +kernel)) ggX9_tokenOf_X9_wordOf
theorem dX9_tokenOf_34 : decode cX9_tokenOf 34 = .ok (.invokevirtual 137, 3) := by decide +kernel
theorem dX9_tokenOf_37 : decode cX9_tokenOf 37 = .ok (.ireturn, 1) := by decide +kernel
theorem dX9_tokenOf_38 : decode cX9_tokenOf 38 = .ok (.iload_n 3, 1) := by decide +kernel
set_option maxRecDepth 20000 in
theorem ggX9_tokenOf_X9_isDigit : GoodIn wsX9_tokenOf wsX9_isDigit := goodIn_sub (fa_c (me_s (me_l (me_r (me_r (List.mem_of_getElem? (i := 19) rfl))))) fa_n) (by decide +kernel)
set_option maxRecDepth 20000 in
theorem gX9_tokenOf_X9_isDigit : GoodIn wsX9_tokenOf (va_wsS RX9 134 yX9_isDigit wsX9_isDigit) := goodIn_app (goodIn_sub (fa_c (me_s (me_l (me_r (me_r (List.mem_of_getElem? (i := 17) rfl))))) (fa_c (me_s (me_l (me_r (me_r (List.mem_of_getElem? (i := 18) rfl))))) (fa_c (me_s (me_l (me_l (List.mem_of_getElem? (i := 3) rfl)))) fa_n))) (by decide +kernel)) ggX9_tokenOf_X9_isDigit
theorem dX9_tokenOf_39 : decode cX9_tokenOf 39 = .ok (.invokestatic 134, 3) := by decide +kernel
theorem dX9_tokenOf_42 : decode cX9_tokenOf 42 = .ok (.ifCond .eq 21, 3) := by decide +kernel
theorem dX9_tokenOf_45 : decode cX9_tokenOf 45 = .ok (.iload_n 2, 1) := by decide +kernel
theorem dX9_tokenOf_46 : decode cX9_tokenOf 46 = .ok (.iload_n 1, 1) := by decide +kernel
theorem dX9_tokenOf_47 : decode cX9_tokenOf 47 = .ok (.isub, 1) := by decide +kernel
theorem dX9_tokenOf_48 : decode cX9_tokenOf 48 = .ok (.bipush 6, 2) := by decide +kernel
theorem dX9_tokenOf_50 : decode cX9_tokenOf 50 = .ok (.if_icmp .gt 9, 3) := by decide +kernel
theorem dX9_tokenOf_59 : decode cX9_tokenOf 59 = .ok (.sipush 402, 3) := by decide +kernel
theorem dX9_tokenOf_62 : decode cX9_tokenOf 62 = .ok (.ireturn, 1) := by decide +kernel
theorem dX9_tokenOf_53 : decode cX9_tokenOf 53 = .ok (.sipush 400, 3) := by decide +kernel
theorem dX9_tokenOf_56 : decode cX9_tokenOf 56 = .ok (.goto 6, 3) := by decide +kernel
theorem dX9_tokenOf_63 : decode cX9_tokenOf 63 = .ok (.iload_n 3, 1) := by decide +kernel
set_option maxRecDepth 20000 in
theorem ggX9_tokenOf_X9_isSign : GoodIn wsX9_tokenOf wsX9_isSign := goodIn_sub (fa_c (me_s (me_l (me_r (me_r (List.mem_of_getElem? (i := 22) rfl))))) fa_n) (by decide +kernel)
set_option maxRecDepth 20000 in
theorem gX9_tokenOf_X9_isSign : GoodIn wsX9_tokenOf (va_wsS RX9 140 yX9_isSign wsX9_isSign) := goodIn_app (goodIn_sub (fa_c (me_s (me_l (me_r (me_r (List.mem_of_getElem? (i := 20) rfl))))) (fa_c (me_s (me_l (me_r (me_r (List.mem_of_getElem? (i := 21) rfl))))) (fa_c (me_s (me_l (me_l (List.mem_of_getElem? (i := 3) rfl)))) fa_n))) (by decide +kernel)) ggX9_tokenOf_X9_isSign
theorem dX9_tokenOf_64 : decode cX9_tokenOf 64 = .ok (.invokestatic 140, 3) := by decide +kernel
theorem dX9_tokenOf_67 : decode cX9_tokenOf 67 = .ok (.ifCond .eq 7, 3) := by decide +kernel
theorem dX9_tokenOf_70 : decode cX9_tokenOf 70 = .ok (.iload_n 3, 1) := by decide +kernel
theorem dX9_tokenOf_71 : decode cX9_tokenOf 71 = .ok (.goto 6, 3) := by decide +kernel
theorem dX9_tokenOf_77 : decode cX9_tokenOf 77 = .ok (.ireturn, 1) := by decide +kernel
theorem dX9_tokenOf_74 : decode cX9_tokenOf 74 = .ok (.sipush 402, 3) := by decide +kernel
theorem dX9_scan_0 : decode cX9_scan 0 = .ok (.iload_n 1, 1) := by decide +kernel
theorem dX9_scan_1 : decode cX9_scan 1 = .ok (.aload_n 0, 1) := by decide +kernel
theorem dX9_scan_2 : decode cX9_scan 2 = .ok (.getfield 9, 3) := by decide +kernel
theorem dX9_scan_5 : decode cX9_scan 5 = .ok (.arraylength, 1) := by decide +kernel
theorem dX9_scan_6 : decode cX9_scan 6 = .ok (.invokestatic 40, 3) := by decide +kernel
theorem dX9_scan_9 : decode cX9_scan 9 = .ok (.istore_n 2, 1) := by decide +kernel
theorem dX9_scan_10 : decode cX9_scan 10 = .ok (.aload_n 0, 1) := by decide +kernel
theorem dX9_scan_11 : decode cX9_scan 11 = .ok (.iconst 0, 1) := by decide +kernel
theorem dX9_scan_12 : decode cX9_scan 12 = .ok (.putfield 76, 3) := by decide +kernel
theorem dX9_scan_15 : decode cX9_scan 15 = .ok (.iconst 0, 1) := by decide +kernel
theorem dX9_scan_16 : decode cX9_scan 16 = .ok (.istore 4, 2) := by decide +kernel
theorem dX9_scan_18 : decode cX9_scan 18 = .ok (.iload 4, 2) := by decide +kernel
theorem dX9_scan_20 : decode cX9_scan 20 = .ok (.iload_n 2, 1) := by decide +kernel
theorem dX9_scan_21 : decode cX9_scan 21 = .ok (.if_icmp .ge 57, 3) := by decide +kernel
theorem dX9_scan_78 : decode cX9_scan 78 = .ok (.aload_n 0, 1) := by decide +kernel
theorem dX9_scan_79 : decode cX9_scan 79 = .ok (.sipush 401, 3) := by decide +kernel
theorem dX9_scan_82 : decode cX9_scan 82 = .ok (.iload_n 2, 1) := by decide +kernel
theorem dX9_scan_83 : decode cX9_scan 83 = .ok (.iconst 0, 1) := by decide +kernel
set_option maxRecDepth 20000 in
theorem ggX9_scan_X9_addToken : GoodIn wsX9_scan wsX9_addToken := goodIn_sub (fa_c (me_s (me_l (me_r (me_r (me_r (me_r (List.mem_of_getElem? (i := 1) rfl))))))) (fa_a (fa_c (me_s (me_l (me_l (List.mem_of_getElem? (i := 5) rfl)))) (fa_c (me_s (me_l (me_r (me_r (me_r (me_r (List.mem_of_getElem? (i := 2) rfl))))))) (fa_c (me_s (me_l (me_r (me_r (me_r (me_r (List.mem_of_getElem? (i := 3) rfl))))))) (fa_c (me_s (me_l (me_r (me_r (me_r (me_r (List.mem_of_getElem? (i := 4) rfl))))))) fa_n)))) (fun w h => (me_s (me_r h))))) (by decide +kernel)
set_option maxRecDepth 20000 in
theorem gX9_scan_X9_addToken : GoodIn wsX9_scan (wsV RX9 124 RX9 yX9_addToken wsX9_addToken) := goodIn_app (goodIn_sub (fa_c (me_s (me_l (me_r (me_r (me_r (me_l (List.mem_of_getElem? (i := 22) rfl))))))) (fa_c (me_s (me_l (me_r (me_r (me_r (me_l (List.mem_of_getElem? (i := 23) rfl))))))) (fa_c (me_s (me_l (me_r (me_r (me_r (me_r (List.mem_of_getElem? (i := 0) rfl))))))) (fa_c (me_s (me_l (me_l (List.mem_of_getElem? (i := 12) rfl)))) fa_n)))) (by decide +kernel)) ggX9_scan_X9_addToken
theorem dX9_scan_84 : decode cX9_scan 84 = .ok (.invokevirtual 124, 3) := by decide +kernel
theorem dX9_scan_87 : decode cX9_scan 87 = .ok (.return_, 1) := by decide +kernel
theorem dX9_scan_24 : decode cX9_scan 24 = .ok (.aload_n 0, 1) := by decide +kernel
theorem dX9_scan_25 : decode cX9_scan 25 = .ok (.iload 4, 2) := by decide +kernel
theorem dX9_scan_27 : decode cX9_scan 27 = .ok (.iload_n 2, 1) := by decide +kernel
set_option maxRecDepth 20000 in
theorem ggX9_scan_X9_endOf : GoodIn wsX9_scan wsX9_endOf := goodIn_sub (fa_c (me_s (me_l (me_l (List.mem_of_getElem? (i := 13) rfl)))) (fa_a (fa_c (me_s (me_l (me_l (List.mem_of_getElem? (i := 0) rfl)))) (fa_c (me_s (me_l (me_l (List.mem_of_getElem? (i := 14) rfl)))) (fa_c (me_s (me_l (me_l (List.mem_of_getElem? (i := 15) rfl)))) (fa_c (me_s (me_l (me_l (List.mem_of_getElem? (i := 12) rfl)))) (fa_c (me_s (me_l (me_l (List.mem_of_getElem? (i := 16) rfl)))) (fa_c (me_s (me_l (me_l (List.mem_of_getElem? (i := 17) rfl)))) (fa_c (me_s (me_l (me_l (List.mem_of_getElem? (i := 18) rfl)))) (fa_c (me_s (me_l (me_l (List.mem_of_getElem? (i := 19) rfl)))) fa_n)))))))) (fun w h => (me_s (me_r h))))) (by decide +kernel)
set_option maxRecDepth 20000 in
theorem gX9_scan_X9_endOf : GoodIn wsX9_scan (wsV RX9 112 RX9 yX9_endOf wsX9_endOf) := goodIn_app (goodIn_sub (fa_c (me_s (me_l (me_l (List.mem_of_getElem? (i := 9) rfl)))) (fa_c (me_s (me_l (me_l (List.mem_of_getElem? (i := 10) rfl)))) (fa_c (me_s (me_l (me_l (List.mem_of_getElem? (i := 11) rfl)))) (fa_c (me_s (me_l (me_l (List.mem_of_getElem? (i := 12) rfl)))) fa_n)))) (by decide +kernel)) ggX9_scan_X9_endOf
theorem dX9_scan_28 : decode cX9_scan 28 = .ok (.invokevirtual 112, 3) := by decide +kernel
theorem dX9_scan_31 : decode cX9_scan 31 = .ok (.istore_n 3, 1) := by decide +kernel
theorem dX9_scan_32 : decode cX9_scan 32 = .ok (.aload_n 0, 1) := by decide +kernel
theorem dX9_scan_33 : decode cX9_scan 33 = .ok (.getfield 9, 3) := by decide +kernel
theorem dX9_scan_36 : decode cX9_scan 36 = .ok (.iload 4, 2) := by decide +kernel
theorem dX9_scan_38 : decode cX9_scan 38 = .ok (.iaload, 1) := by decide +kernel
set_option maxRecDepth 20000 in
theorem ggX9_scan_X9_isBlank : GoodIn wsX9_scan wsX9_isBlank := goodIn_sub (fa_c (me_s (me_l (me_l (List.mem_of_getElem? (i := 22) rfl)))) fa_n) (by decide +kernel)
set_option maxRecDepth 20000 in
theorem gX9_scan_X9_isBlank : GoodIn wsX9_scan (va_wsS RX9 115 yX9_isBlank wsX9_isBlank) := goodIn_app (goodIn_sub (fa_c (me_s (me_l (me_l (List.mem_of_getElem? (i := 20) rfl)))) (fa_c (me_s (me_l (me_l (List.mem_of_getElem? (i := 21) rfl)))) (fa_c (me_s (me_l (me_l (List.mem_of_getElem? (i := 12) rfl)))) fa_n))) (by decide +kernel)) ggX9_scan_X9_isBlank
theorem dX9_scan_39 : decode cX9_scan 39 = .ok (.invokestatic 115, 3) := by decide +kernel
theorem dX9_scan_42 : decode cX9_scan 42 = .ok (.ifCond .ne 23, 3) := by decide +kernel
theorem dX9_scan_65 : decode cX9_scan 65 = .ok (.iload_n 3, 1) := by decide +kernel
theorem dX9_scan_66 : decode cX9_scan 66 = .ok (.iload 4, 2) := by decide +kernel
theorem dX9_scan_68 : decode cX9_scan 68 = .ok (.iconst 1, 1) := by decide +kernel
theorem dX9_scan_69 : decode cX9_scan 69 = .ok (.iadd, 1) := by decide +kernel
theorem dX9_scan_70 : decode cX9_scan 70 = .ok (.invokestatic 128, 3) := by decide +kernel
theorem dX9_scan_73 : decode cX9_scan 73 = .ok (.istore 4, 2) := by decide +kernel
theorem dX9_scan_75 : decode cX9_scan 75 = .ok (.goto (-57), 3) := by decide +kernel
theorem dX9_scan_45 : decode cX9_scan 45 = .ok (.aload_n 0, 1) := by decide +kernel
theorem dX9_scan_46 : decode cX9_scan 46 = .ok (.aload_n 0, 1) := by decide +kernel
theorem dX9_scan_47 : decode cX9_scan 47 = .ok (.iload 4, 2) := by decide +kernel
theorem dX9_scan_49 : decode cX9_scan 49 = .ok (.iload_n 3, 1) := by decide +kernel
set_option maxRecDepth 20000 in
theorem ggX9_scan_X9_tokenOf : GoodIn wsX9_scan wsX9_tokenOf := goodIn_sub (fa_c (me_s (me_l (me_r (me_l (List.mem_of_getElem? (i := 2) rfl))))) (fa_a (fa_a (fa_c (me_s (me_l (me_l (List.mem_of_getElem? (i := 0) rfl)))) (fa_c (me_s (me_l (me_l (List.mem_of_getElem? (i := 14) rfl)))) (fa_c (me_s (me_l (me_l (List.mem_of_getElem? (i := 15) rfl)))) (fa_c (me_s (me_l (me_l (List.mem_of_getElem? (i := 12) rfl)))) (fa_c (me_s (me_l (me_l (List.mem_of_getElem? (i := 16) rfl)))) (fa_c (me_s (me_l (me_r (me_l (List.mem_of_getElem? (i := 3) rfl))))) (fa_c (me_s (me_l (me_r (me_l (List.mem_of_getElem? (i := 4) rfl))))) (fa_c (me_s (me_l (me_r (me_l (List.mem_of_getElem? (i := 5) rfl))))) (fa_c (me_s (me_l (me_r (me_l (List.mem_of_getElem? (i := 6) rfl))))) (fa_c (me_s (me_l (me_r (me_l (List.mem_of_getElem? (i := 7) rfl))))) (fa_c (me_s (me_l (me_r (me_l (List.mem_of_getElem? (i := 8) rfl))))) (fa_c (me_s (me_l (me_r (me_l (List.mem_of_getElem? (i := 9) rfl))))) (fa_c (me_s (me_l (me_r (me_l (List.mem_of_getElem? (i := 10) rfl))))) (fa_c (me_s (me_l (me_r (me_l (List.mem_of_getElem? (i := 11) rfl))))) (fa_c (me_s (me_l (me_r (me_l (List.mem_of_getElem? (i := 12) rfl))))) (fa_c (me_s (me_l (me_r (me_l (List.mem_of_getElem? (i := 13) rfl))))) (fa_c (me_s (me_l (me_r (me_l (List.mem_of_getElem? (i := 14) rfl))))) (fa_c (me_s (me_l (me_r (me_l (List.mem_of_getElem? (i := 15) rfl))))) (fa_c (me_s (me_l (me_r (me_l (List.mem_of_getElem? (i := 16) rfl))))) (fa_c (me_s (me_l (me_r (me_l (List.mem_of_getElem? (i := 17) rfl))))) (fa_c (me_s (me_l (me_r (me_l (List.mem_of_getElem? (i := 18) rfl))))) (fa_c (me_s (me_l (me_r (me_l (List.mem_of_getElem? (i := 19) rfl))))) (fa_c (me_s (me_l (me_r (me_l (List.mem_of_getElem? (i := 20) rfl))))) (fa_c (me_s (me_l (me_r (me_l (List.mem_of_getElem? (i := 21) rfl))))) fa_n)))))))))))))))))))))))) (fa_a (fa_c (me_s (me_l (me_r (me_l (List.mem_of_getElem? (i := 22) rfl))))) (fa_c (me_s (me_l (me_r (me_l (List.mem_of_getElem? (i := 23) rfl))))) (fa_c (me_s (me_l (me_r (me_r (me_l (List.mem_of_getElem? (i := 0) rfl)))))) (fa_c (me_s (me_l (me_r (me_r (me_l (List.mem_of_getElem? (i := 1) rfl)))))) (fa_c (me_s (me_l (me_r (me_r (me_l (List.mem_of_getElem? (i := 2) rfl)))))) (fa_c (me_s (me_l (me_r (me_r (me_l (List.mem_of_getElem? (i := 3) rfl)))))) (fa_c (me_s (me_l (me_r (me_r (me_l (List.mem_of_getElem? (i := 4) rfl)))))) (fa_c (me_s (me_l (me_r (me_r (me_l (List.mem_of_getElem? (i := 5) rfl)))))) (fa_c (me_s (me_l (me_r (me_r (me_l (List.mem_of_getElem? (i := 6) rfl)))))) (fa_c (me_s (me_l (me_r (me_r (me_l (List.mem_of_getElem? (i := 7) rfl)))))) (fa_c (me_s (me_l (me_r (me_r (me_l (List.mem_of_getElem? (i := 8) rfl)))))) (fa_c (me_s (me_l (me_r (me_r (me_l (List.mem_of_getElem? (i := 9) rfl)))))) (fa_c (me_s (me_l (me_r (me_r (me_l (List.mem_of_getElem? (i := 10) rfl)))))) (fa_c (me_s (me_l (me_r (me_r (me_l (List.mem_of_getElem? (i := 11) rfl)))))) (fa_c (me_s (me_l (me_r (me_r (me_l (List.mem_of_getElem? (i := 12) rfl)))))) (fa_c (me_s (me_l (me_r (me_r (me_l (List.mem_of_getElem? (i := 13) rfl)))))) (fa_c (me_s (me_l (me_r (me_r (me_l (List.mem_of_getElem? (i := 14) rfl)))))) (fa_c (me_s (me_l (me_r (me_r (me_l (List.mem_of_getElem? (i := 15) rfl)))))) (fa_c (me_s (me_l (me_r (me_r (me_l (List.mem_of_getElem? (i := 16) rfl)))))) (fa_c (me_s (me_l (me_r (me_r (me_l (List.mem_of_getElem? (i := 17) rfl)))))) (fa_c (me_s (me_l (me_r (me_r (me_l (List.mem_of_getElem? (i := 18) rfl)))))) (fa_c (me_s (me_l (me_r (me_r (me_l (List.mem_of_getElem? (i := 19) rfl)))))) (fa_c (me_s (me_l (me_r (me_r (me_l (List.mem_of_getElem? (i := 20) rfl)))))) (fa_c (me_s (me_l (me_r (me_r (me_l (List.mem_of_getElem? (i := 21) rfl)))))) fa_n)))))))))))))))))))))))) (fa_c (me_s (me_l (me_r (me_r (me_l (List.mem_of_getElem? (i := 22) rfl)))))) (fa_c (me_s (me_l (me_r (me_r (me_l (List.mem_of_getElem? (i := 23) rfl)))))) (fa_c (me_s (me_l (me_r (me_r (me_r (me_l (List.mem_of_getElem? (i := 0) rfl))))))) (fa_c (me_s (me_l (me_r (me_r (me_r (me_l (List.mem_of_getElem? (i := 1) rfl))))))) (fa_c (me_s (me_l (me_r (me_r (me_r (me_l (List.mem_of_getElem? (i := 2) rfl))))))) (fa_c (me_s (me_l (me_r (me_r (me_r (me_l (List.mem_of_getElem? (i := 3) rfl))))))) (fa_c (me_s (me_l (me_r (me_r (me_r (me_l (List.mem_of_getElem? (i := 4) rfl))))))) (fa_c (me_s (me_l (me_r (me_r (me_r (me_l (List.mem_of_getElem? (i := 5) rfl))))))) (fa_c (me_s (me_l (me_r (me_r (me_r (me_l (List.mem_of_getElem? (i := 6) rfl))))))) (fa_c (me_s (me_l (me_r (me_r (me_r (me_l (List.mem_of_getElem? (i := 7) rfl))))))) (fa_c (me_s (me_l (me_r (me_r (me_r (me_l (List.mem_of_getElem? (i := 8) rfl))))))) (fa_c (me_s (me_l (me_r (me_r (me_r (me_l (List.mem_of_getElem? (i := 9) rfl))))))) (fa_c (me_s (me_l (me_r (me_r (me_r (me_l (List.mem_of_getElem? (i := 10) rfl))))))) (fa_c (me_s (me_l (me_r (me_r (me_r (me_l (List.mem_of_getElem? (i := 11) rfl))))))) (fa_c (me_s (me_l (me_r (me_r (me_r (me_l (List.mem_of_getElem? (i := 12) rfl))))))) (fa_c (me_s (me_l (me_r (me_r (me_r (me_l (List.mem_of_getElem? (i := 13) rfl))))))) (fa_c (me_s (me_l (me_r (me_r (me_r (me_l (List.mem_of_getElem? (i := 14) rfl))))))) (fa_c (me_s (me_l (me_l (List.mem_of_getElem? (i := 17) rfl)))) (fa_c (me_s (me_l (me_l (List.mem_of_getElem? (i := 18) rfl)))) (fa_c (me_s (me_l (me_l (List.mem_of_getElem? (i := 19) rfl)))) (fa_c (me_s (me_l (me_r (me_r (me_r (me_l (List.mem_of_getElem? (i := 15) rfl))))))) (fa_c (me_s (me_l (me_r (me_r (me_r (me_l (List.mem_of_getElem? (i := 16) rfl))))))) (fa_c (me_s (me_l (me_r (me_r (me_r (me_l (List.mem_of_getElem? (i := 17) rfl))))))) fa_n))))))))))))))))))))))))) (fun w h => (me_s (me_r h))))) (by decide +kernel)
set_option maxRecDepth 20000 in
theorem gX9_scan_X9_tokenOf : GoodIn wsX9_scan (wsV RX9 118 RX9 yX9_tokenOf wsX9_tokenOf) := goodIn_app (goodIn_sub (fa_c (me_s (me_l (me_l (List.mem_of_getElem? (i := 23) rfl)))) (fa_c (me_s (me_l (me_r (me_l (List.mem_of_getElem? (i := 0) rfl))))) (fa_c (me_s (me_l (me_r (me_l (List.mem_of_getElem? (i := 1) rfl))))) (fa_c (me_s (me_l (me_l (List.mem_of_getElem? (i := 12) rfl)))) fa_n)))) (by decide +kernel)) ggX9_scan_X9_tokenOf
theorem dX9_scan_50 : decode cX9_scan 50 = .ok (.invokevirtual 118, 3) := by decide +kernel
theorem dX9_scan_53 : decode cX9_scan 53 = .ok (.iload 4, 2) := by decide +kernel
theorem dX9_scan_55 : decode cX9_scan 55 = .ok (.aload_n 0, 1) := by decide +kernel
theorem dX9_scan_56 : decode cX9_scan 56 = .ok (.iload 4, 2) := by decide +kernel
theorem dX9_scan_58 : decode cX9_scan 58 = .ok (.iload_n 3, 1) := by decide +kernel
set_option maxRecDepth 20000 in
theorem ggX9_scan_X9_numberOf : GoodIn wsX9_scan wsX9_numberOf := goodIn_sub (fa_c (me_s (me_l (me_r (me_r (me_r (me_l (List.mem_of_getElem? (i := 21) rfl))))))) (fa_a (fa_c (me_s (me_l (me_l (List.mem_of_getElem? (i := 6) rfl)))) (fa_c (me_s (me_l (me_l (List.mem_of_getElem? (i := 7) rfl)))) (fa_c (me_s (me_l (me_l (List.mem_of_getElem? (i := 3) rfl)))) (fa_c (me_s (me_l (me_l (List.mem_of_getElem? (i := 8) rfl)))) (fa_c (me_s (me_l (me_l (List.mem_of_getElem? (i := 0) rfl)))) (fa_c (me_s (me_l (me_l (List.mem_of_getElem? (i := 17) rfl)))) (fa_c (me_s (me_l (me_l (List.mem_of_getElem? (i := 18) rfl)))) (fa_c (me_s (me_l (me_l (List.mem_of_getElem? (i := 12) rfl)))) (fa_c (me_s (me_l (me_l (List.mem_of_getElem? (i := 19) rfl)))) fa_n))))))))) (fun w h => (me_s (me_r h))))) (by decide +kernel)
set_option maxRecDepth 20000 in
theorem gX9_scan_X9_numberOf : GoodIn wsX9_scan (wsV RX9 121 RX9 yX9_numberOf wsX9_numberOf) := goodIn_app (goodIn_sub (fa_c (me_s (me_l (me_r (me_r (me_r (me_l (List.mem_of_getElem? (i := 18) rfl))))))) (fa_c (me_s (me_l (me_r (me_r (me_r (me_l (List.mem_of_getElem? (i := 19) rfl))))))) (fa_c (me_s (me_l (me_r (me_r (me_r (me_l (List.mem_of_getElem? (i := 20) rfl))))))) (fa_c (me_s (me_l (me_l (List.mem_of_getElem? (i := 12) rfl)))) fa_n)))) (by decide +kernel)) ggX9_scan_X9_numberOf
theorem dX9_scan_59 : decode cX9_scan 59 = .ok (.invokevirtual 121, 3) := by decide +kernel
theorem dX9_scan_62 : decode cX9_scan 62 = .ok (.invokevirtual 124, 3) := by decide +kernel
theorem z_l304 : (304 : Int32).toInt = 304 := by decide
theorem z_l305 : (305 : Int32).toInt = 305 := by decide
theorem z_l306 : (306 : Int32).toInt = 306 := by decide
theorem z_l315 : (315 : Int32).toInt = 315 := by decide
theorem z_l316 : (316 : Int32).toInt = 316 := by decide
theorem z_l317 : (317 : Int32).toInt = 317 := by decide
theorem z_l318 : (318 : Int32).toInt = 318 := by decide
theorem z_l319 : (319 : Int32).toInt = 319 := by decide
theorem zj_X9_addToken_X9 : ∀ w ∈ wsX90, w ∈ wsX9_addToken := fun w h => (List.mem_cons_of_mem _ (List.mem_append_right _ h))
theorem zj_X9_endOf_X9 : ∀ w ∈ wsX90, w ∈ wsX9_endOf := fun w h => (List.mem_cons_of_mem _ (List.mem_append_right _ h))
theorem zj_X9_numberOf_X9 : ∀ w ∈ wsX90, w ∈ wsX9_numberOf := fun w h => (List.mem_cons_of_mem _ (List.mem_append_right _ h))
theorem zj_X9_isWord_X9 : ∀ w ∈ wsX90, w ∈ wsX9_isWord := fun w h => (List.mem_cons_of_mem _ (List.mem_append_right _ h))
theorem zj_X9_tokenOf_X9 : ∀ w ∈ wsX90, w ∈ wsX9_tokenOf := fun w h => (List.mem_cons_of_mem _ (List.mem_append_right _ h))
theorem zj_X9_scan_X9 : ∀ w ∈ wsX90, w ∈ wsX9_scan := fun w h => (List.mem_cons_of_mem _ (List.mem_append_right _ h))