theorem dX10_addDelivery_0 : decode cX10_addDelivery 0 = .ok (.aload_n 0, 1) := z_dd_42 (by decide +kernel)
theorem dX10_addDelivery_1 : decode cX10_addDelivery 1 = .ok (.getfield 33, 3) := z_dd_180 (by decide +kernel)
theorem dX10_addDelivery_4 : decode cX10_addDelivery 4 = .ok (.bipush 30, 2) := z_dd_16 (by decide +kernel)
theorem dX10_addDelivery_6 : decode cX10_addDelivery 6 = .ok (.if_icmp .lt 5, 3) := z_dd_161 (by decide +kernel)
theorem dX10_addDelivery_11 : decode cX10_addDelivery 11 = .ok (.aload_n 0, 1) := z_dd_42 (by decide +kernel)
theorem dX10_addDelivery_12 : decode cX10_addDelivery 12 = .ok (.dup, 1) := z_dd_89 (by decide +kernel)
theorem dX10_addDelivery_13 : decode cX10_addDelivery 13 = .ok (.getfield 33, 3) := z_dd_180 (by decide +kernel)
theorem dX10_addDelivery_16 : decode cX10_addDelivery 16 = .ok (.iconst 1, 1) := z_dd_4 (by decide +kernel)
theorem dX10_addDelivery_17 : decode cX10_addDelivery 17 = .ok (.iadd, 1) := z_dd_96 (by decide +kernel)
theorem dX10_addDelivery_18 : decode cX10_addDelivery 18 = .ok (.putfield 33, 3) := z_dd_181 (by decide +kernel)
theorem dX10_addDelivery_21 : decode cX10_addDelivery 21 = .ok (.aload_n 0, 1) := z_dd_42 (by decide +kernel)
theorem dX10_addDelivery_22 : decode cX10_addDelivery 22 = .ok (.dup, 1) := z_dd_89 (by decide +kernel)
theorem dX10_addDelivery_23 : decode cX10_addDelivery 23 = .ok (.getfield 37, 3) := z_dd_180 (by decide +kernel)
theorem dX10_addDelivery_26 : decode cX10_addDelivery 26 = .ok (.iload_n 1, 1) := z_dd_27 (by decide +kernel)
theorem dX10_addDelivery_27 : decode cX10_addDelivery 27 = .ok (.iadd, 1) := z_dd_96 (by decide +kernel)
theorem dX10_addDelivery_28 : decode cX10_addDelivery 28 = .ok (.putfield 37, 3) := z_dd_181 (by decide +kernel)
theorem dX10_addDelivery_31 : decode cX10_addDelivery 31 = .ok (.aload_n 0, 1) := z_dd_42 (by decide +kernel)
theorem dX10_addDelivery_32 : decode cX10_addDelivery 32 = .ok (.getfield 37, 3) := z_dd_180 (by decide +kernel)
theorem dX10_addDelivery_35 : decode cX10_addDelivery 35 = .ok (.ireturn, 1) := z_dd_172 (by decide +kernel)
theorem dX10_addDelivery_9 : decode cX10_addDelivery 9 = .ok (.iconst (-1), 1) := z_dd_2 (by decide +kernel)
theorem dX10_addDelivery_10 : decode cX10_addDelivery 10 = .ok (.ireturn, 1) := z_dd_172 (by decide +kernel)
theorem dX10_addDip_0 : decode cX10_addDip 0 = .ok (.aload_n 0, 1) := z_dd_42 (by decide +kernel)
theorem dX10_addDip_1 : decode cX10_addDip 1 = .ok (.getfield 40, 3) := z_dd_180 (by decide +kernel)
theorem dX10_addDip_4 : decode cX10_addDip 4 = .ok (.bipush 30, 2) := z_dd_16 (by decide +kernel)
theorem dX10_addDip_6 : decode cX10_addDip 6 = .ok (.if_icmp .lt 5, 3) := z_dd_161 (by decide +kernel)
theorem dX10_addDip_11 : decode cX10_addDip 11 = .ok (.aload_n 0, 1) := z_dd_42 (by decide +kernel)
theorem dX10_addDip_12 : decode cX10_addDip 12 = .ok (.getfield 9, 3) := z_dd_180 (by decide +kernel)
theorem dX10_addDip_15 : decode cX10_addDip 15 = .ok (.aload_n 0, 1) := z_dd_42 (by decide +kernel)
theorem dX10_addDip_16 : decode cX10_addDip 16 = .ok (.getfield 40, 3) := z_dd_180 (by decide +kernel)
theorem dX10_addDip_19 : decode cX10_addDip 19 = .ok (.iload_n 1, 1) := z_dd_27 (by decide +kernel)
theorem dX10_addDip_20 : decode cX10_addDip 20 = .ok (.iastore, 1) := z_dd_79 (by decide +kernel)
theorem dX10_addDip_21 : decode cX10_addDip 21 = .ok (.aload_n 0, 1) := z_dd_42 (by decide +kernel)
theorem dX10_addDip_22 : decode cX10_addDip 22 = .ok (.getfield 15, 3) := z_dd_180 (by decide +kernel)
theorem dX10_addDip_25 : decode cX10_addDip 25 = .ok (.aload_n 0, 1) := z_dd_42 (by decide +kernel)
theorem dX10_addDip_26 : decode cX10_addDip 26 = .ok (.getfield 40, 3) := z_dd_180 (by decide +kernel)
theorem dX10_addDip_29 : decode cX10_addDip 29 = .ok (.iload_n 2, 1) := z_dd_28 (by decide +kernel)
theorem dX10_addDip_30 : decode cX10_addDip 30 = .ok (.iastore, 1) := z_dd_79 (by decide +kernel)
theorem dX10_addDip_31 : decode cX10_addDip 31 = .ok (.aload_n 0, 1) := z_dd_42 (by decide +kernel)
theorem dX10_addDip_32 : decode cX10_addDip 32 = .ok (.getfield 18, 3) := z_dd_180 (by decide +kernel)
theorem dX10_addDip_35 : decode cX10_addDip 35 = .ok (.aload_n 0, 1) := z_dd_42 (by decide +kernel)
theorem dX10_addDip_36 : decode cX10_addDip 36 = .ok (.getfield 40, 3) := z_dd_180 (by decide +kernel)
theorem dX10_addDip_39 : decode cX10_addDip 39 = .ok (.aload_n 0, 1) := z_dd_42 (by decide +kernel)
theorem dX10_addDip_40 : decode cX10_addDip 40 = .ok (.getfield 37, 3) := z_dd_180 (by decide +kernel)
theorem dX10_addDip_43 : decode cX10_addDip 43 = .ok (.iastore, 1) := z_dd_79 (by decide +kernel)
theorem dX10_addDip_44 : decode cX10_addDip 44 = .ok (.aload_n 0, 1) := z_dd_42 (by decide +kernel)
theorem dX10_addDip_45 : decode cX10_addDip 45 = .ok (.getfield 21, 3) := z_dd_180 (by decide +kernel)
theorem dX10_addDip_48 : decode cX10_addDip 48 = .ok (.aload_n 0, 1) := z_dd_42 (by decide +kernel)
theorem dX10_addDip_49 : decode cX10_addDip 49 = .ok (.getfield 40, 3) := z_dd_180 (by decide +kernel)
theorem dX10_addDip_52 : decode cX10_addDip 52 = .ok (.iload_n 3, 1) := z_dd_29 (by decide +kernel)
theorem dX10_addDip_53 : decode cX10_addDip 53 = .ok (.iastore, 1) := z_dd_79 (by decide +kernel)
theorem dX10_addDip_54 : decode cX10_addDip 54 = .ok (.aload_n 0, 1) := z_dd_42 (by decide +kernel)
theorem dX10_addDip_55 : decode cX10_addDip 55 = .ok (.dup, 1) := z_dd_89 (by decide +kernel)
theorem dX10_addDip_56 : decode cX10_addDip 56 = .ok (.getfield 40, 3) := z_dd_180 (by decide +kernel)
theorem dX10_addDip_59 : decode cX10_addDip 59 = .ok (.iconst 1, 1) := z_dd_4 (by decide +kernel)
theorem dX10_addDip_60 : decode cX10_addDip 60 = .ok (.iadd, 1) := z_dd_96 (by decide +kernel)
theorem dX10_addDip_61 : decode cX10_addDip 61 = .ok (.putfield 40, 3) := z_dd_181 (by decide +kernel)
theorem dX10_addDip_64 : decode cX10_addDip 64 = .ok (.aload_n 0, 1) := z_dd_42 (by decide +kernel)
theorem dX10_addDip_65 : decode cX10_addDip 65 = .ok (.getfield 40, 3) := z_dd_180 (by decide +kernel)
theorem dX10_addDip_68 : decode cX10_addDip 68 = .ok (.iconst 1, 1) := z_dd_4 (by decide +kernel)
theorem dX10_addDip_69 : decode cX10_addDip 69 = .ok (.isub, 1) := z_dd_100 (by decide +kernel)
theorem dX10_addDip_70 : decode cX10_addDip 70 = .ok (.ireturn, 1) := z_dd_172 (by decide +kernel)
theorem dX10_addDip_9 : decode cX10_addDip 9 = .ok (.iconst (-1), 1) := z_dd_2 (by decide +kernel)
theorem dX10_addDip_10 : decode cX10_addDip 10 = .ok (.ireturn, 1) := z_dd_172 (by decide +kernel)
theorem dX10_hasSpan_0 : decode cX10_hasSpan 0 = .ok (.iload_n 1, 1) := z_dd_27 (by decide +kernel)
theorem dX10_hasSpan_1 : decode cX10_hasSpan 1 = .ok (.ifCond .lt 26, 3) := z_dd_155 (by decide +kernel)
theorem dX10_hasSpan_27 : decode cX10_hasSpan 27 = .ok (.iconst 0, 1) := z_dd_3 (by decide +kernel)
theorem dX10_hasSpan_28 : decode cX10_hasSpan 28 = .ok (.ireturn, 1) := z_dd_172 (by decide +kernel)
theorem dX10_hasSpan_4 : decode cX10_hasSpan 4 = .ok (.iload_n 1, 1) := z_dd_27 (by decide +kernel)
theorem dX10_hasSpan_5 : decode cX10_hasSpan 5 = .ok (.iload_n 2, 1) := z_dd_28 (by decide +kernel)
theorem dX10_hasSpan_6 : decode cX10_hasSpan 6 = .ok (.if_icmp .ge 21, 3) := z_dd_162 (by decide +kernel)
theorem dX10_hasSpan_9 : decode cX10_hasSpan 9 = .ok (.iload_n 2, 1) := z_dd_28 (by decide +kernel)
theorem dX10_hasSpan_10 : decode cX10_hasSpan 10 = .ok (.aload_n 0, 1) := z_dd_42 (by decide +kernel)
theorem dX10_hasSpan_11 : decode cX10_hasSpan 11 = .ok (.getfield 40, 3) := z_dd_180 (by decide +kernel)
theorem dX10_hasSpan_14 : decode cX10_hasSpan 14 = .ok (.if_icmp .ge 13, 3) := z_dd_162 (by decide +kernel)
theorem dX10_hasSpan_17 : decode cX10_hasSpan 17 = .ok (.iload_n 2, 1) := z_dd_28 (by decide +kernel)
theorem dX10_hasSpan_18 : decode cX10_hasSpan 18 = .ok (.bipush 30, 2) := z_dd_16 (by decide +kernel)
theorem dX10_hasSpan_20 : decode cX10_hasSpan 20 = .ok (.if_icmp .ge 7, 3) := z_dd_162 (by decide +kernel)
theorem dX10_hasSpan_23 : decode cX10_hasSpan 23 = .ok (.iconst 1, 1) := z_dd_4 (by decide +kernel)
theorem dX10_hasSpan_24 : decode cX10_hasSpan 24 = .ok (.goto 4, 3) := z_dd_167 (by decide +kernel)
theorem dX10_inTogether_0 : decode cX10_inTogether 0 = .ok (.lconst 0, 1) := z_dd_9 (by decide +kernel)
theorem dX10_inTogether_1 : decode cX10_inTogether 1 = .ok (.lstore_n 3, 1) := z_dd_66 (by decide +kernel)
theorem dX10_inTogether_2 : decode cX10_inTogether 2 = .ok (.iload_n 1, 1) := z_dd_27 (by decide +kernel)
theorem dX10_inTogether_3 : decode cX10_inTogether 3 = .ok (.iconst 0, 1) := z_dd_3 (by decide +kernel)
theorem dX10_inTogether_4 : decode cX10_inTogether 4 = .ok (.invokestatic 55, 3) := z_dd_184 (by decide +kernel)
theorem dX10_inTogether_7 : decode cX10_inTogether 7 = .ok (.istore 5, 2) := z_dd_54 (by decide +kernel)
theorem dX10_inTogether_9 : decode cX10_inTogether 9 = .ok (.iload 5, 2) := z_dd_21 (by decide +kernel)
theorem dX10_inTogether_11 : decode cX10_inTogether 11 = .ok (.iload_n 2, 1) := z_dd_28 (by decide +kernel)
theorem dX10_inTogether_12 : decode cX10_inTogether 12 = .ok (.if_icmp .ge 27, 3) := z_dd_162 (by decide +kernel)
theorem dX10_inTogether_39 : decode cX10_inTogether 39 = .ok (.lload_n 3, 1) := z_dd_33 (by decide +kernel)
theorem dX10_inTogether_40 : decode cX10_inTogether 40 = .ok (.lreturn, 1) := z_dd_173 (by decide +kernel)
theorem dX10_inTogether_15 : decode cX10_inTogether 15 = .ok (.iload 5, 2) := z_dd_21 (by decide +kernel)
theorem dX10_inTogether_17 : decode cX10_inTogether 17 = .ok (.bipush 30, 2) := z_dd_16 (by decide +kernel)
theorem dX10_inTogether_19 : decode cX10_inTogether 19 = .ok (.if_icmp .ge 20, 3) := z_dd_162 (by decide +kernel)
theorem dX10_inTogether_22 : decode cX10_inTogether 22 = .ok (.lload_n 3, 1) := z_dd_33 (by decide +kernel)
theorem dX10_inTogether_23 : decode cX10_inTogether 23 = .ok (.aload_n 0, 1) := z_dd_42 (by decide +kernel)
theorem dX10_inTogether_24 : decode cX10_inTogether 24 = .ok (.getfield 30, 3) := z_dd_180 (by decide +kernel)
theorem dX10_inTogether_27 : decode cX10_inTogether 27 = .ok (.iload 5, 2) := z_dd_21 (by decide +kernel)
theorem dX10_inTogether_29 : decode cX10_inTogether 29 = .ok (.iaload, 1) := z_dd_46 (by decide +kernel)
theorem dX10_inTogether_30 : decode cX10_inTogether 30 = .ok (.i2l, 1) := z_dd_133 (by decide +kernel)
theorem dX10_inTogether_31 : decode cX10_inTogether 31 = .ok (.ladd, 1) := z_dd_97 (by decide +kernel)
theorem dX10_inTogether_32 : decode cX10_inTogether 32 = .ok (.lstore_n 3, 1) := z_dd_66 (by decide +kernel)
theorem dX10_inTogether_33 : decode cX10_inTogether 33 = .ok (.iinc 5 1, 3) := z_dd_132 (by decide +kernel)
theorem dX10_inTogether_36 : decode cX10_inTogether 36 = .ok (.goto (-27), 3) := z_dd_167 (by decide +kernel)
theorem dX10_lowestFirst_0 : decode cX10_lowestFirst 0 = .ok (.aload_n 0, 1) := z_dd_42 (by decide +kernel)
theorem dX10_lowestFirst_1 : decode cX10_lowestFirst 1 = .ok (.iload_n 1, 1) := z_dd_27 (by decide +kernel)
theorem dX10_lowestFirst_2 : decode cX10_lowestFirst 2 = .ok (.iload_n 2, 1) := z_dd_28 (by decide +kernel)
set_option maxRecDepth 20000 in
theorem ggX10_lowestFirst_X10_hasSpan : GoodIn wsX10_lowestFirst wsX10_hasSpan := goodIn_sub (fa_c (me_s (me_l (List.mem_of_getElem? (i := 12) rfl))) (fa_a (fa_c (me_s (me_l (List.mem_of_getElem? (i := 13) rfl))) fa_n) (fun w h => (me_s (me_r h))))) (by decide +kernel)
set_option maxRecDepth 20000 in
theorem gX10_lowestFirst_X10_hasSpan : GoodIn wsX10_lowestFirst (wsV RX10 43 RX10 yX10_hasSpan wsX10_hasSpan) := goodIn_app (goodIn_sub (fa_c (me_s (me_l (List.mem_of_getElem? (i := 8) rfl))) (fa_c (me_s (me_l (List.mem_of_getElem? (i := 9) rfl))) (fa_c (me_s (me_l (List.mem_of_getElem? (i := 10) rfl))) (fa_c (me_s (me_l (List.mem_of_getElem? (i := 11) rfl))) fa_n)))) (by decide +kernel)) ggX10_lowestFirst_X10_hasSpan
theorem dX10_lowestFirst_3 : decode cX10_lowestFirst 3 = .ok (.invokevirtual 43, 3) := z_dd_182 (by decide +kernel)
theorem dX10_lowestFirst_6 : decode cX10_lowestFirst 6 = .ok (.ifCond .ne 5, 3) := z_dd_154 (by decide +kernel)
theorem dX10_lowestFirst_11 : decode cX10_lowestFirst 11 = .ok (.aload_n 0, 1) := z_dd_42 (by decide +kernel)
theorem dX10_lowestFirst_12 : decode cX10_lowestFirst 12 = .ok (.getfield 24, 3) := z_dd_180 (by decide +kernel)
theorem dX10_lowestFirst_15 : decode cX10_lowestFirst 15 = .ok (.iload_n 2, 1) := z_dd_28 (by decide +kernel)
theorem dX10_lowestFirst_16 : decode cX10_lowestFirst 16 = .ok (.iaload, 1) := z_dd_46 (by decide +kernel)
theorem dX10_lowestFirst_17 : decode cX10_lowestFirst 17 = .ok (.i2l, 1) := z_dd_133 (by decide +kernel)
theorem dX10_lowestFirst_18 : decode cX10_lowestFirst 18 = .ok (.lstore_n 3, 1) := z_dd_66 (by decide +kernel)
theorem dX10_lowestFirst_19 : decode cX10_lowestFirst 19 = .ok (.iload_n 2, 1) := z_dd_28 (by decide +kernel)
theorem dX10_lowestFirst_20 : decode cX10_lowestFirst 20 = .ok (.iconst 1, 1) := z_dd_4 (by decide +kernel)
theorem dX10_lowestFirst_21 : decode cX10_lowestFirst 21 = .ok (.isub, 1) := z_dd_100 (by decide +kernel)
theorem dX10_lowestFirst_22 : decode cX10_lowestFirst 22 = .ok (.istore 5, 2) := z_dd_54 (by decide +kernel)
theorem dX10_lowestFirst_24 : decode cX10_lowestFirst 24 = .ok (.iload 5, 2) := z_dd_21 (by decide +kernel)
theorem dX10_lowestFirst_26 : decode cX10_lowestFirst 26 = .ok (.iload_n 1, 1) := z_dd_27 (by decide +kernel)
theorem dX10_lowestFirst_27 : decode cX10_lowestFirst 27 = .ok (.if_icmp .lt 53, 3) := z_dd_161 (by decide +kernel)
theorem dX10_lowestFirst_80 : decode cX10_lowestFirst 80 = .ok (.lload_n 3, 1) := z_dd_33 (by decide +kernel)
theorem dX10_lowestFirst_81 : decode cX10_lowestFirst 81 = .ok (.lreturn, 1) := z_dd_173 (by decide +kernel)
theorem dX10_lowestFirst_30 : decode cX10_lowestFirst 30 = .ok (.iload 5, 2) := z_dd_21 (by decide +kernel)
theorem dX10_lowestFirst_32 : decode cX10_lowestFirst 32 = .ok (.ifCond .lt 48, 3) := z_dd_155 (by decide +kernel)
theorem dX10_lowestFirst_35 : decode cX10_lowestFirst 35 = .ok (.aload_n 0, 1) := z_dd_42 (by decide +kernel)
theorem dX10_lowestFirst_36 : decode cX10_lowestFirst 36 = .ok (.getfield 24, 3) := z_dd_180 (by decide +kernel)
theorem dX10_lowestFirst_39 : decode cX10_lowestFirst 39 = .ok (.iload 5, 2) := z_dd_21 (by decide +kernel)
theorem dX10_lowestFirst_41 : decode cX10_lowestFirst 41 = .ok (.iaload, 1) := z_dd_46 (by decide +kernel)
theorem dX10_lowestFirst_42 : decode cX10_lowestFirst 42 = .ok (.i2l, 1) := z_dd_133 (by decide +kernel)
theorem dX10_lowestFirst_43 : decode cX10_lowestFirst 43 = .ok (.lload_n 3, 1) := z_dd_33 (by decide +kernel)
theorem dX10_lowestFirst_44 : decode cX10_lowestFirst 44 = .ok (.aload_n 0, 1) := z_dd_42 (by decide +kernel)
theorem dX10_lowestFirst_45 : decode cX10_lowestFirst 45 = .ok (.getfield 30, 3) := z_dd_180 (by decide +kernel)
theorem dX10_lowestFirst_48 : decode cX10_lowestFirst 48 = .ok (.iload 5, 2) := z_dd_21 (by decide +kernel)
theorem dX10_lowestFirst_50 : decode cX10_lowestFirst 50 = .ok (.iaload, 1) := z_dd_46 (by decide +kernel)
theorem dX10_lowestFirst_51 : decode cX10_lowestFirst 51 = .ok (.i2l, 1) := z_dd_133 (by decide +kernel)
theorem dX10_lowestFirst_52 : decode cX10_lowestFirst 52 = .ok (.lsub, 1) := z_dd_101 (by decide +kernel)
theorem dX10_lowestFirst_53 : decode cX10_lowestFirst 53 = .ok (.invokestatic 47, 3) := z_dd_184 (by decide +kernel)
theorem dX10_lowestFirst_56 : decode cX10_lowestFirst 56 = .ok (.lstore_n 3, 1) := z_dd_66 (by decide +kernel)
theorem dX10_lowestFirst_57 : decode cX10_lowestFirst 57 = .ok (.lload_n 3, 1) := z_dd_33 (by decide +kernel)
theorem dX10_lowestFirst_58 : decode cX10_lowestFirst 58 = .ok (.aload_n 0, 1) := z_dd_42 (by decide +kernel)
theorem dX10_lowestFirst_59 : decode cX10_lowestFirst 59 = .ok (.getfield 27, 3) := z_dd_180 (by decide +kernel)
theorem dX10_lowestFirst_62 : decode cX10_lowestFirst 62 = .ok (.iload 5, 2) := z_dd_21 (by decide +kernel)
theorem dX10_lowestFirst_64 : decode cX10_lowestFirst 64 = .ok (.iaload, 1) := z_dd_46 (by decide +kernel)
theorem dX10_lowestFirst_65 : decode cX10_lowestFirst 65 = .ok (.i2l, 1) := z_dd_133 (by decide +kernel)
theorem dX10_lowestFirst_66 : decode cX10_lowestFirst 66 = .ok (.lcmp, 1) := z_dd_148 (by decide +kernel)
theorem dX10_lowestFirst_67 : decode cX10_lowestFirst 67 = .ok (.ifCond .le 7, 3) := z_dd_158 (by decide +kernel)
theorem dX10_lowestFirst_74 : decode cX10_lowestFirst 74 = .ok (.iinc 5 (-1), 3) := z_dd_132 (by decide +kernel)
theorem dX10_lowestFirst_77 : decode cX10_lowestFirst 77 = .ok (.goto (-53), 3) := z_dd_167 (by decide +kernel)
theorem dX10_lowestFirst_70 : decode cX10_lowestFirst 70 = .ok (.ldc2_w 53, 3) := z_dd_20 (by decide +kernel)
theorem dX10_lowestFirst_73 : decode cX10_lowestFirst 73 = .ok (.lreturn, 1) := z_dd_173 (by decide +kernel)
theorem dX10_lowestFirst_9 : decode cX10_lowestFirst 9 = .ok (.lconst 0, 1) := z_dd_9 (by decide +kernel)
theorem dX10_lowestFirst_10 : decode cX10_lowestFirst 10 = .ok (.lreturn, 1) := z_dd_173 (by decide +kernel)
theorem dX10_mostBlack_0 : decode cX10_mostBlack 0 = .ok (.aload_n 0, 1) := z_dd_42 (by decide +kernel)
theorem dX10_mostBlack_1 : decode cX10_mostBlack 1 = .ok (.iload_n 1, 1) := z_dd_27 (by decide +kernel)
theorem dX10_mostBlack_2 : decode cX10_mostBlack 2 = .ok (.iload_n 2, 1) := z_dd_28 (by decide +kernel)
set_option maxRecDepth 20000 in
theorem ggX10_mostBlack_X10_hasSpan : GoodIn wsX10_mostBlack wsX10_hasSpan := goodIn_sub (fa_c (me_s (me_l (me_l (List.mem_of_getElem? (i := 8) rfl)))) (fa_a (fa_c (me_s (me_l (me_l (List.mem_of_getElem? (i := 9) rfl)))) fa_n) (fun w h => (me_s (me_r h))))) (by decide +kernel)
set_option maxRecDepth 20000 in
theorem gX10_mostBlack_X10_hasSpan : GoodIn wsX10_mostBlack (wsV RX10 43 RX10 yX10_hasSpan wsX10_hasSpan) := goodIn_app (goodIn_sub (fa_c (me_s (me_l (me_l (List.mem_of_getElem? (i := 4) rfl)))) (fa_c (me_s (me_l (me_l (List.mem_of_getElem? (i := 5) rfl)))) (fa_c (me_s (me_l (me_l (List.mem_of_getElem? (i := 6) rfl)))) (fa_c (me_s (me_l (me_l (List.mem_of_getElem? (i := 7) rfl)))) fa_n)))) (by decide +kernel)) ggX10_mostBlack_X10_hasSpan
theorem dX10_mostBlack_3 : decode cX10_mostBlack 3 = .ok (.invokevirtual 43, 3) := z_dd_182 (by decide +kernel)
theorem dX10_mostBlack_6 : decode cX10_mostBlack 6 = .ok (.ifCond .ne 7, 3) := z_dd_154 (by decide +kernel)
theorem dX10_mostBlack_13 : decode cX10_mostBlack 13 = .ok (.aload_n 0, 1) := z_dd_42 (by decide +kernel)
theorem dX10_mostBlack_14 : decode cX10_mostBlack 14 = .ok (.iload_n 1, 1) := z_dd_27 (by decide +kernel)
theorem dX10_mostBlack_15 : decode cX10_mostBlack 15 = .ok (.iload_n 2, 1) := z_dd_28 (by decide +kernel)
set_option maxRecDepth 20000 in
theorem ggX10_mostBlack_X10_lowestFirst : GoodIn wsX10_mostBlack wsX10_lowestFirst := goodIn_sub (fa_c (me_s (me_l (me_l (List.mem_of_getElem? (i := 13) rfl)))) (fa_a (fa_c (me_s (me_l (me_l (List.mem_of_getElem? (i := 3) rfl)))) (fa_c (me_s (me_l (me_l (List.mem_of_getElem? (i := 14) rfl)))) (fa_c (me_s (me_l (me_l (List.mem_of_getElem? (i := 15) rfl)))) (fa_c (me_s (me_l (me_l (List.mem_of_getElem? (i := 16) rfl)))) (fa_c (me_s (me_l (me_l (List.mem_of_getElem? (i := 17) rfl)))) (fa_c (me_s (me_l (me_l (List.mem_of_getElem? (i := 18) rfl)))) (fa_c (me_s (me_l (me_l (List.mem_of_getElem? (i := 2) rfl)))) (fa_c (me_s (me_l (me_l (List.mem_of_getElem? (i := 0) rfl)))) (fa_c (me_s (me_l (me_l (List.mem_of_getElem? (i := 4) rfl)))) (fa_c (me_s (me_l (me_l (List.mem_of_getElem? (i := 5) rfl)))) (fa_c (me_s (me_l (me_l (List.mem_of_getElem? (i := 6) rfl)))) (fa_c (me_s (me_l (me_l (List.mem_of_getElem? (i := 7) rfl)))) (fa_c (me_s (me_l (me_l (List.mem_of_getElem? (i := 8) rfl)))) (fa_c (me_s (me_l (me_l (List.mem_of_getElem? (i := 9) rfl)))) fa_n)))))))))))))) (fun w h => (me_s (me_r h))))) (by decide +kernel)
set_option maxRecDepth 20000 in
theorem gX10_mostBlack_X10_lowestFirst : GoodIn wsX10_mostBlack (wsV RX10 58 RX10 yX10_lowestFirst wsX10_lowestFirst) := goodIn_app (goodIn_sub (fa_c (me_s (me_l (me_l (List.mem_of_getElem? (i := 10) rfl)))) (fa_c (me_s (me_l (me_l (List.mem_of_getElem? (i := 11) rfl)))) (fa_c (me_s (me_l (me_l (List.mem_of_getElem? (i := 12) rfl)))) (fa_c (me_s (me_l (me_l (List.mem_of_getElem? (i := 7) rfl)))) fa_n)))) (by decide +kernel)) ggX10_mostBlack_X10_lowestFirst
theorem dX10_mostBlack_16 : decode cX10_mostBlack 16 = .ok (.invokevirtual 58, 3) := z_dd_182 (by decide +kernel)
theorem dX10_mostBlack_19 : decode cX10_mostBlack 19 = .ok (.ldc2_w 53, 3) := z_dd_20 (by decide +kernel)
theorem dX10_mostBlack_22 : decode cX10_mostBlack 22 = .ok (.lcmp, 1) := z_dd_148 (by decide +kernel)
theorem dX10_mostBlack_23 : decode cX10_mostBlack 23 = .ok (.ifCond .ne 7, 3) := z_dd_154 (by decide +kernel)
theorem dX10_mostBlack_30 : decode cX10_mostBlack 30 = .ok (.aload_n 0, 1) := z_dd_42 (by decide +kernel)
theorem dX10_mostBlack_31 : decode cX10_mostBlack 31 = .ok (.iload_n 1, 1) := z_dd_27 (by decide +kernel)
theorem dX10_mostBlack_32 : decode cX10_mostBlack 32 = .ok (.iload_n 2, 1) := z_dd_28 (by decide +kernel)
set_option maxRecDepth 20000 in
theorem ggX10_mostBlack_X10_inTogether : GoodIn wsX10_mostBlack wsX10_inTogether := goodIn_sub (fa_c (me_s (me_l (me_l (List.mem_of_getElem? (i := 22) rfl)))) (fa_a (fa_c (me_s (me_l (me_l (List.mem_of_getElem? (i := 23) rfl)))) (fa_c (me_s (me_l (me_r (List.mem_of_getElem? (i := 0) rfl)))) (fa_c (me_s (me_l (me_l (List.mem_of_getElem? (i := 17) rfl)))) (fa_c (me_s (me_l (me_r (List.mem_of_getElem? (i := 1) rfl)))) (fa_c (me_s (me_l (me_l (List.mem_of_getElem? (i := 14) rfl)))) fa_n))))) (fun w h => (me_s (me_r h))))) (by decide +kernel)
set_option maxRecDepth 20000 in
theorem gX10_mostBlack_X10_inTogether : GoodIn wsX10_mostBlack (wsV RX10 64 RX10 yX10_inTogether wsX10_inTogether) := goodIn_app (goodIn_sub (fa_c (me_s (me_l (me_l (List.mem_of_getElem? (i := 19) rfl)))) (fa_c (me_s (me_l (me_l (List.mem_of_getElem? (i := 20) rfl)))) (fa_c (me_s (me_l (me_l (List.mem_of_getElem? (i := 21) rfl)))) (fa_c (me_s (me_l (me_l (List.mem_of_getElem? (i := 7) rfl)))) fa_n)))) (by decide +kernel)) ggX10_mostBlack_X10_inTogether
theorem dX10_mostBlack_33 : decode cX10_mostBlack 33 = .ok (.invokevirtual 64, 3) := z_dd_182 (by decide +kernel)
theorem dX10_mostBlack_36 : decode cX10_mostBlack 36 = .ok (.aload_n 0, 1) := z_dd_42 (by decide +kernel)
theorem dX10_mostBlack_37 : decode cX10_mostBlack 37 = .ok (.getfield 27, 3) := z_dd_180 (by decide +kernel)
theorem dX10_mostBlack_40 : decode cX10_mostBlack 40 = .ok (.iload_n 1, 1) := z_dd_27 (by decide +kernel)
theorem dX10_mostBlack_41 : decode cX10_mostBlack 41 = .ok (.iaload, 1) := z_dd_46 (by decide +kernel)
theorem dX10_mostBlack_42 : decode cX10_mostBlack 42 = .ok (.i2l, 1) := z_dd_133 (by decide +kernel)
theorem dX10_mostBlack_43 : decode cX10_mostBlack 43 = .ok (.ladd, 1) := z_dd_97 (by decide +kernel)
theorem dX10_mostBlack_44 : decode cX10_mostBlack 44 = .ok (.aload_n 0, 1) := z_dd_42 (by decide +kernel)
theorem dX10_mostBlack_45 : decode cX10_mostBlack 45 = .ok (.getfield 24, 3) := z_dd_180 (by decide +kernel)
theorem dX10_mostBlack_48 : decode cX10_mostBlack 48 = .ok (.iload_n 2, 1) := z_dd_28 (by decide +kernel)
theorem dX10_mostBlack_49 : decode cX10_mostBlack 49 = .ok (.iaload, 1) := z_dd_46 (by decide +kernel)
theorem dX10_mostBlack_50 : decode cX10_mostBlack 50 = .ok (.i2l, 1) := z_dd_133 (by decide +kernel)
theorem dX10_mostBlack_51 : decode cX10_mostBlack 51 = .ok (.lsub, 1) := z_dd_101 (by decide +kernel)
theorem dX10_mostBlack_52 : decode cX10_mostBlack 52 = .ok (.lreturn, 1) := z_dd_173 (by decide +kernel)
theorem dX10_mostBlack_26 : decode cX10_mostBlack 26 = .ok (.ldc2_w 62, 3) := z_dd_20 (by decide +kernel)
theorem dX10_mostBlack_29 : decode cX10_mostBlack 29 = .ok (.lreturn, 1) := z_dd_173 (by decide +kernel)
theorem dX10_mostBlack_9 : decode cX10_mostBlack 9 = .ok (.ldc2_w 53, 3) := z_dd_20 (by decide +kernel)
theorem dX10_mostBlack_12 : decode cX10_mostBlack 12 = .ok (.lreturn, 1) := z_dd_173 (by decide +kernel)
theorem dX10_leastBlack_0 : decode cX10_leastBlack 0 = .ok (.aload_n 0, 1) := z_dd_42 (by decide +kernel)
theorem dX10_leastBlack_1 : decode cX10_leastBlack 1 = .ok (.iload_n 1, 1) := z_dd_27 (by decide +kernel)
theorem dX10_leastBlack_2 : decode cX10_leastBlack 2 = .ok (.iload_n 2, 1) := z_dd_28 (by decide +kernel)
set_option maxRecDepth 20000 in
theorem ggX10_leastBlack_X10_hasSpan : GoodIn wsX10_leastBlack wsX10_hasSpan := goodIn_sub (fa_c (me_s (me_l (me_l (List.mem_of_getElem? (i := 12) rfl)))) (fa_a (fa_c (me_s (me_l (me_l (List.mem_of_getElem? (i := 13) rfl)))) fa_n) (fun w h => (me_s (me_r h))))) (by decide +kernel)
set_option maxRecDepth 20000 in
theorem gX10_leastBlack_X10_hasSpan : GoodIn wsX10_leastBlack (wsV RX10 43 RX10 yX10_hasSpan wsX10_hasSpan) := goodIn_app (goodIn_sub (fa_c (me_s (me_l (me_l (List.mem_of_getElem? (i := 8) rfl)))) (fa_c (me_s (me_l (me_l (List.mem_of_getElem? (i := 9) rfl)))) (fa_c (me_s (me_l (me_l (List.mem_of_getElem? (i := 10) rfl)))) (fa_c (me_s (me_l (me_l (List.mem_of_getElem? (i := 11) rfl)))) fa_n)))) (by decide +kernel)) ggX10_leastBlack_X10_hasSpan
theorem dX10_leastBlack_3 : decode cX10_leastBlack 3 = .ok (.invokevirtual 43, 3) := z_dd_182 (by decide +kernel)
theorem dX10_leastBlack_6 : decode cX10_leastBlack 6 = .ok (.ifCond .ne 7, 3) := z_dd_154 (by decide +kernel)
theorem dX10_leastBlack_13 : decode cX10_leastBlack 13 = .ok (.aload_n 0, 1) := z_dd_42 (by decide +kernel)
theorem dX10_leastBlack_14 : decode cX10_leastBlack 14 = .ok (.iload_n 1, 1) := z_dd_27 (by decide +kernel)
theorem dX10_leastBlack_15 : decode cX10_leastBlack 15 = .ok (.iload_n 2, 1) := z_dd_28 (by decide +kernel)
set_option maxRecDepth 20000 in
theorem ggX10_leastBlack_X10_lowestFirst : GoodIn wsX10_leastBlack wsX10_lowestFirst := goodIn_sub (fa_c (me_s (me_l (me_l (List.mem_of_getElem? (i := 17) rfl)))) (fa_a (fa_c (me_s (me_l (me_l (List.mem_of_getElem? (i := 18) rfl)))) (fa_c (me_s (me_l (me_l (List.mem_of_getElem? (i := 3) rfl)))) (fa_c (me_s (me_l (me_l (List.mem_of_getElem? (i := 19) rfl)))) (fa_c (me_s (me_l (me_l (List.mem_of_getElem? (i := 20) rfl)))) (fa_c (me_s (me_l (me_l (List.mem_of_getElem? (i := 6) rfl)))) (fa_c (me_s (me_l (me_l (List.mem_of_getElem? (i := 21) rfl)))) (fa_c (me_s (me_l (me_l (List.mem_of_getElem? (i := 2) rfl)))) (fa_c (me_s (me_l (me_l (List.mem_of_getElem? (i := 0) rfl)))) (fa_c (me_s (me_l (me_l (List.mem_of_getElem? (i := 8) rfl)))) (fa_c (me_s (me_l (me_l (List.mem_of_getElem? (i := 9) rfl)))) (fa_c (me_s (me_l (me_l (List.mem_of_getElem? (i := 10) rfl)))) (fa_c (me_s (me_l (me_l (List.mem_of_getElem? (i := 11) rfl)))) (fa_c (me_s (me_l (me_l (List.mem_of_getElem? (i := 12) rfl)))) (fa_c (me_s (me_l (me_l (List.mem_of_getElem? (i := 13) rfl)))) fa_n)))))))))))))) (fun w h => (me_s (me_r h))))) (by decide +kernel)
set_option maxRecDepth 20000 in
theorem gX10_leastBlack_X10_lowestFirst : GoodIn wsX10_leastBlack (wsV RX10 58 RX10 yX10_lowestFirst wsX10_lowestFirst) := goodIn_app (goodIn_sub (fa_c (me_s (me_l (me_l (List.mem_of_getElem? (i := 14) rfl)))) (fa_c (me_s (me_l (me_l (List.mem_of_getElem? (i := 15) rfl)))) (fa_c (me_s (me_l (me_l (List.mem_of_getElem? (i := 16) rfl)))) (fa_c (me_s (me_l (me_l (List.mem_of_getElem? (i := 11) rfl)))) fa_n)))) (by decide +kernel)) ggX10_leastBlack_X10_lowestFirst
theorem dX10_leastBlack_16 : decode cX10_leastBlack 16 = .ok (.invokevirtual 58, 3) := z_dd_182 (by decide +kernel)
theorem dX10_leastBlack_19 : decode cX10_leastBlack 19 = .ok (.lstore_n 3, 1) := z_dd_66 (by decide +kernel)
theorem dX10_leastBlack_20 : decode cX10_leastBlack 20 = .ok (.lload_n 3, 1) := z_dd_33 (by decide +kernel)
theorem dX10_leastBlack_21 : decode cX10_leastBlack 21 = .ok (.ldc2_w 53, 3) := z_dd_20 (by decide +kernel)
theorem dX10_leastBlack_24 : decode cX10_leastBlack 24 = .ok (.lcmp, 1) := z_dd_148 (by decide +kernel)
theorem dX10_leastBlack_25 : decode cX10_leastBlack 25 = .ok (.ifCond .ne 7, 3) := z_dd_154 (by decide +kernel)
theorem dX10_leastBlack_32 : decode cX10_leastBlack 32 = .ok (.lload_n 3, 1) := z_dd_33 (by decide +kernel)
theorem dX10_leastBlack_33 : decode cX10_leastBlack 33 = .ok (.lstore 5, 2) := z_dd_55 (by decide +kernel)
theorem dX10_leastBlack_35 : decode cX10_leastBlack 35 = .ok (.iload_n 1, 1) := z_dd_27 (by decide +kernel)
theorem dX10_leastBlack_36 : decode cX10_leastBlack 36 = .ok (.iconst 1, 1) := z_dd_4 (by decide +kernel)
theorem dX10_leastBlack_37 : decode cX10_leastBlack 37 = .ok (.iadd, 1) := z_dd_96 (by decide +kernel)
theorem dX10_leastBlack_38 : decode cX10_leastBlack 38 = .ok (.istore 7, 2) := z_dd_54 (by decide +kernel)
theorem dX10_leastBlack_40 : decode cX10_leastBlack 40 = .ok (.iload 7, 2) := z_dd_21 (by decide +kernel)
theorem dX10_leastBlack_42 : decode cX10_leastBlack 42 = .ok (.iload_n 2, 1) := z_dd_28 (by decide +kernel)
theorem dX10_leastBlack_43 : decode cX10_leastBlack 43 = .ok (.if_icmp .gt 42, 3) := z_dd_163 (by decide +kernel)
theorem dX10_leastBlack_85 : decode cX10_leastBlack 85 = .ok (.aload_n 0, 1) := z_dd_42 (by decide +kernel)
theorem dX10_leastBlack_86 : decode cX10_leastBlack 86 = .ok (.iload_n 1, 1) := z_dd_27 (by decide +kernel)
theorem dX10_leastBlack_87 : decode cX10_leastBlack 87 = .ok (.iload_n 2, 1) := z_dd_28 (by decide +kernel)
set_option maxRecDepth 20000 in
theorem ggX10_leastBlack_X10_inTogether : GoodIn wsX10_leastBlack wsX10_inTogether := goodIn_sub (fa_c (me_s (me_l (me_r (List.mem_of_getElem? (i := 1) rfl)))) (fa_a (fa_c (me_s (me_l (me_r (List.mem_of_getElem? (i := 2) rfl)))) (fa_c (me_s (me_l (me_r (List.mem_of_getElem? (i := 3) rfl)))) (fa_c (me_s (me_l (me_l (List.mem_of_getElem? (i := 6) rfl)))) (fa_c (me_s (me_l (me_r (List.mem_of_getElem? (i := 4) rfl)))) (fa_c (me_s (me_l (me_l (List.mem_of_getElem? (i := 3) rfl)))) fa_n))))) (fun w h => (me_s (me_r h))))) (by decide +kernel)
set_option maxRecDepth 20000 in
theorem gX10_leastBlack_X10_inTogether : GoodIn wsX10_leastBlack (wsV RX10 64 RX10 yX10_inTogether wsX10_inTogether) := goodIn_app (goodIn_sub (fa_c (me_s (me_l (me_l (List.mem_of_getElem? (i := 22) rfl)))) (fa_c (me_s (me_l (me_l (List.mem_of_getElem? (i := 23) rfl)))) (fa_c (me_s (me_l (me_r (List.mem_of_getElem? (i := 0) rfl)))) (fa_c (me_s (me_l (me_l (List.mem_of_getElem? (i := 11) rfl)))) fa_n)))) (by decide +kernel)) ggX10_leastBlack_X10_inTogether
theorem dX10_leastBlack_88 : decode cX10_leastBlack 88 = .ok (.invokevirtual 64, 3) := z_dd_182 (by decide +kernel)
theorem dX10_leastBlack_91 : decode cX10_leastBlack 91 = .ok (.lload_n 3, 1) := z_dd_33 (by decide +kernel)
theorem dX10_leastBlack_92 : decode cX10_leastBlack 92 = .ok (.ladd, 1) := z_dd_97 (by decide +kernel)
theorem dX10_leastBlack_93 : decode cX10_leastBlack 93 = .ok (.lload 5, 2) := z_dd_22 (by decide +kernel)
theorem dX10_leastBlack_95 : decode cX10_leastBlack 95 = .ok (.lsub, 1) := z_dd_101 (by decide +kernel)
theorem dX10_leastBlack_96 : decode cX10_leastBlack 96 = .ok (.lreturn, 1) := z_dd_173 (by decide +kernel)
theorem dX10_leastBlack_46 : decode cX10_leastBlack 46 = .ok (.iload 7, 2) := z_dd_21 (by decide +kernel)
theorem dX10_leastBlack_48 : decode cX10_leastBlack 48 = .ok (.bipush 30, 2) := z_dd_16 (by decide +kernel)
theorem dX10_leastBlack_50 : decode cX10_leastBlack 50 = .ok (.if_icmp .ge 35, 3) := z_dd_162 (by decide +kernel)
theorem dX10_leastBlack_53 : decode cX10_leastBlack 53 = .ok (.aload_n 0, 1) := z_dd_42 (by decide +kernel)
theorem dX10_leastBlack_54 : decode cX10_leastBlack 54 = .ok (.getfield 27, 3) := z_dd_180 (by decide +kernel)
theorem dX10_leastBlack_57 : decode cX10_leastBlack 57 = .ok (.iload 7, 2) := z_dd_21 (by decide +kernel)
theorem dX10_leastBlack_59 : decode cX10_leastBlack 59 = .ok (.iaload, 1) := z_dd_46 (by decide +kernel)
theorem dX10_leastBlack_60 : decode cX10_leastBlack 60 = .ok (.i2l, 1) := z_dd_133 (by decide +kernel)
theorem dX10_leastBlack_61 : decode cX10_leastBlack 61 = .ok (.lload 5, 2) := z_dd_22 (by decide +kernel)
theorem dX10_leastBlack_63 : decode cX10_leastBlack 63 = .ok (.aload_n 0, 1) := z_dd_42 (by decide +kernel)
theorem dX10_leastBlack_64 : decode cX10_leastBlack 64 = .ok (.getfield 30, 3) := z_dd_180 (by decide +kernel)
theorem dX10_leastBlack_67 : decode cX10_leastBlack 67 = .ok (.iload 7, 2) := z_dd_21 (by decide +kernel)
theorem dX10_leastBlack_69 : decode cX10_leastBlack 69 = .ok (.iconst 1, 1) := z_dd_4 (by decide +kernel)
theorem dX10_leastBlack_70 : decode cX10_leastBlack 70 = .ok (.isub, 1) := z_dd_100 (by decide +kernel)
theorem dX10_leastBlack_71 : decode cX10_leastBlack 71 = .ok (.iaload, 1) := z_dd_46 (by decide +kernel)
theorem dX10_leastBlack_72 : decode cX10_leastBlack 72 = .ok (.i2l, 1) := z_dd_133 (by decide +kernel)
theorem dX10_leastBlack_73 : decode cX10_leastBlack 73 = .ok (.ladd, 1) := z_dd_97 (by decide +kernel)
theorem dX10_leastBlack_74 : decode cX10_leastBlack 74 = .ok (.invokestatic 67, 3) := z_dd_184 (by decide +kernel)
theorem dX10_leastBlack_77 : decode cX10_leastBlack 77 = .ok (.lstore 5, 2) := z_dd_55 (by decide +kernel)
theorem dX10_leastBlack_79 : decode cX10_leastBlack 79 = .ok (.iinc 7 1, 3) := z_dd_132 (by decide +kernel)
theorem dX10_leastBlack_82 : decode cX10_leastBlack 82 = .ok (.goto (-42), 3) := z_dd_167 (by decide +kernel)
theorem dX10_leastBlack_28 : decode cX10_leastBlack 28 = .ok (.ldc2_w 62, 3) := z_dd_20 (by decide +kernel)
theorem dX10_leastBlack_31 : decode cX10_leastBlack 31 = .ok (.lreturn, 1) := z_dd_173 (by decide +kernel)
theorem dX10_leastBlack_9 : decode cX10_leastBlack 9 = .ok (.ldc2_w 53, 3) := z_dd_20 (by decide +kernel)
theorem dX10_leastBlack_12 : decode cX10_leastBlack 12 = .ok (.lreturn, 1) := z_dd_173 (by decide +kernel)
theorem dX10_blackBy_0 : decode cX10_blackBy 0 = .ok (.aload_n 0, 1) := z_dd_42 (by decide +kernel)
theorem dX10_blackBy_1 : decode cX10_blackBy 1 = .ok (.iload_n 2, 1) := z_dd_28 (by decide +kernel)
theorem dX10_blackBy_2 : decode cX10_blackBy 2 = .ok (.iload_n 3, 1) := z_dd_29 (by decide +kernel)
set_option maxRecDepth 20000 in
theorem ggX10_blackBy_X10_hasSpan : GoodIn wsX10_blackBy wsX10_hasSpan := goodIn_sub (fa_c (me_s (me_l (List.mem_of_getElem? (i := 8) rfl))) (fa_a (fa_c (me_s (me_l (List.mem_of_getElem? (i := 9) rfl))) fa_n) (fun w h => (me_s (me_r h))))) (by decide +kernel)
set_option maxRecDepth 20000 in
theorem gX10_blackBy_X10_hasSpan : GoodIn wsX10_blackBy (wsV RX10 43 RX10 yX10_hasSpan wsX10_hasSpan) := goodIn_app (goodIn_sub (fa_c (me_s (me_l (List.mem_of_getElem? (i := 4) rfl))) (fa_c (me_s (me_l (List.mem_of_getElem? (i := 5) rfl))) (fa_c (me_s (me_l (List.mem_of_getElem? (i := 6) rfl))) (fa_c (me_s (me_l (List.mem_of_getElem? (i := 7) rfl))) fa_n)))) (by decide +kernel)) ggX10_blackBy_X10_hasSpan
theorem dX10_blackBy_3 : decode cX10_blackBy 3 = .ok (.invokevirtual 43, 3) := z_dd_182 (by decide +kernel)
theorem dX10_blackBy_6 : decode cX10_blackBy 6 = .ok (.ifCond .eq 11, 3) := z_dd_153 (by decide +kernel)
theorem dX10_blackBy_9 : decode cX10_blackBy 9 = .ok (.iload_n 3, 1) := z_dd_29 (by decide +kernel)
theorem dX10_blackBy_10 : decode cX10_blackBy 10 = .ok (.iload_n 2, 1) := z_dd_28 (by decide +kernel)
theorem dX10_blackBy_11 : decode cX10_blackBy 11 = .ok (.isub, 1) := z_dd_100 (by decide +kernel)
theorem dX10_blackBy_12 : decode cX10_blackBy 12 = .ok (.aload_n 1, 1) := z_dd_43 (by decide +kernel)
theorem dX10_blackBy_13 : decode cX10_blackBy 13 = .ok (.arraylength, 1) := z_dd_190 (by decide +kernel)
theorem dX10_blackBy_14 : decode cX10_blackBy 14 = .ok (.if_icmp .lt 7, 3) := z_dd_161 (by decide +kernel)
theorem dX10_blackBy_21 : decode cX10_blackBy 21 = .ok (.iload_n 2, 1) := z_dd_28 (by decide +kernel)
theorem dX10_blackBy_22 : decode cX10_blackBy 22 = .ok (.istore 4, 2) := z_dd_54 (by decide +kernel)
theorem dX10_blackBy_24 : decode cX10_blackBy 24 = .ok (.iload 4, 2) := z_dd_21 (by decide +kernel)
theorem dX10_blackBy_26 : decode cX10_blackBy 26 = .ok (.iload_n 3, 1) := z_dd_29 (by decide +kernel)
theorem dX10_blackBy_27 : decode cX10_blackBy 27 = .ok (.if_icmp .gt 95, 3) := z_dd_163 (by decide +kernel)
theorem dX10_blackBy_122 : decode cX10_blackBy 122 = .ok (.aload_n 0, 1) := z_dd_42 (by decide +kernel)
theorem dX10_blackBy_123 : decode cX10_blackBy 123 = .ok (.iload_n 2, 1) := z_dd_28 (by decide +kernel)
theorem dX10_blackBy_124 : decode cX10_blackBy 124 = .ok (.iload_n 3, 1) := z_dd_29 (by decide +kernel)
set_option maxRecDepth 20000 in
theorem ggX10_blackBy_X10_inTogether : GoodIn wsX10_blackBy wsX10_inTogether := goodIn_sub (fa_c (me_s (me_l (List.mem_of_getElem? (i := 13) rfl))) (fa_a (fa_c (me_s (me_l (List.mem_of_getElem? (i := 14) rfl))) (fa_c (me_s (me_l (List.mem_of_getElem? (i := 15) rfl))) (fa_c (me_s (me_l (List.mem_of_getElem? (i := 16) rfl))) (fa_c (me_s (me_l (List.mem_of_getElem? (i := 17) rfl))) (fa_c (me_s (me_l (List.mem_of_getElem? (i := 3) rfl))) fa_n))))) (fun w h => (me_s (me_r h))))) (by decide +kernel)
set_option maxRecDepth 20000 in
theorem gX10_blackBy_X10_inTogether : GoodIn wsX10_blackBy (wsV RX10 64 RX10 yX10_inTogether wsX10_inTogether) := goodIn_app (goodIn_sub (fa_c (me_s (me_l (List.mem_of_getElem? (i := 10) rfl))) (fa_c (me_s (me_l (List.mem_of_getElem? (i := 11) rfl))) (fa_c (me_s (me_l (List.mem_of_getElem? (i := 12) rfl))) (fa_c (me_s (me_l (List.mem_of_getElem? (i := 7) rfl))) fa_n)))) (by decide +kernel)) ggX10_blackBy_X10_inTogether
theorem dX10_blackBy_125 : decode cX10_blackBy 125 = .ok (.invokevirtual 64, 3) := z_dd_182 (by decide +kernel)
theorem dX10_blackBy_128 : decode cX10_blackBy 128 = .ok (.aload_n 1, 1) := z_dd_43 (by decide +kernel)
theorem dX10_blackBy_129 : decode cX10_blackBy 129 = .ok (.iconst 0, 1) := z_dd_3 (by decide +kernel)
theorem dX10_blackBy_130 : decode cX10_blackBy 130 = .ok (.iaload, 1) := z_dd_46 (by decide +kernel)
theorem dX10_blackBy_131 : decode cX10_blackBy 131 = .ok (.i2l, 1) := z_dd_133 (by decide +kernel)
theorem dX10_blackBy_132 : decode cX10_blackBy 132 = .ok (.ladd, 1) := z_dd_97 (by decide +kernel)
theorem dX10_blackBy_133 : decode cX10_blackBy 133 = .ok (.aload_n 1, 1) := z_dd_43 (by decide +kernel)
theorem dX10_blackBy_134 : decode cX10_blackBy 134 = .ok (.iload_n 3, 1) := z_dd_29 (by decide +kernel)
theorem dX10_blackBy_135 : decode cX10_blackBy 135 = .ok (.iload_n 2, 1) := z_dd_28 (by decide +kernel)
theorem dX10_blackBy_136 : decode cX10_blackBy 136 = .ok (.isub, 1) := z_dd_100 (by decide +kernel)
theorem dX10_blackBy_137 : decode cX10_blackBy 137 = .ok (.iaload, 1) := z_dd_46 (by decide +kernel)
theorem dX10_blackBy_138 : decode cX10_blackBy 138 = .ok (.i2l, 1) := z_dd_133 (by decide +kernel)
theorem dX10_blackBy_139 : decode cX10_blackBy 139 = .ok (.lsub, 1) := z_dd_101 (by decide +kernel)
theorem dX10_blackBy_140 : decode cX10_blackBy 140 = .ok (.lreturn, 1) := z_dd_173 (by decide +kernel)
theorem dX10_blackBy_30 : decode cX10_blackBy 30 = .ok (.iload 4, 2) := z_dd_21 (by decide +kernel)
theorem dX10_blackBy_32 : decode cX10_blackBy 32 = .ok (.bipush 30, 2) := z_dd_16 (by decide +kernel)
theorem dX10_blackBy_34 : decode cX10_blackBy 34 = .ok (.if_icmp .ge 88, 3) := z_dd_162 (by decide +kernel)
theorem dX10_blackBy_37 : decode cX10_blackBy 37 = .ok (.aload_n 1, 1) := z_dd_43 (by decide +kernel)
theorem dX10_blackBy_38 : decode cX10_blackBy 38 = .ok (.iload 4, 2) := z_dd_21 (by decide +kernel)
theorem dX10_blackBy_40 : decode cX10_blackBy 40 = .ok (.iload_n 2, 1) := z_dd_28 (by decide +kernel)
theorem dX10_blackBy_41 : decode cX10_blackBy 41 = .ok (.isub, 1) := z_dd_100 (by decide +kernel)
theorem dX10_blackBy_42 : decode cX10_blackBy 42 = .ok (.iaload, 1) := z_dd_46 (by decide +kernel)
theorem dX10_blackBy_43 : decode cX10_blackBy 43 = .ok (.istore 5, 2) := z_dd_54 (by decide +kernel)
theorem dX10_blackBy_45 : decode cX10_blackBy 45 = .ok (.iload 5, 2) := z_dd_21 (by decide +kernel)
theorem dX10_blackBy_47 : decode cX10_blackBy 47 = .ok (.iconst (-1), 1) := z_dd_2 (by decide +kernel)
theorem dX10_blackBy_48 : decode cX10_blackBy 48 = .ok (.if_icmp .eq 27, 3) := z_dd_159 (by decide +kernel)
theorem dX10_blackBy_75 : decode cX10_blackBy 75 = .ok (.ldc2_w 53, 3) := z_dd_20 (by decide +kernel)
theorem dX10_blackBy_78 : decode cX10_blackBy 78 = .ok (.lreturn, 1) := z_dd_173 (by decide +kernel)
theorem dX10_blackBy_51 : decode cX10_blackBy 51 = .ok (.iload 5, 2) := z_dd_21 (by decide +kernel)
theorem dX10_blackBy_53 : decode cX10_blackBy 53 = .ok (.aload_n 0, 1) := z_dd_42 (by decide +kernel)
theorem dX10_blackBy_54 : decode cX10_blackBy 54 = .ok (.getfield 24, 3) := z_dd_180 (by decide +kernel)
theorem dX10_blackBy_57 : decode cX10_blackBy 57 = .ok (.iload 4, 2) := z_dd_21 (by decide +kernel)
theorem dX10_blackBy_59 : decode cX10_blackBy 59 = .ok (.iaload, 1) := z_dd_46 (by decide +kernel)
theorem dX10_blackBy_60 : decode cX10_blackBy 60 = .ok (.if_icmp .lt 15, 3) := z_dd_161 (by decide +kernel)
theorem dX10_blackBy_63 : decode cX10_blackBy 63 = .ok (.iload 5, 2) := z_dd_21 (by decide +kernel)
theorem dX10_blackBy_65 : decode cX10_blackBy 65 = .ok (.aload_n 0, 1) := z_dd_42 (by decide +kernel)
theorem dX10_blackBy_66 : decode cX10_blackBy 66 = .ok (.getfield 27, 3) := z_dd_180 (by decide +kernel)
theorem dX10_blackBy_69 : decode cX10_blackBy 69 = .ok (.iload 4, 2) := z_dd_21 (by decide +kernel)
theorem dX10_blackBy_71 : decode cX10_blackBy 71 = .ok (.iaload, 1) := z_dd_46 (by decide +kernel)
theorem dX10_blackBy_72 : decode cX10_blackBy 72 = .ok (.if_icmp .le 7, 3) := z_dd_164 (by decide +kernel)
theorem dX10_blackBy_79 : decode cX10_blackBy 79 = .ok (.iload 4, 2) := z_dd_21 (by decide +kernel)
theorem dX10_blackBy_81 : decode cX10_blackBy 81 = .ok (.iload_n 2, 1) := z_dd_28 (by decide +kernel)
theorem dX10_blackBy_82 : decode cX10_blackBy 82 = .ok (.if_icmp .le 34, 3) := z_dd_164 (by decide +kernel)
theorem dX10_blackBy_116 : decode cX10_blackBy 116 = .ok (.iinc 4 1, 3) := z_dd_132 (by decide +kernel)
theorem dX10_blackBy_119 : decode cX10_blackBy 119 = .ok (.goto (-95), 3) := z_dd_167 (by decide +kernel)
theorem dX10_blackBy_85 : decode cX10_blackBy 85 = .ok (.aload_n 0, 1) := z_dd_42 (by decide +kernel)
theorem dX10_blackBy_86 : decode cX10_blackBy 86 = .ok (.getfield 30, 3) := z_dd_180 (by decide +kernel)
theorem dX10_blackBy_89 : decode cX10_blackBy 89 = .ok (.iload 4, 2) := z_dd_21 (by decide +kernel)
theorem dX10_blackBy_91 : decode cX10_blackBy 91 = .ok (.iconst 1, 1) := z_dd_4 (by decide +kernel)
theorem dX10_blackBy_92 : decode cX10_blackBy 92 = .ok (.isub, 1) := z_dd_100 (by decide +kernel)
theorem dX10_blackBy_93 : decode cX10_blackBy 93 = .ok (.iaload, 1) := z_dd_46 (by decide +kernel)
theorem dX10_blackBy_94 : decode cX10_blackBy 94 = .ok (.i2l, 1) := z_dd_133 (by decide +kernel)
theorem dX10_blackBy_95 : decode cX10_blackBy 95 = .ok (.aload_n 1, 1) := z_dd_43 (by decide +kernel)
theorem dX10_blackBy_96 : decode cX10_blackBy 96 = .ok (.iload 4, 2) := z_dd_21 (by decide +kernel)
theorem dX10_blackBy_98 : decode cX10_blackBy 98 = .ok (.iload_n 2, 1) := z_dd_28 (by decide +kernel)
theorem dX10_blackBy_99 : decode cX10_blackBy 99 = .ok (.isub, 1) := z_dd_100 (by decide +kernel)
theorem dX10_blackBy_100 : decode cX10_blackBy 100 = .ok (.iconst 1, 1) := z_dd_4 (by decide +kernel)
theorem dX10_blackBy_101 : decode cX10_blackBy 101 = .ok (.isub, 1) := z_dd_100 (by decide +kernel)
theorem dX10_blackBy_102 : decode cX10_blackBy 102 = .ok (.iaload, 1) := z_dd_46 (by decide +kernel)
theorem dX10_blackBy_103 : decode cX10_blackBy 103 = .ok (.i2l, 1) := z_dd_133 (by decide +kernel)
theorem dX10_blackBy_104 : decode cX10_blackBy 104 = .ok (.ladd, 1) := z_dd_97 (by decide +kernel)
theorem dX10_blackBy_105 : decode cX10_blackBy 105 = .ok (.iload 5, 2) := z_dd_21 (by decide +kernel)
theorem dX10_blackBy_107 : decode cX10_blackBy 107 = .ok (.i2l, 1) := z_dd_133 (by decide +kernel)
theorem dX10_blackBy_108 : decode cX10_blackBy 108 = .ok (.lcmp, 1) := z_dd_148 (by decide +kernel)
theorem dX10_blackBy_109 : decode cX10_blackBy 109 = .ok (.ifCond .ge 7, 3) := z_dd_156 (by decide +kernel)
theorem dX10_blackBy_112 : decode cX10_blackBy 112 = .ok (.ldc2_w 53, 3) := z_dd_20 (by decide +kernel)
theorem dX10_blackBy_115 : decode cX10_blackBy 115 = .ok (.lreturn, 1) := z_dd_173 (by decide +kernel)
theorem dX10_blackBy_17 : decode cX10_blackBy 17 = .ok (.ldc2_w 53, 3) := z_dd_20 (by decide +kernel)
theorem dX10_blackBy_20 : decode cX10_blackBy 20 = .ok (.lreturn, 1) := z_dd_173 (by decide +kernel)

noncomputable def L_X10_addDelivery : z_L := [(1000, 999)]
theorem zj_X10_addDelivery_X10 : ∀ w ∈ wsX100, w ∈ wsX10_addDelivery := fun w h => (List.mem_cons_of_mem _ (List.mem_append_right _ h))
set_option maxHeartbeats 8000000 in
set_option maxRecDepth 100000 in
theorem sx_X10_addDelivery (l : Launch) (G : z_G) (ad : Nat → Nat) (c : z_C) (I : z_I) (k : Nat) (a1 : Int32) (hk : k < c.1) (h10 : c.1 ≤ 10) (hS0 : z_iS c I) : z_M l yX10_addDelivery wsX10_addDelivery { frames := 1, cells := 0, slots := 0, locals := 12 } [.ref (ad (100 + 8 * k)), .int a1] G (shC c, ad, I, JX, PC c ad) (fun r u1 => ∃ I1 : z_I, u1 = (shC c, ad, I1, JX, PC c ad) ∧ z_fr L_X10_addDelivery I1 I ∧ z_iS c I1) 0 0 := by
  intro sz
  refine z_headQ (cc := cX10_addDelivery) (maxL := 2) (ret := (some .int)) (by decide) rfl (Nat.le_of_ble_eq_true rfl) ?_
  intro p e s m below meth c0 ls hIn hK hsz hW hl
  obtain ⟨hx, hb, hr, hml, hown, hts, hlocks, hname⟩ := hIn
  subst hsz
  have hown : s.vm.findClass RX10 = some m.cls := hown
  have hA : ∀ q : Nat, s.heap.size ≤ q → z_A (shC c, ad, I, JX, PC c ad) s.heap.size q := fun q h => Or.inr h
  generalize hAe : z_A (shC c, ad, I, JX, PC c ad) s.heap.size = A at *
  have hS : va_S A s.heap s.heap [] := va_S.rf
  have hl : lv_has ls 2 [(0, .ref (ad (100 + 8 * k))), (1, .int a1)] := hl
  refine lv_aload_n hx hb dX10_addDelivery_0 rfl (lv_at hl 0 rfl) ?_
  refine z_get (T := TX10) (N := 10) (ci := 10) (i := (100 + 8 * k)) (v := .int (I (100 + 8 * k) 5)) hx hb hts zj_X10_addDelivery_X10 hown hK hW (z_ss0 hk h10) rfl 5 (by decide) (hts (.fieldLink RX10 33 "PetrolBoard$Station" "deliveries" "I") (me_s (me_l (List.mem_of_getElem? (i := 0) rfl)))) (fun _ h => h) rfl dX10_addDelivery_1 ?_
  refine lv_bipush (v := 30) hx hb dX10_addDelivery_4 (by decide) ?_
  refine lv_icmp_lt (tgt := 11) hx hb dX10_addDelivery_6 (by decide) (fun c1 => ?_) (fun c1 => ?_)
  · have g2 := z_f_lt rfl z_l30 c1
    have b3 := Int32.toInt_lt (I (100 + 8 * k) 5)
    refine lv_aload_n hx hb dX10_addDelivery_11 rfl (lv_at hl 0 rfl) ?_
    refine lv_dup hx hb dX10_addDelivery_12 rfl ?_
    refine z_get (T := TX10) (N := 10) (ci := 10) (i := (100 + 8 * k)) (v := .int (I (100 + 8 * k) 5)) hx hb hts zj_X10_addDelivery_X10 hown hK hW (z_ss0 hk h10) rfl 5 (by decide) (hts (.fieldLink RX10 33 "PetrolBoard$Station" "deliveries" "I") (me_s (me_l (List.mem_of_getElem? (i := 0) rfl)))) (fun _ h => h) rfl dX10_addDelivery_13 ?_
    refine lv_iconst (v := 1) hx hb dX10_addDelivery_16 (by decide) ?_
    refine lv_iadd hx hb dX10_addDelivery_17 ?_
    refine lv_topi (fun x4 ex4 => ?_)
    have tx4 : x4.toInt = (I (100 + 8 * k) 5).toInt + 1 := z_tadd ex4 rfl z_l1 (by have := Int32.le_toInt (I (100 + 8 * k) 5); have := Int32.toInt_lt (I (100 + 8 * k) 5); omega) (by have := Int32.le_toInt (I (100 + 8 * k) 5); have := Int32.toInt_lt (I (100 + 8 * k) 5); omega)
    refine z_put (T := TX10) (N := 10) (ci := 10) (i := (100 + 8 * k)) (v := .int x4) (I1 := z_up I (100 + 8 * k) 5 x4) (J1 := JX) (P1 := PC c ad) hx hb hts zj_X10_addDelivery_X10 tyX10 tyX10_ok nmX10 hown hK hW hS (z_ss0 hk h10) rfl 5 (by decide) (hts (.fieldLink RX10 33 "PetrolBoard$Station" "deliveries" "I") (me_s (me_l (List.mem_of_getElem? (i := 0) rfl)))) (fun _ h => h) rfl rfl rfl (by first | rfl | exact congrArg _ z_up_s) (fun a b h ty => z_vI h ty) dX10_addDelivery_18 (fun H locs hz1 hW hS => ?_)
    obtain ⟨I5, eI5⟩ : ∃ K : z_I, K = z_up I (100 + 8 * k) 5 x4 := ⟨_, rfl⟩
    rw [← eI5] at hW
    have f6 := z_fr_a z_fr_0 (z_wad (L := L_X10_addDelivery) (by decide) (by omega)) eI5
    have hS7 := z_iS_k hS0 (by decide) eI5
    refine lv_aload_n hx hb dX10_addDelivery_21 rfl (lv_at hl 0 rfl) ?_
    refine lv_dup hx hb dX10_addDelivery_22 rfl ?_
    refine z_get (T := TX10) (N := 10) (ci := 10) (i := (100 + 8 * k)) (v := .int (I (100 + 8 * k) 6)) hx hb hts zj_X10_addDelivery_X10 hown hK hW (z_ss0 hk h10) rfl 6 (by decide) (hts (.fieldLink RX10 37 "PetrolBoard$Station" "delivered" "I") (me_s (me_l (List.mem_of_getElem? (i := 1) rfl)))) (fun _ h => h) (congrArg Value.int (by rw [eI5, z_up_k (by decide)])) dX10_addDelivery_23 ?_
    refine lv_iload_n hx hb dX10_addDelivery_26 rfl (lv_at hl 1 rfl) ?_
    refine lv_iadd hx hb dX10_addDelivery_27 ?_
    refine lv_topi (fun x8 ex8 => ?_)
    refine z_put (T := TX10) (N := 10) (ci := 10) (i := (100 + 8 * k)) (v := .int x8) (I1 := z_up I5 (100 + 8 * k) 6 x8) (J1 := JX) (P1 := PC c ad) hx hb hts zj_X10_addDelivery_X10 tyX10 tyX10_ok nmX10 hown hK hW hS (z_ss0 hk h10) rfl 6 (by decide) (hts (.fieldLink RX10 37 "PetrolBoard$Station" "delivered" "I") (me_s (me_l (List.mem_of_getElem? (i := 1) rfl)))) (fun _ h => h) rfl rfl rfl (by first | rfl | exact congrArg _ z_up_s) (fun a b h ty => z_vI h ty) dX10_addDelivery_28 (fun H locs hz1 hW hS => ?_)
    obtain ⟨I9, eI9⟩ : ∃ K : z_I, K = z_up I5 (100 + 8 * k) 6 x8 := ⟨_, rfl⟩
    rw [← eI9] at hW
    have f10 := z_fr_a f6 (z_wad (L := L_X10_addDelivery) (by decide) (by omega)) eI9
    have hS11 := z_iS_k hS7 (by decide) eI9
    refine lv_aload_n hx hb dX10_addDelivery_31 rfl (lv_at hl 0 rfl) ?_
    refine z_get (T := TX10) (N := 10) (ci := 10) (i := (100 + 8 * k)) (v := .int x8) hx hb hts zj_X10_addDelivery_X10 hown hK hW (z_ss0 hk h10) rfl 6 (by decide) (hts (.fieldLink RX10 37 "PetrolBoard$Station" "delivered" "I") (me_s (me_l (List.mem_of_getElem? (i := 1) rfl)))) (fun _ h => h) (congrArg Value.int (by rw [eI9, z_up_s])) dX10_addDelivery_32 ?_
    exact z_iret hx hb hr hK hS (Nat.le_of_ble_eq_true rfl) (Nat.le_of_ble_eq_true rfl) hlocks dX10_addDelivery_35 (shC c, ad, I9, JX, PC c ad) hW ⟨I9, rfl, f10, hS11⟩
  · have g12 := z_f_nlt rfl z_l30 c1
    have b13 := Int32.toInt_lt (I (100 + 8 * k) 5)
    refine lv_iconst (v := (-1)) hx hb dX10_addDelivery_9 (by decide) ?_
    exact z_iret hx hb hr hK hS (Nat.le_of_ble_eq_true rfl) (Nat.le_of_ble_eq_true rfl) hlocks dX10_addDelivery_10 (shC c, ad, I, JX, PC c ad) hW ⟨I, rfl, z_fr_0, hS0⟩
noncomputable def L_X10_addDip : z_L := [(1000, 999)]
theorem zj_X10_addDip_X10 : ∀ w ∈ wsX100, w ∈ wsX10_addDip := fun w h => (List.mem_cons_of_mem _ (List.mem_append_right _ h))
set_option maxHeartbeats 8000000 in
set_option maxRecDepth 100000 in
theorem sx_X10_addDip (l : Launch) (G : z_G) (ad : Nat → Nat) (c : z_C) (I : z_I) (k : Nat) (a1 : Int32) (a2 : Int32) (a3 : Int32) (hk : k < c.1) (h10 : c.1 ≤ 10) (hS0 : z_iS c I) : z_M l yX10_addDip wsX10_addDip { frames := 1, cells := 0, slots := 0, locals := 12 } [.ref (ad (100 + 8 * k)), .int a1, .int a2, .int a3] G (shC c, ad, I, JX, PC c ad) (fun r u1 => ∃ I1 : z_I, u1 = (shC c, ad, I1, JX, PC c ad) ∧ z_fr L_X10_addDip I1 I ∧ z_iS c I1) 0 0 := by
  intro sz
  refine z_headQ (cc := cX10_addDip) (maxL := 4) (ret := (some .int)) (by decide) rfl (Nat.le_of_ble_eq_true rfl) ?_
  intro p e s m below meth c0 ls hIn hK hsz hW hl
  obtain ⟨hx, hb, hr, hml, hown, hts, hlocks, hname⟩ := hIn
  subst hsz
  have hown : s.vm.findClass RX10 = some m.cls := hown
  have hA : ∀ q : Nat, s.heap.size ≤ q → z_A (shC c, ad, I, JX, PC c ad) s.heap.size q := fun q h => Or.inr h
  generalize hAe : z_A (shC c, ad, I, JX, PC c ad) s.heap.size = A at *
  have hS : va_S A s.heap s.heap [] := va_S.rf
  have hl : lv_has ls 4 [(0, .ref (ad (100 + 8 * k))), (1, .int a1), (2, .int a2), (3, .int a3)] := hl
  refine lv_aload_n hx hb dX10_addDip_0 rfl (lv_at hl 0 rfl) ?_
  have r1 : 0 ≤ (I (100 + 8 * k) 4).toInt ∧ (I (100 + 8 * k) 4).toInt ≤ 30 := (hS0 k hk)
  refine z_get (T := TX10) (N := 10) (ci := 10) (i := (100 + 8 * k)) (v := .int (I (100 + 8 * k) 4)) hx hb hts zj_X10_addDip_X10 hown hK hW (z_ss0 hk h10) rfl 4 (by decide) (hts (.fieldLink RX10 40 "PetrolBoard$Station" "dips" "I") (me_s (me_l (List.mem_of_getElem? (i := 0) rfl)))) (fun _ h => h) rfl dX10_addDip_1 ?_
  refine lv_bipush (v := 30) hx hb dX10_addDip_4 (by decide) ?_
  refine lv_icmp_lt (tgt := 11) hx hb dX10_addDip_6 (by decide) (fun c2 => ?_) (fun c2 => ?_)
  · have g3 := z_f_lt rfl z_l30 c2
    refine lv_aload_n hx hb dX10_addDip_11 rfl (lv_at hl 0 rfl) ?_
    refine z_get (T := TX10) (N := 10) (ci := 10) (i := (100 + 8 * k)) (v := .ref (ad (100 + 8 * k + 1))) hx hb hts zj_X10_addDip_X10 hown hK hW (z_ss0 hk h10) rfl 0 (by decide) (hts (.fieldLink RX10 9 "PetrolBoard$Station" "told" "[I") (me_s (me_l (List.mem_of_getElem? (i := 1) rfl)))) (fun _ h => h) (z_pS hk h10 rfl rfl) dX10_addDip_12 ?_
    refine lv_aload_n hx hb dX10_addDip_15 rfl (lv_at hl 0 rfl) ?_
    refine z_get (T := TX10) (N := 10) (ci := 10) (i := (100 + 8 * k)) (v := .int (I (100 + 8 * k) 4)) hx hb hts zj_X10_addDip_X10 hown hK hW (z_ss0 hk h10) rfl 4 (by decide) (hts (.fieldLink RX10 40 "PetrolBoard$Station" "dips" "I") (me_s (me_l (List.mem_of_getElem? (i := 0) rfl)))) (fun _ h => h) rfl dX10_addDip_16 ?_
    refine lv_iload_n hx hb dX10_addDip_19 rfl (lv_at hl 1 rfl) ?_
    refine z_iast (i := (100 + 8 * k + 1)) hx hb hK hW hS (z_ssj hk h10 (by decide)) (z_ix rfl (by omega) (by omega)) dX10_addDip_20 (fun H locs hz1 hW hS => ?_)
    obtain ⟨I4, eI4⟩ : ∃ K : z_I, K = z_up I (100 + 8 * k + 1) (I (100 + 8 * k) 4).toNatClampNeg a1 := ⟨_, rfl⟩
    rw [← eI4] at hW
    have f5 := z_fr_a z_fr_0 (z_wad (L := L_X10_addDip) (by decide) (by omega)) eI4
    have hS6 := z_iS_a hS0 (by decide) eI4
    refine lv_aload_n hx hb dX10_addDip_21 rfl (lv_at hl 0 rfl) ?_
    refine z_get (T := TX10) (N := 10) (ci := 10) (i := (100 + 8 * k)) (v := .ref (ad (100 + 8 * k + 2))) hx hb hts zj_X10_addDip_X10 hown hK hW (z_ss0 hk h10) rfl 1 (by decide) (hts (.fieldLink RX10 15 "PetrolBoard$Station" "dipDay" "[I") (me_s (me_l (List.mem_of_getElem? (i := 2) rfl)))) (fun _ h => h) (z_pS hk h10 rfl rfl) dX10_addDip_22 ?_
    refine lv_aload_n hx hb dX10_addDip_25 rfl (lv_at hl 0 rfl) ?_
    refine z_get (T := TX10) (N := 10) (ci := 10) (i := (100 + 8 * k)) (v := .int (I (100 + 8 * k) 4)) hx hb hts zj_X10_addDip_X10 hown hK hW (z_ss0 hk h10) rfl 4 (by decide) (hts (.fieldLink RX10 40 "PetrolBoard$Station" "dips" "I") (me_s (me_l (List.mem_of_getElem? (i := 0) rfl)))) (fun _ h => h) (congrArg Value.int (by rw [eI4, z_up_n (by omega)])) dX10_addDip_26 ?_
    refine lv_iload_n hx hb dX10_addDip_29 rfl (lv_at hl 2 rfl) ?_
    refine z_iast (i := (100 + 8 * k + 2)) hx hb hK hW hS (z_ssj hk h10 (by decide)) (z_ix rfl (by omega) (by omega)) dX10_addDip_30 (fun H locs hz1 hW hS => ?_)
    obtain ⟨I7, eI7⟩ : ∃ K : z_I, K = z_up I4 (100 + 8 * k + 2) (I (100 + 8 * k) 4).toNatClampNeg a2 := ⟨_, rfl⟩
    rw [← eI7] at hW
    have f8 := z_fr_a f5 (z_wad (L := L_X10_addDip) (by decide) (by omega)) eI7
    have hS9 := z_iS_a hS6 (by decide) eI7
    refine lv_aload_n hx hb dX10_addDip_31 rfl (lv_at hl 0 rfl) ?_
    refine z_get (T := TX10) (N := 10) (ci := 10) (i := (100 + 8 * k)) (v := .ref (ad (100 + 8 * k + 3))) hx hb hts zj_X10_addDip_X10 hown hK hW (z_ss0 hk h10) rfl 2 (by decide) (hts (.fieldLink RX10 18 "PetrolBoard$Station" "deliveredThen" "[I") (me_s (me_l (List.mem_of_getElem? (i := 3) rfl)))) (fun _ h => h) (z_pS hk h10 rfl rfl) dX10_addDip_32 ?_
    refine lv_aload_n hx hb dX10_addDip_35 rfl (lv_at hl 0 rfl) ?_
    refine z_get (T := TX10) (N := 10) (ci := 10) (i := (100 + 8 * k)) (v := .int (I (100 + 8 * k) 4)) hx hb hts zj_X10_addDip_X10 hown hK hW (z_ss0 hk h10) rfl 4 (by decide) (hts (.fieldLink RX10 40 "PetrolBoard$Station" "dips" "I") (me_s (me_l (List.mem_of_getElem? (i := 0) rfl)))) (fun _ h => h) (congrArg Value.int (by rw [eI7, z_up_n (by omega), eI4, z_up_n (by omega)])) dX10_addDip_36 ?_
    refine lv_aload_n hx hb dX10_addDip_39 rfl (lv_at hl 0 rfl) ?_
    refine z_get (T := TX10) (N := 10) (ci := 10) (i := (100 + 8 * k)) (v := .int (I (100 + 8 * k) 6)) hx hb hts zj_X10_addDip_X10 hown hK hW (z_ss0 hk h10) rfl 6 (by decide) (hts (.fieldLink RX10 37 "PetrolBoard$Station" "delivered" "I") (me_s (me_l (List.mem_of_getElem? (i := 4) rfl)))) (fun _ h => h) (congrArg Value.int (by rw [eI7, z_up_n (by omega), eI4, z_up_n (by omega)])) dX10_addDip_40 ?_
    refine z_iast (i := (100 + 8 * k + 3)) hx hb hK hW hS (z_ssj hk h10 (by decide)) (z_ix rfl (by omega) (by omega)) dX10_addDip_43 (fun H locs hz1 hW hS => ?_)
    obtain ⟨I10, eI10⟩ : ∃ K : z_I, K = z_up I7 (100 + 8 * k + 3) (I (100 + 8 * k) 4).toNatClampNeg (I (100 + 8 * k) 6) := ⟨_, rfl⟩
    rw [← eI10] at hW
    have f11 := z_fr_a f8 (z_wad (L := L_X10_addDip) (by decide) (by omega)) eI10
    have hS12 := z_iS_a hS9 (by decide) eI10
    refine lv_aload_n hx hb dX10_addDip_44 rfl (lv_at hl 0 rfl) ?_
    refine z_get (T := TX10) (N := 10) (ci := 10) (i := (100 + 8 * k)) (v := .ref (ad (100 + 8 * k + 4))) hx hb hts zj_X10_addDip_X10 hown hK hW (z_ss0 hk h10) rfl 3 (by decide) (hts (.fieldLink RX10 21 "PetrolBoard$Station" "pouredThen" "[I") (me_s (me_l (List.mem_of_getElem? (i := 5) rfl)))) (fun _ h => h) (z_pS hk h10 rfl rfl) dX10_addDip_45 ?_
    refine lv_aload_n hx hb dX10_addDip_48 rfl (lv_at hl 0 rfl) ?_
    refine z_get (T := TX10) (N := 10) (ci := 10) (i := (100 + 8 * k)) (v := .int (I (100 + 8 * k) 4)) hx hb hts zj_X10_addDip_X10 hown hK hW (z_ss0 hk h10) rfl 4 (by decide) (hts (.fieldLink RX10 40 "PetrolBoard$Station" "dips" "I") (me_s (me_l (List.mem_of_getElem? (i := 0) rfl)))) (fun _ h => h) (congrArg Value.int (by rw [eI10, z_up_n (by omega), eI7, z_up_n (by omega), eI4, z_up_n (by omega)])) dX10_addDip_49 ?_
    refine lv_iload_n hx hb dX10_addDip_52 rfl (lv_at hl 3 rfl) ?_
    refine z_iast (i := (100 + 8 * k + 4)) hx hb hK hW hS (z_ssj hk h10 (by decide)) (z_ix rfl (by omega) (by omega)) dX10_addDip_53 (fun H locs hz1 hW hS => ?_)
    obtain ⟨I13, eI13⟩ : ∃ K : z_I, K = z_up I10 (100 + 8 * k + 4) (I (100 + 8 * k) 4).toNatClampNeg a3 := ⟨_, rfl⟩
    rw [← eI13] at hW
    have f14 := z_fr_a f11 (z_wad (L := L_X10_addDip) (by decide) (by omega)) eI13
    have hS15 := z_iS_a hS12 (by decide) eI13
    refine lv_aload_n hx hb dX10_addDip_54 rfl (lv_at hl 0 rfl) ?_
    refine lv_dup hx hb dX10_addDip_55 rfl ?_
    refine z_get (T := TX10) (N := 10) (ci := 10) (i := (100 + 8 * k)) (v := .int (I (100 + 8 * k) 4)) hx hb hts zj_X10_addDip_X10 hown hK hW (z_ss0 hk h10) rfl 4 (by decide) (hts (.fieldLink RX10 40 "PetrolBoard$Station" "dips" "I") (me_s (me_l (List.mem_of_getElem? (i := 0) rfl)))) (fun _ h => h) (congrArg Value.int (by rw [eI13, z_up_n (by omega), eI10, z_up_n (by omega), eI7, z_up_n (by omega), eI4, z_up_n (by omega)])) dX10_addDip_56 ?_
    refine lv_iconst (v := 1) hx hb dX10_addDip_59 (by decide) ?_
    refine lv_iadd hx hb dX10_addDip_60 ?_
    refine lv_topi (fun x16 ex16 => ?_)
    have tx16 : x16.toInt = (I (100 + 8 * k) 4).toInt + 1 := z_tadd ex16 rfl z_l1 (by omega) (by omega)
    refine z_put (T := TX10) (N := 10) (ci := 10) (i := (100 + 8 * k)) (v := .int x16) (I1 := z_up I13 (100 + 8 * k) 4 x16) (J1 := JX) (P1 := PC c ad) hx hb hts zj_X10_addDip_X10 tyX10 tyX10_ok nmX10 hown hK hW hS (z_ss0 hk h10) rfl 4 (by decide) (hts (.fieldLink RX10 40 "PetrolBoard$Station" "dips" "I") (me_s (me_l (List.mem_of_getElem? (i := 0) rfl)))) (fun _ h => h) rfl rfl rfl (by first | rfl | exact congrArg _ z_up_s) (fun a b h ty => z_vI h ty) dX10_addDip_61 (fun H locs hz1 hW hS => ?_)
    obtain ⟨I17, eI17⟩ : ∃ K : z_I, K = z_up I13 (100 + 8 * k) 4 x16 := ⟨_, rfl⟩
    rw [← eI17] at hW
    have f18 := z_fr_a f14 (z_wad (L := L_X10_addDip) (by decide) (by omega)) eI17
    have hS19 := z_iS_4 hS15 (by omega) eI17
    refine lv_aload_n hx hb dX10_addDip_64 rfl (lv_at hl 0 rfl) ?_
    refine z_get (T := TX10) (N := 10) (ci := 10) (i := (100 + 8 * k)) (v := .int x16) hx hb hts zj_X10_addDip_X10 hown hK hW (z_ss0 hk h10) rfl 4 (by decide) (hts (.fieldLink RX10 40 "PetrolBoard$Station" "dips" "I") (me_s (me_l (List.mem_of_getElem? (i := 0) rfl)))) (fun _ h => h) (congrArg Value.int (by rw [eI17, z_up_s])) dX10_addDip_65 ?_
    refine lv_iconst (v := 1) hx hb dX10_addDip_68 (by decide) ?_
    refine lv_isub hx hb dX10_addDip_69 ?_
    refine lv_topi (fun x20 ex20 => ?_)
    have tx20 : x20.toInt = x16.toInt - 1 := z_tsub ex20 rfl z_l1 (by omega) (by omega)
    exact z_iret hx hb hr hK hS (Nat.le_of_ble_eq_true rfl) (Nat.le_of_ble_eq_true rfl) hlocks dX10_addDip_70 (shC c, ad, I17, JX, PC c ad) hW ⟨I17, rfl, f18, hS19⟩
  · have g21 := z_f_nlt rfl z_l30 c2
    refine lv_iconst (v := (-1)) hx hb dX10_addDip_9 (by decide) ?_
    exact z_iret hx hb hr hK hS (Nat.le_of_ble_eq_true rfl) (Nat.le_of_ble_eq_true rfl) hlocks dX10_addDip_10 (shC c, ad, I, JX, PC c ad) hW ⟨I, rfl, z_fr_0, hS0⟩
theorem zj_X10_hasSpan_X10 : ∀ w ∈ wsX100, w ∈ wsX10_hasSpan := fun w h => (List.mem_cons_of_mem _ (List.mem_append_right _ h))
set_option maxHeartbeats 8000000 in
set_option maxRecDepth 100000 in
theorem sx_X10_hasSpan (l : Launch) (G : z_G) (ad : Nat → Nat) (c : z_C) (I : z_I) (k : Nat) (a1 : Int32) (a2 : Int32) (hk : k < c.1) (h10 : c.1 ≤ 10) (hS0 : z_iS c I) : z_M l yX10_hasSpan wsX10_hasSpan { frames := 1, cells := 0, slots := 0, locals := 12 } [.ref (ad (100 + 8 * k)), .int a1, .int a2] G (shC c, ad, I, JX, PC c ad) (fun r u1 => u1 = (shC c, ad, I, JX, PC c ad) ∧ (r = 1 ∧ 0 ≤ a1.toInt ∧ a1.toInt < a2.toInt ∧ a2.toInt ≤ 29 ∨ r = 0)) 0 0 := by
  intro sz
  refine z_headQ (cc := cX10_hasSpan) (maxL := 3) (ret := (some .boolean)) (by decide) rfl (Nat.le_of_ble_eq_true rfl) ?_
  intro p e s m below meth c0 ls hIn hK hsz hW hl
  obtain ⟨hx, hb, hr, hml, hown, hts, hlocks, hname⟩ := hIn
  subst hsz
  have hown : s.vm.findClass RX10 = some m.cls := hown
  have hA : ∀ q : Nat, s.heap.size ≤ q → z_A (shC c, ad, I, JX, PC c ad) s.heap.size q := fun q h => Or.inr h
  generalize hAe : z_A (shC c, ad, I, JX, PC c ad) s.heap.size = A at *
  have hS : va_S A s.heap s.heap [] := va_S.rf
  have hl : lv_has ls 3 [(0, .ref (ad (100 + 8 * k))), (1, .int a1), (2, .int a2)] := hl
  refine lv_iload_n hx hb dX10_hasSpan_0 rfl (lv_at hl 1 rfl) ?_
  refine lv_if_lt (tgt := 27) hx hb dX10_hasSpan_1 (by decide) (fun c1 => ?_) (fun c1 => ?_)
  · have g2 := z_f_lt rfl z_l0 c1
    have b3 := Int32.toInt_lt a1
    refine lv_iconst (v := 0) hx hb dX10_hasSpan_27 (by decide) ?_
    exact z_zret hx hb hr (by decide) hK hS (Nat.le_of_ble_eq_true rfl) (Nat.le_of_ble_eq_true rfl) hlocks dX10_hasSpan_28 (shC c, ad, I, JX, PC c ad) hW ⟨rfl, Or.inr rfl⟩
  · have g4 := z_f_nlt rfl z_l0 c1
    have b5 := Int32.toInt_lt a1
    refine lv_iload_n hx hb dX10_hasSpan_4 rfl (lv_at hl 1 rfl) ?_
    refine lv_iload_n hx hb dX10_hasSpan_5 rfl (lv_at hl 2 rfl) ?_
    refine lv_icmp_ge (tgt := 27) hx hb dX10_hasSpan_6 (by decide) (fun c6 => ?_) (fun c6 => ?_)
    · have g7 := z_f_ge rfl rfl c6
      have b8 := Int32.toInt_lt a2
      refine lv_iconst (v := 0) hx hb dX10_hasSpan_27 (by decide) ?_
      exact z_zret hx hb hr (by decide) hK hS (Nat.le_of_ble_eq_true rfl) (Nat.le_of_ble_eq_true rfl) hlocks dX10_hasSpan_28 (shC c, ad, I, JX, PC c ad) hW ⟨rfl, Or.inr rfl⟩
    · have g9 := z_f_nge rfl rfl c6
      have b10 := Int32.toInt_lt a2
      refine lv_iload_n hx hb dX10_hasSpan_9 rfl (lv_at hl 2 rfl) ?_
      refine lv_aload_n hx hb dX10_hasSpan_10 rfl (lv_at hl 0 rfl) ?_
      have r11 : 0 ≤ (I (100 + 8 * k) 4).toInt ∧ (I (100 + 8 * k) 4).toInt ≤ 30 := (hS0 k hk)
      refine z_get (T := TX10) (N := 10) (ci := 10) (i := (100 + 8 * k)) (v := .int (I (100 + 8 * k) 4)) hx hb hts zj_X10_hasSpan_X10 hown hK hW (z_ss0 hk h10) rfl 4 (by decide) (hts (.fieldLink RX10 40 "PetrolBoard$Station" "dips" "I") (me_s (me_l (List.mem_of_getElem? (i := 0) rfl)))) (fun _ h => h) rfl dX10_hasSpan_11 ?_
      refine lv_icmp_ge (tgt := 27) hx hb dX10_hasSpan_14 (by decide) (fun c12 => ?_) (fun c12 => ?_)
      · have g13 := z_f_ge rfl rfl c12
        refine lv_iconst (v := 0) hx hb dX10_hasSpan_27 (by decide) ?_
        exact z_zret hx hb hr (by decide) hK hS (Nat.le_of_ble_eq_true rfl) (Nat.le_of_ble_eq_true rfl) hlocks dX10_hasSpan_28 (shC c, ad, I, JX, PC c ad) hW ⟨rfl, Or.inr rfl⟩
      · have g14 := z_f_nge rfl rfl c12
        refine lv_iload_n hx hb dX10_hasSpan_17 rfl (lv_at hl 2 rfl) ?_
        refine lv_bipush (v := 30) hx hb dX10_hasSpan_18 (by decide) ?_
        refine lv_icmp_ge (tgt := 27) hx hb dX10_hasSpan_20 (by decide) (fun c15 => (by have g := z_f_ge rfl z_l30 c15; omega)) (fun c15 => ?_)
        have g16 := z_f_nge rfl z_l30 c15
        refine lv_iconst (v := 1) hx hb dX10_hasSpan_23 (by decide) ?_
        refine lv_goto (tgt := 28) hx hb dX10_hasSpan_24 (by decide) ?_
        exact z_zret hx hb hr (by decide) hK hS (Nat.le_of_ble_eq_true rfl) (Nat.le_of_ble_eq_true rfl) hlocks dX10_hasSpan_28 (shC c, ad, I, JX, PC c ad) hW ⟨rfl, Or.inl ⟨rfl, (by omega), (by omega), (by omega)⟩⟩
theorem zj_X10_inTogether_X10 : ∀ w ∈ wsX100, w ∈ wsX10_inTogether := fun w h => (List.mem_cons_of_mem _ (List.mem_append_right _ h))
set_option maxHeartbeats 8000000 in
set_option maxRecDepth 100000 in
theorem sx_X10_inTogether (l : Launch) (G : z_G) (ad : Nat → Nat) (c : z_C) (I : z_I) (k : Nat) (a1 : Int32) (a2 : Int32) (hk : k < c.1) (h10 : c.1 ≤ 10) (hS0 : z_iS c I) : z_Ml l yX10_inTogether wsX10_inTogether { frames := 1, cells := 0, slots := 0, locals := 40 } [.ref (ad (100 + 8 * k)), .int a1, .int a2] G (shC c, ad, I, JX, PC c ad) (fun r u1 => u1 = (shC c, ad, I, JX, PC c ad)) 0 0 := by
  intro sz
  refine z_headQ (cc := cX10_inTogether) (maxL := 6) (ret := (some .long)) (by decide) rfl (Nat.le_of_ble_eq_true rfl) ?_
  intro p e s m below meth c0 ls hIn hK hsz hW hl
  obtain ⟨hx, hb, hr, hml, hown, hts, hlocks, hname⟩ := hIn
  subst hsz
  have hown : s.vm.findClass RX10 = some m.cls := hown
  have hA : ∀ q : Nat, s.heap.size ≤ q → z_A (shC c, ad, I, JX, PC c ad) s.heap.size q := fun q h => Or.inr h
  generalize hAe : z_A (shC c, ad, I, JX, PC c ad) s.heap.size = A at *
  have hS : va_S A s.heap s.heap [] := va_S.rf
  have hl : lv_has ls 6 [(0, .ref (ad (100 + 8 * k))), (1, .int a1), (2, .int a2)] := hl
  refine lv_lconst (v := 0) hx hb dX10_inTogether_0 (by decide) ?_
  refine lv_lstore_n (lv' := [(3, .long 0), (0, .ref (ad (100 + 8 * k))), (1, .int a1), (2, .int a2)]) hx hb dX10_inTogether_1 rfl hl (by decide) rfl (fun ls hl => ?_)
  refine lv_iload_n hx hb dX10_inTogether_2 rfl (lv_at hl 2 rfl) ?_
  refine lv_iconst (v := 0) hx hb dX10_inTogether_3 (by decide) ?_
  refine va_mmax (x := a1) (y := 0) hx hb (hml.trans hl.1.symm) hown (hts (.methodLink RX10 55 Lib.Math.max.name) (me_s (me_l (List.mem_of_getElem? (i := 0) rfl)))) (hts (.static Lib.Math.max.name) (me_s (me_l (List.mem_of_getElem? (i := 1) rfl)))) (hts (.initialized "java/lang/Math") (me_s (me_l (List.mem_of_getElem? (i := 2) rfl)))) (hts (.code Lib.Math.max.name Lib.Math.max.code 2 (some .int)) (me_s (me_l (List.mem_of_getElem? (i := 3) rfl)))) (Nat.le_of_ble_eq_true rfl) (Nat.le_of_ble_eq_true rfl) (Nat.le_of_ble_eq_true rfl) (Nat.le_of_ble_eq_true rfl) dX10_inTogether_4 ?_
  refine lv_topi (fun x1 ex1 => ?_)
  have tx1 := z_tmmax ex1 rfl z_l0
  refine lv_istore (lv' := [(5, .int x1), (3, .long 0), (0, .ref (ad (100 + 8 * k))), (1, .int a1), (2, .int a2)]) hx hb dX10_inTogether_7 hl (by decide) rfl (fun ls hl => ?_)
  have lp2 : ∀ (f : Nat) (y3 : Int32) (w4 : Int64) (H : Heap) (locs : List Loc) (ls : Array Slot), (2147483647 < y3.toInt + (f : Int)) → (0 ≤ y3.toInt) → (x1.toInt ≤ y3.toInt) → z_W G A (shC c, ad, I, JX, PC c ad) H → va_S A s.heap H locs → lv_has ls 6 [(5, .int y3), (3, .long w4), (0, .ref (ad (100 + 8 * k))), (1, .int a1), (2, .int a2)] → W p l e (headSpec wsX10_inTogether { frames := 1, cells := 0, slots := 0, locals := 40 }).room s m ([.ref (ad (100 + 8 * k)), .int a1, .int a2] : List Value).toArray below meth c0 H locs 0 0 (MQ below (va_Ql (fun (r : Int64) (u1 : z_U) => u1 = (shC c, ad, I, JX, PC c ad)) (z_B G A) A) ([.ref (ad (100 + 8 * k)), .int a1, .int a2] : List Value).toArray s 0 0 A) (F0 m 9 ls []) := by
    intro f
    induction f with
    | zero => intro y3 w4 H locs ls lp2m lp2l5 lp2z hW hS hl; exact absurd lp2m (by have := Int32.toInt_lt y3; have := Int32.le_toInt y3; omega)
    | succ f lp2ih =>
      intro y3 w4 H locs ls lp2m lp2l5 lp2z hW hS hl
      refine lv_iload hx hb dX10_inTogether_9 (lv_at hl 0 rfl) ?_
      refine lv_iload_n hx hb dX10_inTogether_11 rfl (lv_at hl 4 rfl) ?_
      refine lv_icmp_ge (tgt := 39) hx hb dX10_inTogether_12 (by decide) (fun c5 => ?_) (fun c5 => ?_)
      · have g6 := z_f_ge rfl rfl c5
        have b7 := Int32.toInt_lt y3
        have b8 := Int32.toInt_lt a2
        refine lv_lload_n hx hb dX10_inTogether_39 rfl (lv_at hl 1 rfl) ?_
        exact z_lret hx hb hr hK hS (Nat.le_of_ble_eq_true rfl) (Nat.le_of_ble_eq_true rfl) hlocks dX10_inTogether_40 (shC c, ad, I, JX, PC c ad) hW rfl
      · have g9 := z_f_nge rfl rfl c5
        have b10 := Int32.toInt_lt y3
        have b11 := Int32.toInt_lt a2
        refine lv_iload hx hb dX10_inTogether_15 (lv_at hl 0 rfl) ?_
        refine lv_bipush (v := 30) hx hb dX10_inTogether_17 (by decide) ?_
        refine lv_icmp_ge (tgt := 39) hx hb dX10_inTogether_19 (by decide) (fun c12 => ?_) (fun c12 => ?_)
        · have g13 := z_f_ge rfl z_l30 c12
          refine lv_lload_n hx hb dX10_inTogether_39 rfl (lv_at hl 1 rfl) ?_
          exact z_lret hx hb hr hK hS (Nat.le_of_ble_eq_true rfl) (Nat.le_of_ble_eq_true rfl) hlocks dX10_inTogether_40 (shC c, ad, I, JX, PC c ad) hW rfl
        · have g14 := z_f_nge rfl z_l30 c12
          refine lv_lload_n hx hb dX10_inTogether_22 rfl (lv_at hl 1 rfl) ?_
          refine lv_aload_n hx hb dX10_inTogether_23 rfl (lv_at hl 2 rfl) ?_
          refine z_get (T := TX10) (N := 10) (ci := 10) (i := (100 + 8 * k)) (v := .ref (ad (100 + 8 * k + 7))) hx hb hts zj_X10_inTogether_X10 hown hK hW (z_ss0 hk h10) rfl 9 (by decide) (hts (.fieldLink RX10 30 "PetrolBoard$Station" "in" "[I") (me_s (me_l (List.mem_of_getElem? (i := 4) rfl)))) (fun _ h => h) (z_pS hk h10 rfl rfl) dX10_inTogether_24 ?_
          refine lv_iload hx hb dX10_inTogether_27 (lv_at hl 0 rfl) ?_
          refine z_iald (i := (100 + 8 * k + 7)) hx hb hK hW (z_ssj hk h10 (by decide)) (z_ix rfl (by omega) (by omega)) dX10_inTogether_29 ?_
          refine lv_topi (fun x15 ex15 => ?_)
          refine lv_i2l (v := x15.toInt64) hx hb dX10_inTogether_30 rfl ?_
          refine lv_topl (fun w16 ew16 => ?_)
          refine lv_ladd hx hb dX10_inTogether_31 ?_
          refine lv_topl (fun w17 ew17 => ?_)
          refine lv_lstore_n (lv' := [(3, .long w17), (5, .int y3), (0, .ref (ad (100 + 8 * k))), (1, .int a1), (2, .int a2)]) hx hb dX10_inTogether_32 rfl hl (by decide) rfl (fun ls hl => ?_)
          obtain ⟨x18, ex18⟩ : ∃ y : Int32, y = y3 + 1 := ⟨_, rfl⟩
          have tx18 : x18.toInt = y3.toInt + 1 := z_tadd ex18 rfl z_l1 (by omega) (by omega)
          refine lv_iinc (v := x18) (lv' := [(5, .int x18), (3, .long w17), (0, .ref (ad (100 + 8 * k))), (1, .int a1), (2, .int a2)]) hx hb dX10_inTogether_33 hl (k := 1) rfl (by rw [ex18]; rfl) (by decide) rfl (fun ls hl => ?_)
          refine lv_goto (tgt := 9) hx hb dX10_inTogether_36 (by decide) ?_
          exact lp2ih x18 w17 _ _ _ (by omega) (by omega) (by omega) hW hS (lv_sub hl [0, 1, 2, 3, 4] rfl)
  exact lp2 4294967296 x1 0 _ _ _ (z_m0u _) (by omega) (by omega) hW hS (lv_sub hl [0, 1, 2, 3, 4] rfl)
theorem zj_X10_lowestFirst_X10 : ∀ w ∈ wsX100, w ∈ wsX10_lowestFirst := fun w h => (List.mem_cons_of_mem _ (List.mem_append_right _ h))
set_option maxHeartbeats 8000000 in
set_option maxRecDepth 100000 in
theorem sx_X10_lowestFirst (l : Launch) (G : z_G) (ad : Nat → Nat) (c : z_C) (I : z_I) (k : Nat) (a1 : Int32) (a2 : Int32) (hk : k < c.1) (h10 : c.1 ≤ 10) (hS0 : z_iS c I) : z_Ml l yX10_lowestFirst wsX10_lowestFirst { frames := 2, cells := 0, slots := 0, locals := 40 } [.ref (ad (100 + 8 * k)), .int a1, .int a2] G (shC c, ad, I, JX, PC c ad) (fun r u1 => u1 = (shC c, ad, I, JX, PC c ad)) 0 0 := by
  intro sz
  refine z_headQ (cc := cX10_lowestFirst) (maxL := 6) (ret := (some .long)) (by decide) rfl (Nat.le_of_ble_eq_true rfl) ?_
  intro p e s m below meth c0 ls hIn hK hsz hW hl
  obtain ⟨hx, hb, hr, hml, hown, hts, hlocks, hname⟩ := hIn
  subst hsz
  have hown : s.vm.findClass RX10 = some m.cls := hown
  have hA : ∀ q : Nat, s.heap.size ≤ q → z_A (shC c, ad, I, JX, PC c ad) s.heap.size q := fun q h => Or.inr h
  generalize hAe : z_A (shC c, ad, I, JX, PC c ad) s.heap.size = A at *
  have hS : va_S A s.heap s.heap [] := va_S.rf
  have hl : lv_has ls 6 [(0, .ref (ad (100 + 8 * k))), (1, .int a1), (2, .int a2)] := hl
  refine lv_aload_n hx hb dX10_lowestFirst_0 rfl (lv_at hl 0 rfl) ?_
  refine lv_iload_n hx hb dX10_lowestFirst_1 rfl (lv_at hl 1 rfl) ?_
  refine lv_iload_n hx hb dX10_lowestFirst_2 rfl (lv_at hl 2 rfl) ?_
  refine z_ci hW hS hA (va_runV (As := [.int a1, .int a2]) (rest := []) ⟨hx, hb, hml, hown, hts⟩ (sx_X10_hasSpan l G ad c I  k a1 a2 hk h10 hS0 _) (cwV 2 hts gX10_lowestFirst_X10_hasSpan rfl rfl rfl hy_X10_hasSpan ⟨Nat.le_of_ble_eq_true rfl, Nat.le_of_ble_eq_true rfl⟩) (z_preV (i := (100 + 8 * k)) hK hW (z_ss0 hk h10) rfl) rfl rfl hl.1 rfl (lv_room (Nat.le_of_ble_eq_true rfl)) dX10_lowestFirst_3 ⟨Nat.le_of_ble_eq_true rfl, Nat.le_of_ble_eq_true rfl⟩) (fun r u1 H locs hp hW hS => ?_)
  obtain ⟨e9, hp⟩ := hp
  rw [e9] at hW
  rcases hp with ⟨rfl, h1, h2, h3⟩ | rfl
  · refine lv_if_ne (tgt := 11) hx hb dX10_lowestFirst_6 (by decide) (fun c4 => ?_) (fun c4 => absurd c4 (by decide))
    refine lv_aload_n hx hb dX10_lowestFirst_11 rfl (lv_at hl 0 rfl) ?_
    refine z_get (T := TX10) (N := 10) (ci := 10) (i := (100 + 8 * k)) (v := .ref (ad (100 + 8 * k + 5))) hx hb hts zj_X10_lowestFirst_X10 hown hK hW (z_ss0 hk h10) rfl 7 (by decide) (hts (.fieldLink RX10 24 "PetrolBoard$Station" "low" "[I") (me_s (me_l (List.mem_of_getElem? (i := 0) rfl)))) (fun _ h => h) (z_pS hk h10 rfl rfl) dX10_lowestFirst_12 ?_
    refine lv_iload_n hx hb dX10_lowestFirst_15 rfl (lv_at hl 2 rfl) ?_
    refine z_iald (i := (100 + 8 * k + 5)) hx hb hK hW (z_ssj hk h10 (by decide)) (z_ix rfl (by omega) (by omega)) dX10_lowestFirst_16 ?_
    refine lv_topi (fun x5 ex5 => ?_)
    refine lv_i2l (v := x5.toInt64) hx hb dX10_lowestFirst_17 rfl ?_
    refine lv_topl (fun w6 ew6 => ?_)
    refine lv_lstore_n (lv' := [(3, .long w6), (0, .ref (ad (100 + 8 * k))), (1, .int a1), (2, .int a2)]) hx hb dX10_lowestFirst_18 rfl hl (by decide) rfl (fun ls hl => ?_)
    refine lv_iload_n hx hb dX10_lowestFirst_19 rfl (lv_at hl 3 rfl) ?_
    refine lv_iconst (v := 1) hx hb dX10_lowestFirst_20 (by decide) ?_
    refine lv_isub hx hb dX10_lowestFirst_21 ?_
    refine lv_topi (fun x7 ex7 => ?_)
    have tx7 : x7.toInt = a2.toInt - 1 := z_tsub ex7 rfl z_l1 (by omega) (by omega)
    refine lv_istore (lv' := [(5, .int x7), (3, .long w6), (0, .ref (ad (100 + 8 * k))), (1, .int a1), (2, .int a2)]) hx hb dX10_lowestFirst_22 hl (by decide) rfl (fun ls hl => ?_)
    have lp8 : ∀ (f : Nat) (y9 : Int32) (w10 : Int64) (H : Heap) (locs : List Loc) (ls : Array Slot), (y9.toInt + 2147483648 < (f : Int)) → (y9.toInt ≤ 28) → (y9.toInt ≤ x7.toInt) → z_W G A (shC c, ad, I, JX, PC c ad) H → va_S A s.heap H locs → lv_has ls 6 [(5, .int y9), (3, .long w10), (0, .ref (ad (100 + 8 * k))), (1, .int a1), (2, .int a2)] → W p l e (headSpec wsX10_lowestFirst { frames := 2, cells := 0, slots := 0, locals := 40 }).room s m ([.ref (ad (100 + 8 * k)), .int a1, .int a2] : List Value).toArray below meth c0 H locs 0 0 (MQ below (va_Ql (fun (r : Int64) (u1 : z_U) => u1 = (shC c, ad, I, JX, PC c ad)) (z_B G A) A) ([.ref (ad (100 + 8 * k)), .int a1, .int a2] : List Value).toArray s 0 0 A) (F0 m 24 ls []) := by
      intro f
      induction f with
      | zero => intro y9 w10 H locs ls lp8m lp8u5 lp8z hW hS hl; exact absurd lp8m (by have := Int32.toInt_lt y9; have := Int32.le_toInt y9; omega)
      | succ f lp8ih =>
        intro y9 w10 H locs ls lp8m lp8u5 lp8z hW hS hl
        refine lv_iload hx hb dX10_lowestFirst_24 (lv_at hl 0 rfl) ?_
        refine lv_iload_n hx hb dX10_lowestFirst_26 rfl (lv_at hl 3 rfl) ?_
        refine lv_icmp_lt (tgt := 80) hx hb dX10_lowestFirst_27 (by decide) (fun c11 => ?_) (fun c11 => ?_)
        · have g12 := z_f_lt rfl rfl c11
          refine lv_lload_n hx hb dX10_lowestFirst_80 rfl (lv_at hl 1 rfl) ?_
          exact z_lret hx hb hr hK hS (Nat.le_of_ble_eq_true rfl) (Nat.le_of_ble_eq_true rfl) hlocks dX10_lowestFirst_81 (shC c, ad, I, JX, PC c ad) hW rfl
        · have g13 := z_f_nlt rfl rfl c11
          refine lv_iload hx hb dX10_lowestFirst_30 (lv_at hl 0 rfl) ?_
          refine lv_if_lt (tgt := 80) hx hb dX10_lowestFirst_32 (by decide) (fun c14 => (by have g := z_f_lt rfl z_l0 c14; omega)) (fun c14 => ?_)
          have g15 := z_f_nlt rfl z_l0 c14
          refine lv_aload_n hx hb dX10_lowestFirst_35 rfl (lv_at hl 2 rfl) ?_
          refine z_get (T := TX10) (N := 10) (ci := 10) (i := (100 + 8 * k)) (v := .ref (ad (100 + 8 * k + 5))) hx hb hts zj_X10_lowestFirst_X10 hown hK hW (z_ss0 hk h10) rfl 7 (by decide) (hts (.fieldLink RX10 24 "PetrolBoard$Station" "low" "[I") (me_s (me_l (List.mem_of_getElem? (i := 0) rfl)))) (fun _ h => h) (z_pS hk h10 rfl rfl) dX10_lowestFirst_36 ?_
          refine lv_iload hx hb dX10_lowestFirst_39 (lv_at hl 0 rfl) ?_
          refine z_iald (i := (100 + 8 * k + 5)) hx hb hK hW (z_ssj hk h10 (by decide)) (z_ix rfl (by omega) (by omega)) dX10_lowestFirst_41 ?_
          refine lv_topi (fun x16 ex16 => ?_)
          refine lv_i2l (v := x16.toInt64) hx hb dX10_lowestFirst_42 rfl ?_
          refine lv_topl (fun w17 ew17 => ?_)
          refine lv_lload_n hx hb dX10_lowestFirst_43 rfl (lv_at hl 1 rfl) ?_
          refine lv_aload_n hx hb dX10_lowestFirst_44 rfl (lv_at hl 2 rfl) ?_
          refine z_get (T := TX10) (N := 10) (ci := 10) (i := (100 + 8 * k)) (v := .ref (ad (100 + 8 * k + 7))) hx hb hts zj_X10_lowestFirst_X10 hown hK hW (z_ss0 hk h10) rfl 9 (by decide) (hts (.fieldLink RX10 30 "PetrolBoard$Station" "in" "[I") (me_s (me_l (List.mem_of_getElem? (i := 1) rfl)))) (fun _ h => h) (z_pS hk h10 rfl rfl) dX10_lowestFirst_45 ?_
          refine lv_iload hx hb dX10_lowestFirst_48 (lv_at hl 0 rfl) ?_
          refine z_iald (i := (100 + 8 * k + 7)) hx hb hK hW (z_ssj hk h10 (by decide)) (z_ix rfl (by omega) (by omega)) dX10_lowestFirst_50 ?_
          refine lv_topi (fun x18 ex18 => ?_)
          refine lv_i2l (v := x18.toInt64) hx hb dX10_lowestFirst_51 rfl ?_
          refine lv_topl (fun w19 ew19 => ?_)
          refine lv_lsub hx hb dX10_lowestFirst_52 ?_
          refine lv_topl (fun w20 ew20 => ?_)
          refine va_mmax_long (x := w17) (y := w20) hx hb (hml.trans hl.1.symm) hown (hts (.methodLink RX10 47 Lib.MathLoose.max_long.x) (me_s (me_l (List.mem_of_getElem? (i := 2) rfl)))) (hts (.static Lib.MathLoose.max_long.x) (me_s (me_l (List.mem_of_getElem? (i := 3) rfl)))) (hts (.initialized "java/lang/Math") (me_s (me_l (List.mem_of_getElem? (i := 4) rfl)))) (hts (.code Lib.MathLoose.max_long.x Lib.MathLoose.max_long.code 4 (some .long)) (me_s (me_l (List.mem_of_getElem? (i := 5) rfl)))) (Nat.le_of_ble_eq_true rfl) (Nat.le_of_ble_eq_true rfl) (Nat.le_of_ble_eq_true rfl) (Nat.le_of_ble_eq_true rfl) dX10_lowestFirst_53 ?_
          refine lv_topl (fun w21 ew21 => ?_)
          refine lv_lstore_n (lv' := [(3, .long w21), (5, .int y9), (0, .ref (ad (100 + 8 * k))), (1, .int a1), (2, .int a2)]) hx hb dX10_lowestFirst_56 rfl hl (by decide) rfl (fun ls hl => ?_)
          refine lv_lload_n hx hb dX10_lowestFirst_57 rfl (lv_at hl 0 rfl) ?_
          refine lv_aload_n hx hb dX10_lowestFirst_58 rfl (lv_at hl 2 rfl) ?_
          refine z_get (T := TX10) (N := 10) (ci := 10) (i := (100 + 8 * k)) (v := .ref (ad (100 + 8 * k + 6))) hx hb hts zj_X10_lowestFirst_X10 hown hK hW (z_ss0 hk h10) rfl 8 (by decide) (hts (.fieldLink RX10 27 "PetrolBoard$Station" "high" "[I") (me_s (me_l (List.mem_of_getElem? (i := 6) rfl)))) (fun _ h => h) (z_pS hk h10 rfl rfl) dX10_lowestFirst_59 ?_
          refine lv_iload hx hb dX10_lowestFirst_62 (lv_at hl 1 rfl) ?_
          refine z_iald (i := (100 + 8 * k + 6)) hx hb hK hW (z_ssj hk h10 (by decide)) (z_ix rfl (by omega) (by omega)) dX10_lowestFirst_64 ?_
          refine lv_topi (fun x22 ex22 => ?_)
          refine lv_i2l (v := x22.toInt64) hx hb dX10_lowestFirst_65 rfl ?_
          refine lv_topl (fun w23 ew23 => ?_)
          refine W.lcmp hx hb dX10_lowestFirst_66 ?_
          refine lv_topi (fun x24 ex24 => ?_)
          have tx24 := z_tcmp ex24
          refine lv_if_le (tgt := 74) hx hb dX10_lowestFirst_67 (by decide) (fun c25 => ?_) (fun c25 => ?_)
          · have g26 := z_f_le rfl z_l0 c25
            obtain ⟨x27, ex27⟩ : ∃ y : Int32, y = y9 + (-1) := ⟨_, rfl⟩
            have tx27 : x27.toInt = y9.toInt + (-1) := z_tadd ex27 rfl z_lm1 (by omega) (by omega)
            refine lv_iinc (v := x27) (lv' := [(5, .int x27), (3, .long w21), (0, .ref (ad (100 + 8 * k))), (1, .int a1), (2, .int a2)]) hx hb dX10_lowestFirst_74 hl (k := 1) rfl (by rw [ex27]; rfl) (by decide) rfl (fun ls hl => ?_)
            refine lv_goto (tgt := 24) hx hb dX10_lowestFirst_77 (by decide) ?_
            exact lp8ih x27 w21 _ _ _ (by omega) (by omega) (by omega) hW hS (lv_sub hl [0, 1, 2, 3, 4] rfl)
          · have g28 := z_f_nle rfl z_l0 c25
            refine lv_ldc2 (v := (-1)) hx hb hown (hts (.constantLong RX10 53 (-1)) (me_s (me_l (List.mem_of_getElem? (i := 7) rfl)))) dX10_lowestFirst_70 ?_
            exact z_lret hx hb hr hK hS (Nat.le_of_ble_eq_true rfl) (Nat.le_of_ble_eq_true rfl) hlocks dX10_lowestFirst_73 (shC c, ad, I, JX, PC c ad) hW rfl
    exact lp8 4294967296 x7 w6 _ _ _ (z_m0d _) (by omega) (by omega) hW hS (lv_sub hl [0, 1, 2, 3, 4] rfl)
  · refine lv_if_ne (tgt := 11) hx hb dX10_lowestFirst_6 (by decide) (fun c29 => absurd (by decide) c29) (fun c29 => ?_)
    refine lv_lconst (v := 0) hx hb dX10_lowestFirst_9 (by decide) ?_
    exact z_lret hx hb hr hK hS (Nat.le_of_ble_eq_true rfl) (Nat.le_of_ble_eq_true rfl) hlocks dX10_lowestFirst_10 (shC c, ad, I, JX, PC c ad) hW rfl
theorem zj_X10_mostBlack_X10 : ∀ w ∈ wsX100, w ∈ wsX10_mostBlack := fun w h => (List.mem_cons_of_mem _ (List.mem_append_right _ h))
set_option maxHeartbeats 8000000 in
set_option maxRecDepth 100000 in
theorem sx_X10_mostBlack (l : Launch) (G : z_G) (ad : Nat → Nat) (c : z_C) (I : z_I) (k : Nat) (a1 : Int32) (a2 : Int32) (hk : k < c.1) (h10 : c.1 ≤ 10) (hS0 : z_iS c I) : z_Ml l yX10_mostBlack wsX10_mostBlack { frames := 3, cells := 0, slots := 0, locals := 65 } [.ref (ad (100 + 8 * k)), .int a1, .int a2] G (shC c, ad, I, JX, PC c ad) (fun r u1 => u1 = (shC c, ad, I, JX, PC c ad)) 0 0 := by
  intro sz
  refine z_headQ (cc := cX10_mostBlack) (maxL := 3) (ret := (some .long)) (by decide) rfl (Nat.le_of_ble_eq_true rfl) ?_
  intro p e s m below meth c0 ls hIn hK hsz hW hl
  obtain ⟨hx, hb, hr, hml, hown, hts, hlocks, hname⟩ := hIn
  subst hsz
  have hown : s.vm.findClass RX10 = some m.cls := hown
  have hA : ∀ q : Nat, s.heap.size ≤ q → z_A (shC c, ad, I, JX, PC c ad) s.heap.size q := fun q h => Or.inr h
  generalize hAe : z_A (shC c, ad, I, JX, PC c ad) s.heap.size = A at *
  have hS : va_S A s.heap s.heap [] := va_S.rf
  have hl : lv_has ls 3 [(0, .ref (ad (100 + 8 * k))), (1, .int a1), (2, .int a2)] := hl
  refine lv_aload_n hx hb dX10_mostBlack_0 rfl (lv_at hl 0 rfl) ?_
  refine lv_iload_n hx hb dX10_mostBlack_1 rfl (lv_at hl 1 rfl) ?_
  refine lv_iload_n hx hb dX10_mostBlack_2 rfl (lv_at hl 2 rfl) ?_
  refine z_ci hW hS hA (va_runV (As := [.int a1, .int a2]) (rest := []) ⟨hx, hb, hml, hown, hts⟩ (sx_X10_hasSpan l G ad c I  k a1 a2 hk h10 hS0 _) (cwV 2 hts gX10_mostBlack_X10_hasSpan rfl rfl rfl hy_X10_hasSpan ⟨Nat.le_of_ble_eq_true rfl, Nat.le_of_ble_eq_true rfl⟩) (z_preV (i := (100 + 8 * k)) hK hW (z_ss0 hk h10) rfl) rfl rfl hl.1 rfl (lv_room (Nat.le_of_ble_eq_true rfl)) dX10_mostBlack_3 ⟨Nat.le_of_ble_eq_true rfl, Nat.le_of_ble_eq_true rfl⟩) (fun r u1 H locs hp hW hS => ?_)
  obtain ⟨e9, hp⟩ := hp
  rw [e9] at hW
  rcases hp with ⟨rfl, h1, h2, h3⟩ | rfl
  · refine lv_if_ne (tgt := 13) hx hb dX10_mostBlack_6 (by decide) (fun c4 => ?_) (fun c4 => absurd c4 (by decide))
    refine lv_aload_n hx hb dX10_mostBlack_13 rfl (lv_at hl 0 rfl) ?_
    refine lv_iload_n hx hb dX10_mostBlack_14 rfl (lv_at hl 1 rfl) ?_
    refine lv_iload_n hx hb dX10_mostBlack_15 rfl (lv_at hl 2 rfl) ?_
    refine z_cl hW hS hA (va_runV (As := [.int a1, .int a2]) (rest := []) ⟨hx, hb, hml, hown, hts⟩ (sx_X10_lowestFirst l G ad c I  k a1 a2 hk h10 hS0 _) (cwV 2 hts gX10_mostBlack_X10_lowestFirst rfl rfl rfl hy_X10_lowestFirst ⟨Nat.le_of_ble_eq_true rfl, Nat.le_of_ble_eq_true rfl⟩) (z_preV (i := (100 + 8 * k)) hK hW (z_ss0 hk h10) rfl) rfl rfl hl.1 rfl (lv_room (Nat.le_of_ble_eq_true rfl)) dX10_mostBlack_16 ⟨Nat.le_of_ble_eq_true rfl, Nat.le_of_ble_eq_true rfl⟩) (fun r u1 H locs hp hW hS => ?_)
    rw [hp] at hW
    refine lv_topl (fun x5 ex5 => ?_)
    refine lv_ldc2 (v := (-1)) hx hb hown (hts (.constantLong RX10 53 (-1)) (me_s (me_l (me_l (List.mem_of_getElem? (i := 0) rfl))))) dX10_mostBlack_19 ?_
    refine W.lcmp hx hb dX10_mostBlack_22 ?_
    refine lv_topi (fun x6 ex6 => ?_)
    have tx6 := z_tcmp ex6
    refine lv_if_ne (tgt := 30) hx hb dX10_mostBlack_23 (by decide) (fun c7 => ?_) (fun c7 => ?_)
    · have g8 := z_f_ne rfl z_l0 c7
      refine lv_aload_n hx hb dX10_mostBlack_30 rfl (lv_at hl 0 rfl) ?_
      refine lv_iload_n hx hb dX10_mostBlack_31 rfl (lv_at hl 1 rfl) ?_
      refine lv_iload_n hx hb dX10_mostBlack_32 rfl (lv_at hl 2 rfl) ?_
      refine z_cl hW hS hA (va_runV (As := [.int a1, .int a2]) (rest := []) ⟨hx, hb, hml, hown, hts⟩ (sx_X10_inTogether l G ad c I  k a1 a2 hk h10 hS0 _) (cwV 2 hts gX10_mostBlack_X10_inTogether rfl rfl rfl hy_X10_inTogether ⟨Nat.le_of_ble_eq_true rfl, Nat.le_of_ble_eq_true rfl⟩) (z_preV (i := (100 + 8 * k)) hK hW (z_ss0 hk h10) rfl) rfl rfl hl.1 rfl (lv_room (Nat.le_of_ble_eq_true rfl)) dX10_mostBlack_33 ⟨Nat.le_of_ble_eq_true rfl, Nat.le_of_ble_eq_true rfl⟩) (fun r u1 H locs hp hW hS => ?_)
      rw [hp] at hW
      refine lv_topl (fun x9 ex9 => ?_)
      refine lv_aload_n hx hb dX10_mostBlack_36 rfl (lv_at hl 0 rfl) ?_
      refine z_get (T := TX10) (N := 10) (ci := 10) (i := (100 + 8 * k)) (v := .ref (ad (100 + 8 * k + 6))) hx hb hts zj_X10_mostBlack_X10 hown hK hW (z_ss0 hk h10) rfl 8 (by decide) (hts (.fieldLink RX10 27 "PetrolBoard$Station" "high" "[I") (me_s (me_l (me_l (List.mem_of_getElem? (i := 2) rfl))))) (fun _ h => h) (z_pS hk h10 rfl rfl) dX10_mostBlack_37 ?_
      refine lv_iload_n hx hb dX10_mostBlack_40 rfl (lv_at hl 1 rfl) ?_
      refine z_iald (i := (100 + 8 * k + 6)) hx hb hK hW (z_ssj hk h10 (by decide)) (z_ix rfl (by omega) (by omega)) dX10_mostBlack_41 ?_
      refine lv_topi (fun x10 ex10 => ?_)
      refine lv_i2l (v := x10.toInt64) hx hb dX10_mostBlack_42 rfl ?_
      refine lv_topl (fun w11 ew11 => ?_)
      refine lv_ladd hx hb dX10_mostBlack_43 ?_
      refine lv_topl (fun w12 ew12 => ?_)
      refine lv_aload_n hx hb dX10_mostBlack_44 rfl (lv_at hl 0 rfl) ?_
      refine z_get (T := TX10) (N := 10) (ci := 10) (i := (100 + 8 * k)) (v := .ref (ad (100 + 8 * k + 5))) hx hb hts zj_X10_mostBlack_X10 hown hK hW (z_ss0 hk h10) rfl 7 (by decide) (hts (.fieldLink RX10 24 "PetrolBoard$Station" "low" "[I") (me_s (me_l (me_l (List.mem_of_getElem? (i := 3) rfl))))) (fun _ h => h) (z_pS hk h10 rfl rfl) dX10_mostBlack_45 ?_
      refine lv_iload_n hx hb dX10_mostBlack_48 rfl (lv_at hl 2 rfl) ?_
      refine z_iald (i := (100 + 8 * k + 5)) hx hb hK hW (z_ssj hk h10 (by decide)) (z_ix rfl (by omega) (by omega)) dX10_mostBlack_49 ?_
      refine lv_topi (fun x13 ex13 => ?_)
      refine lv_i2l (v := x13.toInt64) hx hb dX10_mostBlack_50 rfl ?_
      refine lv_topl (fun w14 ew14 => ?_)
      refine lv_lsub hx hb dX10_mostBlack_51 ?_
      refine lv_topl (fun w15 ew15 => ?_)
      exact z_lret hx hb hr hK hS (Nat.le_of_ble_eq_true rfl) (Nat.le_of_ble_eq_true rfl) hlocks dX10_mostBlack_52 (shC c, ad, I, JX, PC c ad) hW rfl
    · have g16 := z_f_eq rfl z_l0 c7
      refine lv_ldc2 (v := (-3)) hx hb hown (hts (.constantLong RX10 62 (-3)) (me_s (me_l (me_l (List.mem_of_getElem? (i := 1) rfl))))) dX10_mostBlack_26 ?_
      exact z_lret hx hb hr hK hS (Nat.le_of_ble_eq_true rfl) (Nat.le_of_ble_eq_true rfl) hlocks dX10_mostBlack_29 (shC c, ad, I, JX, PC c ad) hW rfl
  · refine lv_if_ne (tgt := 13) hx hb dX10_mostBlack_6 (by decide) (fun c17 => absurd (by decide) c17) (fun c17 => ?_)
    refine lv_ldc2 (v := (-1)) hx hb hown (hts (.constantLong RX10 53 (-1)) (me_s (me_l (me_l (List.mem_of_getElem? (i := 0) rfl))))) dX10_mostBlack_9 ?_
    exact z_lret hx hb hr hK hS (Nat.le_of_ble_eq_true rfl) (Nat.le_of_ble_eq_true rfl) hlocks dX10_mostBlack_12 (shC c, ad, I, JX, PC c ad) hW rfl
theorem zj_X10_leastBlack_X10 : ∀ w ∈ wsX100, w ∈ wsX10_leastBlack := fun w h => (List.mem_cons_of_mem _ (List.mem_append_right _ h))
set_option maxHeartbeats 8000000 in
set_option maxRecDepth 100000 in
theorem sx_X10_leastBlack (l : Launch) (G : z_G) (ad : Nat → Nat) (c : z_C) (I : z_I) (k : Nat) (a1 : Int32) (a2 : Int32) (hk : k < c.1) (h10 : c.1 ≤ 10) (hS0 : z_iS c I) : z_Ml l yX10_leastBlack wsX10_leastBlack { frames := 3, cells := 0, slots := 0, locals := 65 } [.ref (ad (100 + 8 * k)), .int a1, .int a2] G (shC c, ad, I, JX, PC c ad) (fun r u1 => u1 = (shC c, ad, I, JX, PC c ad)) 0 0 := by
  intro sz
  refine z_headQ (cc := cX10_leastBlack) (maxL := 8) (ret := (some .long)) (by decide) rfl (Nat.le_of_ble_eq_true rfl) ?_
  intro p e s m below meth c0 ls hIn hK hsz hW hl
  obtain ⟨hx, hb, hr, hml, hown, hts, hlocks, hname⟩ := hIn
  subst hsz
  have hown : s.vm.findClass RX10 = some m.cls := hown
  have hA : ∀ q : Nat, s.heap.size ≤ q → z_A (shC c, ad, I, JX, PC c ad) s.heap.size q := fun q h => Or.inr h
  generalize hAe : z_A (shC c, ad, I, JX, PC c ad) s.heap.size = A at *
  have hS : va_S A s.heap s.heap [] := va_S.rf
  have hl : lv_has ls 8 [(0, .ref (ad (100 + 8 * k))), (1, .int a1), (2, .int a2)] := hl
  refine lv_aload_n hx hb dX10_leastBlack_0 rfl (lv_at hl 0 rfl) ?_
  refine lv_iload_n hx hb dX10_leastBlack_1 rfl (lv_at hl 1 rfl) ?_
  refine lv_iload_n hx hb dX10_leastBlack_2 rfl (lv_at hl 2 rfl) ?_
  refine z_ci hW hS hA (va_runV (As := [.int a1, .int a2]) (rest := []) ⟨hx, hb, hml, hown, hts⟩ (sx_X10_hasSpan l G ad c I  k a1 a2 hk h10 hS0 _) (cwV 2 hts gX10_leastBlack_X10_hasSpan rfl rfl rfl hy_X10_hasSpan ⟨Nat.le_of_ble_eq_true rfl, Nat.le_of_ble_eq_true rfl⟩) (z_preV (i := (100 + 8 * k)) hK hW (z_ss0 hk h10) rfl) rfl rfl hl.1 rfl (lv_room (Nat.le_of_ble_eq_true rfl)) dX10_leastBlack_3 ⟨Nat.le_of_ble_eq_true rfl, Nat.le_of_ble_eq_true rfl⟩) (fun r u1 H locs hp hW hS => ?_)
  obtain ⟨e9, hp⟩ := hp
  rw [e9] at hW
  rcases hp with ⟨rfl, h1, h2, h3⟩ | rfl
  · refine lv_if_ne (tgt := 13) hx hb dX10_leastBlack_6 (by decide) (fun c4 => ?_) (fun c4 => absurd c4 (by decide))
    refine lv_aload_n hx hb dX10_leastBlack_13 rfl (lv_at hl 0 rfl) ?_
    refine lv_iload_n hx hb dX10_leastBlack_14 rfl (lv_at hl 1 rfl) ?_
    refine lv_iload_n hx hb dX10_leastBlack_15 rfl (lv_at hl 2 rfl) ?_
    refine z_cl hW hS hA (va_runV (As := [.int a1, .int a2]) (rest := []) ⟨hx, hb, hml, hown, hts⟩ (sx_X10_lowestFirst l G ad c I  k a1 a2 hk h10 hS0 _) (cwV 2 hts gX10_leastBlack_X10_lowestFirst rfl rfl rfl hy_X10_lowestFirst ⟨Nat.le_of_ble_eq_true rfl, Nat.le_of_ble_eq_true rfl⟩) (z_preV (i := (100 + 8 * k)) hK hW (z_ss0 hk h10) rfl) rfl rfl hl.1 rfl (lv_room (Nat.le_of_ble_eq_true rfl)) dX10_leastBlack_16 ⟨Nat.le_of_ble_eq_true rfl, Nat.le_of_ble_eq_true rfl⟩) (fun r u1 H locs hp hW hS => ?_)
    rw [hp] at hW
    refine lv_topl (fun x5 ex5 => ?_)
    refine lv_lstore_n (lv' := [(3, .long x5), (0, .ref (ad (100 + 8 * k))), (1, .int a1), (2, .int a2)]) hx hb dX10_leastBlack_19 rfl hl (by decide) rfl (fun ls hl => ?_)
    refine lv_lload_n hx hb dX10_leastBlack_20 rfl (lv_at hl 0 rfl) ?_
    refine lv_ldc2 (v := (-1)) hx hb hown (hts (.constantLong RX10 53 (-1)) (me_s (me_l (me_l (List.mem_of_getElem? (i := 0) rfl))))) dX10_leastBlack_21 ?_
    refine W.lcmp hx hb dX10_leastBlack_24 ?_
    refine lv_topi (fun x6 ex6 => ?_)
    have tx6 := z_tcmp ex6
    refine lv_if_ne (tgt := 32) hx hb dX10_leastBlack_25 (by decide) (fun c7 => ?_) (fun c7 => ?_)
    · have g8 := z_f_ne rfl z_l0 c7
      refine lv_lload_n hx hb dX10_leastBlack_32 rfl (lv_at hl 0 rfl) ?_
      refine lv_lstore (lv' := [(5, .long x5), (3, .long x5), (0, .ref (ad (100 + 8 * k))), (1, .int a1), (2, .int a2)]) hx hb dX10_leastBlack_33 hl (by decide) rfl (fun ls hl => ?_)
      refine lv_iload_n hx hb dX10_leastBlack_35 rfl (lv_at hl 3 rfl) ?_
      refine lv_iconst (v := 1) hx hb dX10_leastBlack_36 (by decide) ?_
      refine lv_iadd hx hb dX10_leastBlack_37 ?_
      refine lv_topi (fun x9 ex9 => ?_)
      have tx9 : x9.toInt = a1.toInt + 1 := z_tadd ex9 rfl z_l1 (by omega) (by omega)
      refine lv_istore (lv' := [(7, .int x9), (5, .long x5), (3, .long x5), (0, .ref (ad (100 + 8 * k))), (1, .int a1), (2, .int a2)]) hx hb dX10_leastBlack_38 hl (by decide) rfl (fun ls hl => ?_)
      have lp10 : ∀ (f : Nat) (y11 : Int32) (w12 : Int64) (H : Heap) (locs : List Loc) (ls : Array Slot), (2147483647 < y11.toInt + (f : Int)) → (1 ≤ y11.toInt) → (x9.toInt ≤ y11.toInt) → z_W G A (shC c, ad, I, JX, PC c ad) H → va_S A s.heap H locs → lv_has ls 8 [(7, .int y11), (5, .long w12), (3, .long x5), (0, .ref (ad (100 + 8 * k))), (1, .int a1), (2, .int a2)] → W p l e (headSpec wsX10_leastBlack { frames := 3, cells := 0, slots := 0, locals := 65 }).room s m ([.ref (ad (100 + 8 * k)), .int a1, .int a2] : List Value).toArray below meth c0 H locs 0 0 (MQ below (va_Ql (fun (r : Int64) (u1 : z_U) => u1 = (shC c, ad, I, JX, PC c ad)) (z_B G A) A) ([.ref (ad (100 + 8 * k)), .int a1, .int a2] : List Value).toArray s 0 0 A) (F0 m 40 ls []) := by
        intro f
        induction f with
        | zero => intro y11 w12 H locs ls lp10m lp10l7 lp10z hW hS hl; exact absurd lp10m (by have := Int32.toInt_lt y11; have := Int32.le_toInt y11; omega)
        | succ f lp10ih =>
          intro y11 w12 H locs ls lp10m lp10l7 lp10z hW hS hl
          refine lv_iload hx hb dX10_leastBlack_40 (lv_at hl 0 rfl) ?_
          refine lv_iload_n hx hb dX10_leastBlack_42 rfl (lv_at hl 5 rfl) ?_
          refine lv_icmp_gt (tgt := 85) hx hb dX10_leastBlack_43 (by decide) (fun c13 => ?_) (fun c13 => ?_)
          · have g14 := z_f_gt rfl rfl c13
            have b15 := Int32.toInt_lt y11
            refine lv_aload_n hx hb dX10_leastBlack_85 rfl (lv_at hl 3 rfl) ?_
            refine lv_iload_n hx hb dX10_leastBlack_86 rfl (lv_at hl 4 rfl) ?_
            refine lv_iload_n hx hb dX10_leastBlack_87 rfl (lv_at hl 5 rfl) ?_
            refine z_cl hW hS hA (va_runV (As := [.int a1, .int a2]) (rest := []) ⟨hx, hb, hml, hown, hts⟩ (sx_X10_inTogether l G ad c I  k a1 a2 hk h10 hS0 _) (cwV 2 hts gX10_leastBlack_X10_inTogether rfl rfl rfl hy_X10_inTogether ⟨Nat.le_of_ble_eq_true rfl, Nat.le_of_ble_eq_true rfl⟩) (z_preV (i := (100 + 8 * k)) hK hW (z_ss0 hk h10) rfl) rfl rfl hl.1 rfl (lv_room (Nat.le_of_ble_eq_true rfl)) dX10_leastBlack_88 ⟨Nat.le_of_ble_eq_true rfl, Nat.le_of_ble_eq_true rfl⟩) (fun r u1 H locs hp hW hS => ?_)
            rw [hp] at hW
            refine lv_topl (fun x16 ex16 => ?_)
            refine lv_lload_n hx hb dX10_leastBlack_91 rfl (lv_at hl 2 rfl) ?_
            refine lv_ladd hx hb dX10_leastBlack_92 ?_
            refine lv_topl (fun w17 ew17 => ?_)
            refine lv_lload hx hb dX10_leastBlack_93 (lv_at hl 1 rfl) ?_
            refine lv_lsub hx hb dX10_leastBlack_95 ?_
            refine lv_topl (fun w18 ew18 => ?_)
            exact z_lret hx hb hr hK hS (Nat.le_of_ble_eq_true rfl) (Nat.le_of_ble_eq_true rfl) hlocks dX10_leastBlack_96 (shC c, ad, I, JX, PC c ad) hW rfl
          · have g19 := z_f_ngt rfl rfl c13
            have b20 := Int32.toInt_lt y11
            refine lv_iload hx hb dX10_leastBlack_46 (lv_at hl 0 rfl) ?_
            refine lv_bipush (v := 30) hx hb dX10_leastBlack_48 (by decide) ?_
            refine lv_icmp_ge (tgt := 85) hx hb dX10_leastBlack_50 (by decide) (fun c21 => (by have g := z_f_ge rfl z_l30 c21; omega)) (fun c21 => ?_)
            have g22 := z_f_nge rfl z_l30 c21
            refine lv_aload_n hx hb dX10_leastBlack_53 rfl (lv_at hl 3 rfl) ?_
            refine z_get (T := TX10) (N := 10) (ci := 10) (i := (100 + 8 * k)) (v := .ref (ad (100 + 8 * k + 6))) hx hb hts zj_X10_leastBlack_X10 hown hK hW (z_ss0 hk h10) rfl 8 (by decide) (hts (.fieldLink RX10 27 "PetrolBoard$Station" "high" "[I") (me_s (me_l (me_l (List.mem_of_getElem? (i := 2) rfl))))) (fun _ h => h) (z_pS hk h10 rfl rfl) dX10_leastBlack_54 ?_
            refine lv_iload hx hb dX10_leastBlack_57 (lv_at hl 0 rfl) ?_
            refine z_iald (i := (100 + 8 * k + 6)) hx hb hK hW (z_ssj hk h10 (by decide)) (z_ix rfl (by omega) (by omega)) dX10_leastBlack_59 ?_
            refine lv_topi (fun x23 ex23 => ?_)
            refine lv_i2l (v := x23.toInt64) hx hb dX10_leastBlack_60 rfl ?_
            refine lv_topl (fun w24 ew24 => ?_)
            refine lv_lload hx hb dX10_leastBlack_61 (lv_at hl 1 rfl) ?_
            refine lv_aload_n hx hb dX10_leastBlack_63 rfl (lv_at hl 3 rfl) ?_
            refine z_get (T := TX10) (N := 10) (ci := 10) (i := (100 + 8 * k)) (v := .ref (ad (100 + 8 * k + 7))) hx hb hts zj_X10_leastBlack_X10 hown hK hW (z_ss0 hk h10) rfl 9 (by decide) (hts (.fieldLink RX10 30 "PetrolBoard$Station" "in" "[I") (me_s (me_l (me_l (List.mem_of_getElem? (i := 3) rfl))))) (fun _ h => h) (z_pS hk h10 rfl rfl) dX10_leastBlack_64 ?_
            refine lv_iload hx hb dX10_leastBlack_67 (lv_at hl 0 rfl) ?_
            refine lv_iconst (v := 1) hx hb dX10_leastBlack_69 (by decide) ?_
            refine lv_isub hx hb dX10_leastBlack_70 ?_
            refine lv_topi (fun x25 ex25 => ?_)
            have tx25 : x25.toInt = y11.toInt - 1 := z_tsub ex25 rfl z_l1 (by omega) (by omega)
            refine z_iald (i := (100 + 8 * k + 7)) hx hb hK hW (z_ssj hk h10 (by decide)) (z_ix rfl (by omega) (by omega)) dX10_leastBlack_71 ?_
            refine lv_topi (fun x26 ex26 => ?_)
            refine lv_i2l (v := x26.toInt64) hx hb dX10_leastBlack_72 rfl ?_
            refine lv_topl (fun w27 ew27 => ?_)
            refine lv_ladd hx hb dX10_leastBlack_73 ?_
            refine lv_topl (fun w28 ew28 => ?_)
            refine va_mmin_long (x := w24) (y := w28) hx hb (hml.trans hl.1.symm) hown (hts (.methodLink RX10 67 Lib.MathLoose.min_long.x) (me_s (me_l (me_l (List.mem_of_getElem? (i := 4) rfl))))) (hts (.static Lib.MathLoose.min_long.x) (me_s (me_l (me_l (List.mem_of_getElem? (i := 5) rfl))))) (hts (.initialized "java/lang/Math") (me_s (me_l (me_l (List.mem_of_getElem? (i := 6) rfl))))) (hts (.code Lib.MathLoose.min_long.x Lib.MathLoose.min_long.code 4 (some .long)) (me_s (me_l (me_l (List.mem_of_getElem? (i := 7) rfl))))) (Nat.le_of_ble_eq_true rfl) (Nat.le_of_ble_eq_true rfl) (Nat.le_of_ble_eq_true rfl) (Nat.le_of_ble_eq_true rfl) dX10_leastBlack_74 ?_
            refine lv_topl (fun w29 ew29 => ?_)
            refine lv_lstore (lv' := [(5, .long w29), (7, .int y11), (3, .long x5), (0, .ref (ad (100 + 8 * k))), (1, .int a1), (2, .int a2)]) hx hb dX10_leastBlack_77 hl (by decide) rfl (fun ls hl => ?_)
            obtain ⟨x30, ex30⟩ : ∃ y : Int32, y = y11 + 1 := ⟨_, rfl⟩
            have tx30 : x30.toInt = y11.toInt + 1 := z_tadd ex30 rfl z_l1 (by omega) (by omega)
            refine lv_iinc (v := x30) (lv' := [(7, .int x30), (5, .long w29), (3, .long x5), (0, .ref (ad (100 + 8 * k))), (1, .int a1), (2, .int a2)]) hx hb dX10_leastBlack_79 hl (k := 1) rfl (by rw [ex30]; rfl) (by decide) rfl (fun ls hl => ?_)
            refine lv_goto (tgt := 40) hx hb dX10_leastBlack_82 (by decide) ?_
            exact lp10ih x30 w29 _ _ _ (by omega) (by omega) (by omega) hW hS (lv_sub hl [0, 1, 2, 3, 4, 5] rfl)
      exact lp10 4294967296 x9 x5 _ _ _ (z_m0u _) (by omega) (by omega) hW hS (lv_sub hl [0, 1, 2, 3, 4, 5] rfl)
    · have g31 := z_f_eq rfl z_l0 c7
      refine lv_ldc2 (v := (-3)) hx hb hown (hts (.constantLong RX10 62 (-3)) (me_s (me_l (me_l (List.mem_of_getElem? (i := 1) rfl))))) dX10_leastBlack_28 ?_
      exact z_lret hx hb hr hK hS (Nat.le_of_ble_eq_true rfl) (Nat.le_of_ble_eq_true rfl) hlocks dX10_leastBlack_31 (shC c, ad, I, JX, PC c ad) hW rfl
  · refine lv_if_ne (tgt := 13) hx hb dX10_leastBlack_6 (by decide) (fun c32 => absurd (by decide) c32) (fun c32 => ?_)
    refine lv_ldc2 (v := (-1)) hx hb hown (hts (.constantLong RX10 53 (-1)) (me_s (me_l (me_l (List.mem_of_getElem? (i := 0) rfl))))) dX10_leastBlack_9 ?_
    exact z_lret hx hb hr hK hS (Nat.le_of_ble_eq_true rfl) (Nat.le_of_ble_eq_true rfl) hlocks dX10_leastBlack_12 (shC c, ad, I, JX, PC c ad) hW rfl
theorem zj_X10_blackBy_X10 : ∀ w ∈ wsX100, w ∈ wsX10_blackBy := fun w h => (List.mem_cons_of_mem _ (List.mem_append_right _ h))
set_option maxHeartbeats 8000000 in
set_option maxRecDepth 100000 in
theorem sx_X10_blackBy (l : Launch) (G : z_G) (ad : Nat → Nat) (c : z_C) (I : z_I) (k : Nat) (a2 : Int32) (a3 : Int32) (hk : k < c.1) (h10 : c.1 ≤ 10) (hS0 : z_iS c I) : z_Ml l yX10_blackBy wsX10_blackBy { frames := 2, cells := 0, slots := 0, locals := 65 } [.ref (ad (100 + 8 * k)), .ref (ad 40), .int a2, .int a3] G (shC c, ad, I, JX, PC c ad) (fun r u1 => u1 = (shC c, ad, I, JX, PC c ad)) 0 0 := by
  intro sz
  refine z_headQ (cc := cX10_blackBy) (maxL := 6) (ret := (some .long)) (by decide) rfl (Nat.le_of_ble_eq_true rfl) ?_
  intro p e s m below meth c0 ls hIn hK hsz hW hl
  obtain ⟨hx, hb, hr, hml, hown, hts, hlocks, hname⟩ := hIn
  subst hsz
  have hown : s.vm.findClass RX10 = some m.cls := hown
  have hA : ∀ q : Nat, s.heap.size ≤ q → z_A (shC c, ad, I, JX, PC c ad) s.heap.size q := fun q h => Or.inr h
  generalize hAe : z_A (shC c, ad, I, JX, PC c ad) s.heap.size = A at *
  have hS : va_S A s.heap s.heap [] := va_S.rf
  have hl : lv_has ls 6 [(0, .ref (ad (100 + 8 * k))), (1, .ref (ad 40)), (2, .int a2), (3, .int a3)] := hl
  refine lv_aload_n hx hb dX10_blackBy_0 rfl (lv_at hl 0 rfl) ?_
  refine lv_iload_n hx hb dX10_blackBy_1 rfl (lv_at hl 2 rfl) ?_
  refine lv_iload_n hx hb dX10_blackBy_2 rfl (lv_at hl 3 rfl) ?_
  refine z_ci hW hS hA (va_runV (As := [.int a2, .int a3]) (rest := []) ⟨hx, hb, hml, hown, hts⟩ (sx_X10_hasSpan l G ad c I  k a2 a3 hk h10 hS0 _) (cwV 2 hts gX10_blackBy_X10_hasSpan rfl rfl rfl hy_X10_hasSpan ⟨Nat.le_of_ble_eq_true rfl, Nat.le_of_ble_eq_true rfl⟩) (z_preV (i := (100 + 8 * k)) hK hW (z_ss0 hk h10) rfl) rfl rfl hl.1 rfl (lv_room (Nat.le_of_ble_eq_true rfl)) dX10_blackBy_3 ⟨Nat.le_of_ble_eq_true rfl, Nat.le_of_ble_eq_true rfl⟩) (fun r u1 H locs hp hW hS => ?_)
  obtain ⟨e9, hp⟩ := hp
  rw [e9] at hW
  rcases hp with ⟨rfl, h1, h2, h3⟩ | rfl
  · refine lv_if_eq (tgt := 17) hx hb dX10_blackBy_6 (by decide) (fun c4 => absurd c4 (by decide)) (fun c4 => ?_)
    refine lv_iload_n hx hb dX10_blackBy_9 rfl (lv_at hl 3 rfl) ?_
    refine lv_iload_n hx hb dX10_blackBy_10 rfl (lv_at hl 2 rfl) ?_
    refine lv_isub hx hb dX10_blackBy_11 ?_
    refine lv_topi (fun x5 ex5 => ?_)
    have tx5 : x5.toInt = a3.toInt - a2.toInt := z_tsub ex5 rfl rfl (by omega) (by omega)
    refine lv_aload_n hx hb dX10_blackBy_12 rfl (lv_at hl 1 rfl) ?_
    refine z_alen (i := 40) (v := 30) hx hb hK hW rfl (by simp [z_tys]) (by rfl) dX10_blackBy_13 ?_
    refine lv_icmp_lt (tgt := 21) hx hb dX10_blackBy_14 (by decide) (fun c6 => ?_) (fun c6 => (by have g := z_f_nlt rfl z_l30 c6; omega))
    have g7 := z_f_lt rfl z_l30 c6
    refine lv_iload_n hx hb dX10_blackBy_21 rfl (lv_at hl 2 rfl) ?_
    refine lv_istore (lv' := [(4, .int a2), (0, .ref (ad (100 + 8 * k))), (1, .ref (ad 40)), (2, .int a2), (3, .int a3)]) hx hb dX10_blackBy_22 hl (by decide) rfl (fun ls hl => ?_)
    have lp8 : ∀ (f : Nat) (y9 : Int32) (H : Heap) (locs : List Loc) (ls : Array Slot), (2147483647 < y9.toInt + (f : Int)) → (0 ≤ y9.toInt) → (a2.toInt ≤ y9.toInt) → z_W G A (shC c, ad, I, JX, PC c ad) H → va_S A s.heap H locs → lv_has ls 6 [(4, .int y9), (0, .ref (ad (100 + 8 * k))), (1, .ref (ad 40)), (2, .int a2), (3, .int a3)] → W p l e (headSpec wsX10_blackBy { frames := 2, cells := 0, slots := 0, locals := 65 }).room s m ([.ref (ad (100 + 8 * k)), .ref (ad 40), .int a2, .int a3] : List Value).toArray below meth c0 H locs 0 0 (MQ below (va_Ql (fun (r : Int64) (u1 : z_U) => u1 = (shC c, ad, I, JX, PC c ad)) (z_B G A) A) ([.ref (ad (100 + 8 * k)), .ref (ad 40), .int a2, .int a3] : List Value).toArray s 0 0 A) (F0 m 24 ls []) := by
      intro f
      induction f with
      | zero => intro y9 H locs ls lp8m lp8l4 lp8z hW hS hl; exact absurd lp8m (by have := Int32.toInt_lt y9; have := Int32.le_toInt y9; omega)
      | succ f lp8ih =>
        intro y9 H locs ls lp8m lp8l4 lp8z hW hS hl
        refine lv_iload hx hb dX10_blackBy_24 (lv_at hl 0 rfl) ?_
        refine lv_iload_n hx hb dX10_blackBy_26 rfl (lv_at hl 4 rfl) ?_
        refine lv_icmp_gt (tgt := 122) hx hb dX10_blackBy_27 (by decide) (fun c10 => ?_) (fun c10 => ?_)
        · have g11 := z_f_gt rfl rfl c10
          have b12 := Int32.toInt_lt y9
          refine lv_aload_n hx hb dX10_blackBy_122 rfl (lv_at hl 1 rfl) ?_
          refine lv_iload_n hx hb dX10_blackBy_123 rfl (lv_at hl 3 rfl) ?_
          refine lv_iload_n hx hb dX10_blackBy_124 rfl (lv_at hl 4 rfl) ?_
          refine z_cl hW hS hA (va_runV (As := [.int a2, .int a3]) (rest := []) ⟨hx, hb, hml, hown, hts⟩ (sx_X10_inTogether l G ad c I  k a2 a3 hk h10 hS0 _) (cwV 2 hts gX10_blackBy_X10_inTogether rfl rfl rfl hy_X10_inTogether ⟨Nat.le_of_ble_eq_true rfl, Nat.le_of_ble_eq_true rfl⟩) (z_preV (i := (100 + 8 * k)) hK hW (z_ss0 hk h10) rfl) rfl rfl hl.1 rfl (lv_room (Nat.le_of_ble_eq_true rfl)) dX10_blackBy_125 ⟨Nat.le_of_ble_eq_true rfl, Nat.le_of_ble_eq_true rfl⟩) (fun r u1 H locs hp hW hS => ?_)
          rw [hp] at hW
          refine lv_topl (fun x13 ex13 => ?_)
          refine lv_aload_n hx hb dX10_blackBy_128 rfl (lv_at hl 2 rfl) ?_
          refine lv_iconst (v := 0) hx hb dX10_blackBy_129 (by decide) ?_
          refine z_iald (i := 40) hx hb hK hW rfl (z_inl (by decide)) dX10_blackBy_130 ?_
          refine lv_topi (fun x14 ex14 => ?_)
          refine lv_i2l (v := x14.toInt64) hx hb dX10_blackBy_131 rfl ?_
          refine lv_topl (fun w15 ew15 => ?_)
          refine lv_ladd hx hb dX10_blackBy_132 ?_
          refine lv_topl (fun w16 ew16 => ?_)
          refine lv_aload_n hx hb dX10_blackBy_133 rfl (lv_at hl 2 rfl) ?_
          refine lv_iload_n hx hb dX10_blackBy_134 rfl (lv_at hl 4 rfl) ?_
          refine lv_iload_n hx hb dX10_blackBy_135 rfl (lv_at hl 3 rfl) ?_
          refine lv_isub hx hb dX10_blackBy_136 ?_
          refine lv_topi (fun x17 ex17 => ?_)
          have tx17 : x17.toInt = a3.toInt - a2.toInt := z_tsub ex17 rfl rfl (by omega) (by omega)
          refine z_iald (i := 40) hx hb hK hW rfl (z_ix rfl (by omega) (by omega)) dX10_blackBy_137 ?_
          refine lv_topi (fun x18 ex18 => ?_)
          refine lv_i2l (v := x18.toInt64) hx hb dX10_blackBy_138 rfl ?_
          refine lv_topl (fun w19 ew19 => ?_)
          refine lv_lsub hx hb dX10_blackBy_139 ?_
          refine lv_topl (fun w20 ew20 => ?_)
          exact z_lret hx hb hr hK hS (Nat.le_of_ble_eq_true rfl) (Nat.le_of_ble_eq_true rfl) hlocks dX10_blackBy_140 (shC c, ad, I, JX, PC c ad) hW rfl
        · have g21 := z_f_ngt rfl rfl c10
          have b22 := Int32.toInt_lt y9
          refine lv_iload hx hb dX10_blackBy_30 (lv_at hl 0 rfl) ?_
          refine lv_bipush (v := 30) hx hb dX10_blackBy_32 (by decide) ?_
          refine lv_icmp_ge (tgt := 122) hx hb dX10_blackBy_34 (by decide) (fun c23 => (by have g := z_f_ge rfl z_l30 c23; omega)) (fun c23 => ?_)
          have g24 := z_f_nge rfl z_l30 c23
          refine lv_aload_n hx hb dX10_blackBy_37 rfl (lv_at hl 2 rfl) ?_
          refine lv_iload hx hb dX10_blackBy_38 (lv_at hl 0 rfl) ?_
          refine lv_iload_n hx hb dX10_blackBy_40 rfl (lv_at hl 3 rfl) ?_
          refine lv_isub hx hb dX10_blackBy_41 ?_
          refine lv_topi (fun x25 ex25 => ?_)
          have tx25 : x25.toInt = y9.toInt - a2.toInt := z_tsub ex25 rfl rfl (by omega) (by omega)
          refine z_iald (i := 40) hx hb hK hW rfl (z_ix rfl (by omega) (by omega)) dX10_blackBy_42 ?_
          refine lv_topi (fun x26 ex26 => ?_)
          refine lv_istore (lv' := [(5, .int x26), (4, .int y9), (0, .ref (ad (100 + 8 * k))), (1, .ref (ad 40)), (2, .int a2), (3, .int a3)]) hx hb dX10_blackBy_43 hl (by decide) rfl (fun ls hl => ?_)
          refine lv_iload hx hb dX10_blackBy_45 (lv_at hl 0 rfl) ?_
          refine lv_iconst (v := (-1)) hx hb dX10_blackBy_47 (by decide) ?_
          refine lv_icmp_eq (tgt := 75) hx hb dX10_blackBy_48 (by decide) (fun c27 => ?_) (fun c27 => ?_)
          · have g28 := z_f_eq rfl z_lm1 c27
            have b29 := Int32.toInt_lt x26
            refine lv_ldc2 (v := (-1)) hx hb hown (hts (.constantLong RX10 53 (-1)) (me_s (me_l (List.mem_of_getElem? (i := 0) rfl)))) dX10_blackBy_75 ?_
            exact z_lret hx hb hr hK hS (Nat.le_of_ble_eq_true rfl) (Nat.le_of_ble_eq_true rfl) hlocks dX10_blackBy_78 (shC c, ad, I, JX, PC c ad) hW rfl
          · have g30 := z_f_ne rfl z_lm1 c27
            have b31 := Int32.toInt_lt x26
            refine lv_iload hx hb dX10_blackBy_51 (lv_at hl 0 rfl) ?_
            refine lv_aload_n hx hb dX10_blackBy_53 rfl (lv_at hl 2 rfl) ?_
            refine z_get (T := TX10) (N := 10) (ci := 10) (i := (100 + 8 * k)) (v := .ref (ad (100 + 8 * k + 5))) hx hb hts zj_X10_blackBy_X10 hown hK hW (z_ss0 hk h10) rfl 7 (by decide) (hts (.fieldLink RX10 24 "PetrolBoard$Station" "low" "[I") (me_s (me_l (List.mem_of_getElem? (i := 1) rfl)))) (fun _ h => h) (z_pS hk h10 rfl rfl) dX10_blackBy_54 ?_
            refine lv_iload hx hb dX10_blackBy_57 (lv_at hl 1 rfl) ?_
            refine z_iald (i := (100 + 8 * k + 5)) hx hb hK hW (z_ssj hk h10 (by decide)) (z_ix rfl (by omega) (by omega)) dX10_blackBy_59 ?_
            refine lv_topi (fun x32 ex32 => ?_)
            refine lv_icmp_lt (tgt := 75) hx hb dX10_blackBy_60 (by decide) (fun c33 => ?_) (fun c33 => ?_)
            · have g34 := z_f_lt rfl rfl c33
              have b35 := Int32.toInt_lt x32
              refine lv_ldc2 (v := (-1)) hx hb hown (hts (.constantLong RX10 53 (-1)) (me_s (me_l (List.mem_of_getElem? (i := 0) rfl)))) dX10_blackBy_75 ?_
              exact z_lret hx hb hr hK hS (Nat.le_of_ble_eq_true rfl) (Nat.le_of_ble_eq_true rfl) hlocks dX10_blackBy_78 (shC c, ad, I, JX, PC c ad) hW rfl
            · have g36 := z_f_nlt rfl rfl c33
              have b37 := Int32.toInt_lt x32
              refine lv_iload hx hb dX10_blackBy_63 (lv_at hl 0 rfl) ?_
              refine lv_aload_n hx hb dX10_blackBy_65 rfl (lv_at hl 2 rfl) ?_
              refine z_get (T := TX10) (N := 10) (ci := 10) (i := (100 + 8 * k)) (v := .ref (ad (100 + 8 * k + 6))) hx hb hts zj_X10_blackBy_X10 hown hK hW (z_ss0 hk h10) rfl 8 (by decide) (hts (.fieldLink RX10 27 "PetrolBoard$Station" "high" "[I") (me_s (me_l (List.mem_of_getElem? (i := 2) rfl)))) (fun _ h => h) (z_pS hk h10 rfl rfl) dX10_blackBy_66 ?_
              refine lv_iload hx hb dX10_blackBy_69 (lv_at hl 1 rfl) ?_
              refine z_iald (i := (100 + 8 * k + 6)) hx hb hK hW (z_ssj hk h10 (by decide)) (z_ix rfl (by omega) (by omega)) dX10_blackBy_71 ?_
              refine lv_topi (fun x38 ex38 => ?_)
              refine lv_icmp_le (tgt := 79) hx hb dX10_blackBy_72 (by decide) (fun c39 => ?_) (fun c39 => ?_)
              · have g40 := z_f_le rfl rfl c39
                have b41 := Int32.toInt_lt x38
                refine lv_iload hx hb dX10_blackBy_79 (lv_at hl 1 rfl) ?_
                refine lv_iload_n hx hb dX10_blackBy_81 rfl (lv_at hl 4 rfl) ?_
                refine lv_icmp_le (tgt := 116) hx hb dX10_blackBy_82 (by decide) (fun c42 => ?_) (fun c42 => ?_)
                · have g43 := z_f_le rfl rfl c42
                  obtain ⟨x44, ex44⟩ : ∃ y : Int32, y = y9 + 1 := ⟨_, rfl⟩
                  have tx44 : x44.toInt = y9.toInt + 1 := z_tadd ex44 rfl z_l1 (by omega) (by omega)
                  refine lv_iinc (v := x44) (lv' := [(4, .int x44), (5, .int x26), (0, .ref (ad (100 + 8 * k))), (1, .ref (ad 40)), (2, .int a2), (3, .int a3)]) hx hb dX10_blackBy_116 hl (k := 1) rfl (by rw [ex44]; rfl) (by decide) rfl (fun ls hl => ?_)
                  refine lv_goto (tgt := 24) hx hb dX10_blackBy_119 (by decide) ?_
                  exact lp8ih x44 _ _ _ (by omega) (by omega) (by omega) hW hS (lv_sub hl [0, 2, 3, 4, 5] rfl)
                · have g45 := z_f_nle rfl rfl c42
                  refine lv_aload_n hx hb dX10_blackBy_85 rfl (lv_at hl 2 rfl) ?_
                  refine z_get (T := TX10) (N := 10) (ci := 10) (i := (100 + 8 * k)) (v := .ref (ad (100 + 8 * k + 7))) hx hb hts zj_X10_blackBy_X10 hown hK hW (z_ss0 hk h10) rfl 9 (by decide) (hts (.fieldLink RX10 30 "PetrolBoard$Station" "in" "[I") (me_s (me_l (List.mem_of_getElem? (i := 3) rfl)))) (fun _ h => h) (z_pS hk h10 rfl rfl) dX10_blackBy_86 ?_
                  refine lv_iload hx hb dX10_blackBy_89 (lv_at hl 1 rfl) ?_
                  refine lv_iconst (v := 1) hx hb dX10_blackBy_91 (by decide) ?_
                  refine lv_isub hx hb dX10_blackBy_92 ?_
                  refine lv_topi (fun x46 ex46 => ?_)
                  have tx46 : x46.toInt = y9.toInt - 1 := z_tsub ex46 rfl z_l1 (by omega) (by omega)
                  refine z_iald (i := (100 + 8 * k + 7)) hx hb hK hW (z_ssj hk h10 (by decide)) (z_ix rfl (by omega) (by omega)) dX10_blackBy_93 ?_
                  refine lv_topi (fun x47 ex47 => ?_)
                  refine lv_i2l (v := x47.toInt64) hx hb dX10_blackBy_94 rfl ?_
                  refine lv_topl (fun w48 ew48 => ?_)
                  refine lv_aload_n hx hb dX10_blackBy_95 rfl (lv_at hl 3 rfl) ?_
                  refine lv_iload hx hb dX10_blackBy_96 (lv_at hl 1 rfl) ?_
                  refine lv_iload_n hx hb dX10_blackBy_98 rfl (lv_at hl 4 rfl) ?_
                  refine lv_isub hx hb dX10_blackBy_99 ?_
                  refine lv_topi (fun x49 ex49 => ?_)
                  have tx49 : x49.toInt = y9.toInt - a2.toInt := z_tsub ex49 rfl rfl (by omega) (by omega)
                  refine lv_iconst (v := 1) hx hb dX10_blackBy_100 (by decide) ?_
                  refine lv_isub hx hb dX10_blackBy_101 ?_
                  refine lv_topi (fun x50 ex50 => ?_)
                  have tx50 : x50.toInt = x49.toInt - 1 := z_tsub ex50 rfl z_l1 (by omega) (by omega)
                  refine z_iald (i := 40) hx hb hK hW rfl (z_ix rfl (by omega) (by omega)) dX10_blackBy_102 ?_
                  refine lv_topi (fun x51 ex51 => ?_)
                  refine lv_i2l (v := x51.toInt64) hx hb dX10_blackBy_103 rfl ?_
                  refine lv_topl (fun w52 ew52 => ?_)
                  refine lv_ladd hx hb dX10_blackBy_104 ?_
                  refine lv_topl (fun w53 ew53 => ?_)
                  refine lv_iload hx hb dX10_blackBy_105 (lv_at hl 0 rfl) ?_
                  refine lv_i2l (v := x26.toInt64) hx hb dX10_blackBy_107 rfl ?_
                  refine lv_topl (fun w54 ew54 => ?_)
                  refine W.lcmp hx hb dX10_blackBy_108 ?_
                  refine lv_topi (fun x55 ex55 => ?_)
                  have tx55 := z_tcmp ex55
                  refine lv_if_ge (tgt := 116) hx hb dX10_blackBy_109 (by decide) (fun c56 => ?_) (fun c56 => ?_)
                  · have g57 := z_f_ge rfl z_l0 c56
                    obtain ⟨x58, ex58⟩ : ∃ y : Int32, y = y9 + 1 := ⟨_, rfl⟩
                    have tx58 : x58.toInt = y9.toInt + 1 := z_tadd ex58 rfl z_l1 (by omega) (by omega)
                    refine lv_iinc (v := x58) (lv' := [(4, .int x58), (5, .int x26), (0, .ref (ad (100 + 8 * k))), (1, .ref (ad 40)), (2, .int a2), (3, .int a3)]) hx hb dX10_blackBy_116 hl (k := 1) rfl (by rw [ex58]; rfl) (by decide) rfl (fun ls hl => ?_)
                    refine lv_goto (tgt := 24) hx hb dX10_blackBy_119 (by decide) ?_
                    exact lp8ih x58 _ _ _ (by omega) (by omega) (by omega) hW hS (lv_sub hl [0, 2, 3, 4, 5] rfl)
                  · have g59 := z_f_nge rfl z_l0 c56
                    refine lv_ldc2 (v := (-1)) hx hb hown (hts (.constantLong RX10 53 (-1)) (me_s (me_l (List.mem_of_getElem? (i := 0) rfl)))) dX10_blackBy_112 ?_
                    exact z_lret hx hb hr hK hS (Nat.le_of_ble_eq_true rfl) (Nat.le_of_ble_eq_true rfl) hlocks dX10_blackBy_115 (shC c, ad, I, JX, PC c ad) hW rfl
              · have g60 := z_f_nle rfl rfl c39
                have b61 := Int32.toInt_lt x38
                refine lv_ldc2 (v := (-1)) hx hb hown (hts (.constantLong RX10 53 (-1)) (me_s (me_l (List.mem_of_getElem? (i := 0) rfl)))) dX10_blackBy_75 ?_
                exact z_lret hx hb hr hK hS (Nat.le_of_ble_eq_true rfl) (Nat.le_of_ble_eq_true rfl) hlocks dX10_blackBy_78 (shC c, ad, I, JX, PC c ad) hW rfl
    exact lp8 4294967296 a2 _ _ _ (z_m0u _) (by omega) (by omega) hW hS (lv_sub hl [0, 1, 2, 3, 4] rfl)
  · refine lv_if_eq (tgt := 17) hx hb dX10_blackBy_6 (by decide) (fun c62 => ?_) (fun c62 => absurd (by decide) c62)
    refine lv_ldc2 (v := (-1)) hx hb hown (hts (.constantLong RX10 53 (-1)) (me_s (me_l (List.mem_of_getElem? (i := 0) rfl)))) dX10_blackBy_17 ?_
    exact z_lret hx hb hr hK hS (Nat.le_of_ble_eq_true rfl) (Nat.le_of_ble_eq_true rfl) hlocks dX10_blackBy_20 (shC c, ad, I, JX, PC c ad) hW rfl
