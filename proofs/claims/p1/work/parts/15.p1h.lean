theorem dX12_foretold_0 : decode cX12_foretold 0 = .ok (.aload_n 0, 1) := by decide +kernel
theorem dX12_foretold_1 : decode cX12_foretold 1 = .ok (.getfield 232, 3) := by decide +kernel
theorem dX12_foretold_4 : decode cX12_foretold 4 = .ok (.bipush 30, 2) := by decide +kernel
theorem dX12_foretold_6 : decode cX12_foretold 6 = .ok (.idiv, 1) := by decide +kernel
theorem dX12_foretold_7 : decode cX12_foretold 7 = .ok (.istore_n 3, 1) := by decide +kernel
theorem dX12_foretold_8 : decode cX12_foretold 8 = .ok (.iload_n 1, 1) := by decide +kernel
theorem dX12_foretold_9 : decode cX12_foretold 9 = .ok (.iconst 1, 1) := by decide +kernel
theorem dX12_foretold_10 : decode cX12_foretold 10 = .ok (.bipush 12, 2) := by decide +kernel
set_option maxRecDepth 20000 in
theorem ggX12_foretold_X12_within : GoodIn wsX12_foretold wsX12_within := goodIn_r _ [14] (by decide +kernel) (by decide +kernel)
set_option maxRecDepth 20000 in
theorem gX12_foretold_X12_within : GoodIn wsX12_foretold (va_wsS RX12 235 yX12_within wsX12_within) := goodIn_app (goodIn_of _ (by decide +kernel)) ggX12_foretold_X12_within
theorem dX12_foretold_12 : decode cX12_foretold 12 = .ok (.invokestatic 235, 3) := by decide +kernel
theorem dX12_foretold_15 : decode cX12_foretold 15 = .ok (.ifCond .eq 13, 3) := by decide +kernel
theorem dX12_foretold_18 : decode cX12_foretold 18 = .ok (.iload_n 3, 1) := by decide +kernel
theorem dX12_foretold_19 : decode cX12_foretold 19 = .ok (.iload_n 1, 1) := by decide +kernel
theorem dX12_foretold_20 : decode cX12_foretold 20 = .ok (.iadd, 1) := by decide +kernel
theorem dX12_foretold_21 : decode cX12_foretold 21 = .ok (.iconst 1, 1) := by decide +kernel
theorem dX12_foretold_22 : decode cX12_foretold 22 = .ok (.isub, 1) := by decide +kernel
theorem dX12_foretold_23 : decode cX12_foretold 23 = .ok (.bipush 23, 2) := by decide +kernel
theorem dX12_foretold_25 : decode cX12_foretold 25 = .ok (.if_icmp .le 7, 3) := by decide +kernel
theorem dX12_foretold_32 : decode cX12_foretold 32 = .ok (.lconst 0, 1) := by decide +kernel
theorem dX12_foretold_33 : decode cX12_foretold 33 = .ok (.lstore 4, 2) := by decide +kernel
theorem dX12_foretold_35 : decode cX12_foretold 35 = .ok (.iload_n 3, 1) := by decide +kernel
theorem dX12_foretold_36 : decode cX12_foretold 36 = .ok (.istore 6, 2) := by decide +kernel
theorem dX12_foretold_38 : decode cX12_foretold 38 = .ok (.iload 6, 2) := by decide +kernel
theorem dX12_foretold_40 : decode cX12_foretold 40 = .ok (.iload_n 3, 1) := by decide +kernel
theorem dX12_foretold_41 : decode cX12_foretold 41 = .ok (.iload_n 1, 1) := by decide +kernel
theorem dX12_foretold_42 : decode cX12_foretold 42 = .ok (.iadd, 1) := by decide +kernel
theorem dX12_foretold_43 : decode cX12_foretold 43 = .ok (.if_icmp .ge 83, 3) := by decide +kernel
theorem dX12_foretold_126 : decode cX12_foretold 126 = .ok (.iconst 0, 1) := by decide +kernel
theorem dX12_foretold_127 : decode cX12_foretold 127 = .ok (.istore 6, 2) := by decide +kernel
theorem dX12_foretold_129 : decode cX12_foretold 129 = .ok (.iconst 0, 1) := by decide +kernel
theorem dX12_foretold_130 : decode cX12_foretold 130 = .ok (.istore 7, 2) := by decide +kernel
theorem dX12_foretold_132 : decode cX12_foretold 132 = .ok (.iload 7, 2) := by decide +kernel
theorem dX12_foretold_134 : decode cX12_foretold 134 = .ok (.aload_n 0, 1) := by decide +kernel
theorem dX12_foretold_135 : decode cX12_foretold 135 = .ok (.getfield 493, 3) := by decide +kernel
theorem dX12_foretold_138 : decode cX12_foretold 138 = .ok (.if_icmp .ge 21, 3) := by decide +kernel
theorem dX12_foretold_159 : decode cX12_foretold 159 = .ok (.ldc2_w 525, 3) := by decide +kernel
theorem dX12_foretold_162 : decode cX12_foretold 162 = .ok (.iload 6, 2) := by decide +kernel
theorem dX12_foretold_164 : decode cX12_foretold 164 = .ok (.i2l, 1) := by decide +kernel
theorem dX12_foretold_165 : decode cX12_foretold 165 = .ok (.lmul, 1) := by decide +kernel
theorem dX12_foretold_166 : decode cX12_foretold 166 = .ok (.lload 4, 2) := by decide +kernel
theorem dX12_foretold_168 : decode cX12_foretold 168 = .ok (.ldc2_w 527, 3) := by decide +kernel
theorem dX12_foretold_171 : decode cX12_foretold 171 = .ok (.ladd, 1) := by decide +kernel
theorem dX12_foretold_172 : decode cX12_foretold 172 = .ok (.ldc2_w 529, 3) := by decide +kernel
theorem dX12_foretold_175 : decode cX12_foretold 175 = .ok (.ldiv, 1) := by decide +kernel
theorem dX12_foretold_176 : decode cX12_foretold 176 = .ok (.lsub, 1) := by decide +kernel
theorem dX12_foretold_177 : decode cX12_foretold 177 = .ok (.lstore 7, 2) := by decide +kernel
theorem dX12_foretold_179 : decode cX12_foretold 179 = .ok (.lload 7, 2) := by decide +kernel
theorem dX12_foretold_181 : decode cX12_foretold 181 = .ok (.ldc2_w 531, 3) := by decide +kernel
theorem dX12_foretold_184 : decode cX12_foretold 184 = .ok (.lcmp, 1) := by decide +kernel
theorem dX12_foretold_185 : decode cX12_foretold 185 = .ok (.ifCond .ge 9, 3) := by decide +kernel
theorem dX12_foretold_194 : decode cX12_foretold 194 = .ok (.lload 7, 2) := by decide +kernel
theorem dX12_foretold_196 : decode cX12_foretold 196 = .ok (.l2i, 1) := by decide +kernel
theorem dX12_foretold_197 : decode cX12_foretold 197 = .ok (.ireturn, 1) := by decide +kernel
theorem dX12_foretold_46 : decode cX12_foretold 46 = .ok (.iconst 0, 1) := by decide +kernel
theorem dX12_foretold_47 : decode cX12_foretold 47 = .ok (.istore 7, 2) := by decide +kernel
theorem dX12_foretold_49 : decode cX12_foretold 49 = .ok (.iload 7, 2) := by decide +kernel
theorem dX12_foretold_51 : decode cX12_foretold 51 = .ok (.aload_n 0, 1) := by decide +kernel
theorem dX12_foretold_52 : decode cX12_foretold 52 = .ok (.getfield 229, 3) := by decide +kernel
theorem dX12_foretold_55 : decode cX12_foretold 55 = .ok (.if_icmp .ge 65, 3) := by decide +kernel
theorem dX12_foretold_120 : decode cX12_foretold 120 = .ok (.iinc 6 1, 3) := by decide +kernel
theorem dX12_foretold_123 : decode cX12_foretold 123 = .ok (.goto (-85), 3) := by decide +kernel
theorem dX12_foretold_28 : decode cX12_foretold 28 = .ok (.ldc_w 482, 3) := by decide +kernel
theorem dX12_foretold_31 : decode cX12_foretold 31 = .ok (.ireturn, 1) := by decide +kernel
theorem dX12_feed_0 : decode cX12_feed 0 = .ok (.aload_n 0, 1) := by decide +kernel
theorem dX12_feed_1 : decode cX12_feed 1 = .ok (.getfield 253, 3) := by decide +kernel
theorem dX12_feed_4 : decode cX12_feed 4 = .ok (.bipush 20, 2) := by decide +kernel
theorem dX12_feed_6 : decode cX12_feed 6 = .ok (.iadd, 1) := by decide +kernel
theorem dX12_feed_7 : decode cX12_feed 7 = .ok (.sipush 500, 3) := by decide +kernel
theorem dX12_feed_10 : decode cX12_feed 10 = .ok (.if_icmp .le 5, 3) := by decide +kernel
theorem dX12_feed_15 : decode cX12_feed 15 = .ok (.iconst 0, 1) := by decide +kernel
theorem dX12_feed_16 : decode cX12_feed 16 = .ok (.istore 6, 2) := by decide +kernel
theorem dX12_feed_18 : decode cX12_feed 18 = .ok (.iload 6, 2) := by decide +kernel
theorem dX12_feed_20 : decode cX12_feed 20 = .ok (.bipush 20, 2) := by decide +kernel
theorem dX12_feed_22 : decode cX12_feed 22 = .ok (.if_icmp .ge 90, 3) := by decide +kernel
theorem dX12_feed_25 : decode cX12_feed 25 = .ok (.iload 6, 2) := by decide +kernel
theorem dX12_feed_27 : decode cX12_feed 27 = .ok (.iconst 4, 1) := by decide +kernel
theorem dX12_feed_28 : decode cX12_feed 28 = .ok (.if_icmp .ge 7, 3) := by decide +kernel
theorem dX12_feed_31 : decode cX12_feed 31 = .ok (.iload_n 1, 1) := by decide +kernel
theorem dX12_feed_32 : decode cX12_feed 32 = .ok (.goto 39, 3) := by decide +kernel
theorem dX12_feed_71 : decode cX12_feed 71 = .ok (.istore 7, 2) := by decide +kernel
theorem dX12_feed_73 : decode cX12_feed 73 = .ok (.aload_n 0, 1) := by decide +kernel
theorem dX12_feed_74 : decode cX12_feed 74 = .ok (.getfield 83, 3) := by decide +kernel
theorem dX12_feed_77 : decode cX12_feed 77 = .ok (.aload_n 0, 1) := by decide +kernel
theorem dX12_feed_78 : decode cX12_feed 78 = .ok (.getfield 253, 3) := by decide +kernel
theorem dX12_feed_81 : decode cX12_feed 81 = .ok (.iload 7, 2) := by decide +kernel
theorem dX12_feed_83 : decode cX12_feed 83 = .ok (.bipush 24, 2) := by decide +kernel
theorem dX12_feed_85 : decode cX12_feed 85 = .ok (.bipush 8, 2) := by decide +kernel
theorem dX12_feed_87 : decode cX12_feed 87 = .ok (.iload 6, 2) := by decide +kernel
theorem dX12_feed_89 : decode cX12_feed 89 = .ok (.iconst 4, 1) := by decide +kernel
theorem dX12_feed_90 : decode cX12_feed 90 = .ok (.irem, 1) := by decide +kernel
theorem dX12_feed_91 : decode cX12_feed 91 = .ok (.imul, 1) := by decide +kernel
theorem dX12_feed_92 : decode cX12_feed 92 = .ok (.isub, 1) := by decide +kernel
theorem dX12_feed_93 : decode cX12_feed 93 = .ok (.ishr, 1) := by decide +kernel
theorem dX12_feed_94 : decode cX12_feed 94 = .ok (.i2b, 1) := by decide +kernel
theorem dX12_feed_95 : decode cX12_feed 95 = .ok (.bastore, 1) := by decide +kernel
theorem dX12_feed_96 : decode cX12_feed 96 = .ok (.aload_n 0, 1) := by decide +kernel
theorem dX12_feed_97 : decode cX12_feed 97 = .ok (.dup, 1) := by decide +kernel
theorem dX12_feed_98 : decode cX12_feed 98 = .ok (.getfield 253, 3) := by decide +kernel
theorem dX12_feed_101 : decode cX12_feed 101 = .ok (.iconst 1, 1) := by decide +kernel
theorem dX12_feed_102 : decode cX12_feed 102 = .ok (.iadd, 1) := by decide +kernel
theorem dX12_feed_103 : decode cX12_feed 103 = .ok (.putfield 253, 3) := by decide +kernel
theorem dX12_feed_106 : decode cX12_feed 106 = .ok (.iinc 6 1, 3) := by decide +kernel
theorem dX12_feed_109 : decode cX12_feed 109 = .ok (.goto (-91), 3) := by decide +kernel
theorem dX12_feed_35 : decode cX12_feed 35 = .ok (.iload 6, 2) := by decide +kernel
theorem dX12_feed_37 : decode cX12_feed 37 = .ok (.bipush 8, 2) := by decide +kernel
theorem dX12_feed_39 : decode cX12_feed 39 = .ok (.if_icmp .ge 7, 3) := by decide +kernel
theorem dX12_feed_42 : decode cX12_feed 42 = .ok (.iload_n 2, 1) := by decide +kernel
theorem dX12_feed_43 : decode cX12_feed 43 = .ok (.goto 28, 3) := by decide +kernel
theorem dX12_feed_46 : decode cX12_feed 46 = .ok (.iload 6, 2) := by decide +kernel
theorem dX12_feed_48 : decode cX12_feed 48 = .ok (.bipush 12, 2) := by decide +kernel
theorem dX12_feed_50 : decode cX12_feed 50 = .ok (.if_icmp .ge 7, 3) := by decide +kernel
theorem dX12_feed_53 : decode cX12_feed 53 = .ok (.iload_n 3, 1) := by decide +kernel
theorem dX12_feed_54 : decode cX12_feed 54 = .ok (.goto 17, 3) := by decide +kernel
theorem dX12_feed_57 : decode cX12_feed 57 = .ok (.iload 6, 2) := by decide +kernel
theorem dX12_feed_59 : decode cX12_feed 59 = .ok (.bipush 16, 2) := by decide +kernel
theorem dX12_feed_61 : decode cX12_feed 61 = .ok (.if_icmp .ge 8, 3) := by decide +kernel
theorem dX12_feed_64 : decode cX12_feed 64 = .ok (.iload 4, 2) := by decide +kernel
theorem dX12_feed_66 : decode cX12_feed 66 = .ok (.goto 5, 3) := by decide +kernel
theorem dX12_feed_69 : decode cX12_feed 69 = .ok (.iload 5, 2) := by decide +kernel
theorem dX12_feed_112 : decode cX12_feed 112 = .ok (.aload_n 0, 1) := by decide +kernel
theorem dX12_feed_113 : decode cX12_feed 113 = .ok (.getfield 253, 3) := by decide +kernel
theorem dX12_feed_116 : decode cX12_feed 116 = .ok (.ireturn, 1) := by decide +kernel
theorem dX12_here_0 : decode cX12_here 0 = .ok (.aload_n 0, 1) := by decide +kernel
theorem dX12_here_1 : decode cX12_here 1 = .ok (.getfield 256, 3) := by decide +kernel
theorem dX12_here_4 : decode cX12_here 4 = .ok (.aload_n 0, 1) := by decide +kernel
theorem dX12_here_5 : decode cX12_here 5 = .ok (.getfield 259, 3) := by decide +kernel
theorem dX12_here_8 : decode cX12_here 8 = .ok (.if_icmp .ge 19, 3) := by decide +kernel
theorem dX12_here_27 : decode cX12_here 27 = .ok (.iconst (-1), 1) := by decide +kernel
theorem dX12_here_28 : decode cX12_here 28 = .ok (.ireturn, 1) := by decide +kernel
theorem dX12_next_0 : decode cX12_next 0 = .ok (.aload_n 0, 1) := by decide +kernel
set_option maxRecDepth 20000 in
theorem ggX12_next_X12_here : GoodIn wsX12_next wsX12_here := goodIn_r _ [14, 1, 15, 16, 26, 27, 28, 29, 30, 31, 32, 33, 34, 35, 36, 37, 38, 39, 40, 41, 42, 43, 44, 45, 46, 47, 48, 49, 50, 51, 52, 53, 54, 55, 56, 57, 58, 59, 60, 61, 62, 63, 64, 65, 66, 67, 68, 69, 70, 71, 72, 73, 74, 75, 76, 77, 78, 79, 80, 81, 82, 83, 84, 85, 86, 87, 88, 89, 90, 91, 92, 93, 94, 95, 96, 97, 98, 99, 100, 101, 102, 103, 104, 105, 106, 107, 108, 109, 110, 111, 112, 113, 114, 115, 116, 117, 118, 119, 120, 121] (by decide +kernel) (by decide +kernel)
set_option maxRecDepth 20000 in
theorem gX12_next_X12_here : GoodIn wsX12_next (wsV RX12 262 RX12 yX12_here wsX12_here) := goodIn_app (goodIn_of _ (by decide +kernel)) ggX12_next_X12_here
theorem dX12_next_1 : decode cX12_next 1 = .ok (.invokevirtual 262, 3) := by decide +kernel
theorem dX12_next_4 : decode cX12_next 4 = .ok (.bipush 32, 2) := by decide +kernel
theorem dX12_next_6 : decode cX12_next 6 = .ok (.if_icmp .eq 12, 3) := by decide +kernel
theorem dX12_next_9 : decode cX12_next 9 = .ok (.aload_n 0, 1) := by decide +kernel
theorem dX12_next_10 : decode cX12_next 10 = .ok (.invokevirtual 262, 3) := by decide +kernel
theorem dX12_next_13 : decode cX12_next 13 = .ok (.bipush 10, 2) := by decide +kernel
theorem dX12_next_15 : decode cX12_next 15 = .ok (.if_icmp .ne 16, 3) := by decide +kernel
theorem dX12_next_31 : decode cX12_next 31 = .ok (.aload_n 0, 1) := by decide +kernel
theorem dX12_next_32 : decode cX12_next 32 = .ok (.aload_n 0, 1) := by decide +kernel
theorem dX12_next_33 : decode cX12_next 33 = .ok (.getfield 256, 3) := by decide +kernel
theorem dX12_next_36 : decode cX12_next 36 = .ok (.putfield 266, 3) := by decide +kernel
theorem dX12_next_39 : decode cX12_next 39 = .ok (.aload_n 0, 1) := by decide +kernel
theorem dX12_next_40 : decode cX12_next 40 = .ok (.invokevirtual 262, 3) := by decide +kernel
theorem dX12_next_43 : decode cX12_next 43 = .ok (.istore_n 1, 1) := by decide +kernel
theorem dX12_next_44 : decode cX12_next 44 = .ok (.aload_n 0, 1) := by decide +kernel
theorem dX12_next_45 : decode cX12_next 45 = .ok (.ldc2_w 269, 3) := by decide +kernel
theorem dX12_next_48 : decode cX12_next 48 = .ok (.putfield 271, 3) := by decide +kernel
theorem dX12_next_51 : decode cX12_next 51 = .ok (.aload_n 0, 1) := by decide +kernel
theorem dX12_next_52 : decode cX12_next 52 = .ok (.iconst 0, 1) := by decide +kernel
theorem dX12_next_53 : decode cX12_next 53 = .ok (.putfield 275, 3) := by decide +kernel
theorem dX12_next_56 : decode cX12_next 56 = .ok (.aload_n 0, 1) := by decide +kernel
theorem dX12_next_57 : decode cX12_next 57 = .ok (.iconst 0, 1) := by decide +kernel
theorem dX12_next_58 : decode cX12_next 58 = .ok (.putfield 278, 3) := by decide +kernel
theorem dX12_next_61 : decode cX12_next 61 = .ok (.iload_n 1, 1) := by decide +kernel
theorem dX12_next_62 : decode cX12_next 62 = .ok (.ifCond .ge 11, 3) := by decide +kernel
theorem dX12_next_65 : decode cX12_next 65 = .ok (.aload_n 0, 1) := by decide +kernel
theorem dX12_next_66 : decode cX12_next 66 = .ok (.iconst 0, 1) := by decide +kernel
theorem dX12_next_67 : decode cX12_next 67 = .ok (.putfield 281, 3) := by decide +kernel
theorem dX12_next_70 : decode cX12_next 70 = .ok (.goto 212, 3) := by decide +kernel
theorem dX12_next_282 : decode cX12_next 282 = .ok (.return_, 1) := by decide +kernel
theorem dX12_orders_0 : decode cX12_orders 0 = .ok (.iload_n 1, 1) := by decide +kernel
theorem dX12_orders_1 : decode cX12_orders 1 = .ok (.ifCond .lt 18, 3) := by decide +kernel
theorem dX12_orders_19 : decode cX12_orders 19 = .ok (.bipush (-2), 2) := by decide +kernel
theorem dX12_orders_21 : decode cX12_orders 21 = .ok (.ireturn, 1) := by decide +kernel
theorem dX12_orders_4 : decode cX12_orders 4 = .ok (.iload_n 1, 1) := by decide +kernel
theorem dX12_orders_5 : decode cX12_orders 5 = .ok (.aload_n 0, 1) := by decide +kernel
theorem dX12_orders_6 : decode cX12_orders 6 = .ok (.getfield 253, 3) := by decide +kernel
theorem dX12_orders_9 : decode cX12_orders 9 = .ok (.if_icmp .gt 10, 3) := by decide +kernel
theorem dX12_orders_12 : decode cX12_orders 12 = .ok (.iload_n 2, 1) := by decide +kernel
set_option maxRecDepth 20000 in
theorem ggX12_orders_X12_isMonth : GoodIn wsX12_orders wsX12_isMonth := goodIn_r _ [18] (by decide +kernel) (by decide +kernel)
set_option maxRecDepth 20000 in
theorem gX12_orders_X12_isMonth : GoodIn wsX12_orders (va_wsS RX12 405 yX12_isMonth wsX12_isMonth) := goodIn_app (goodIn_of _ (by decide +kernel)) ggX12_orders_X12_isMonth
theorem dX12_orders_13 : decode cX12_orders 13 = .ok (.invokestatic 405, 3) := by decide +kernel
theorem dX12_orders_16 : decode cX12_orders 16 = .ok (.ifCond .ne 6, 3) := by decide +kernel
theorem dX12_orders_22 : decode cX12_orders 22 = .ok (.aload_n 0, 1) := by decide +kernel
theorem dX12_orders_23 : decode cX12_orders 23 = .ok (.getfield 408, 3) := by decide +kernel
theorem dX12_orders_26 : decode cX12_orders 26 = .ok (.bipush 12, 2) := by decide +kernel
theorem dX12_orders_28 : decode cX12_orders 28 = .ok (.if_icmp .ne 6, 3) := by decide +kernel
theorem dX12_orders_34 : decode cX12_orders 34 = .ok (.aload_n 0, 1) := by decide +kernel
theorem dX12_orders_35 : decode cX12_orders 35 = .ok (.iload_n 1, 1) := by decide +kernel
theorem dX12_orders_36 : decode cX12_orders 36 = .ok (.putfield 259, 3) := by decide +kernel
theorem dX12_orders_39 : decode cX12_orders 39 = .ok (.aload_n 0, 1) := by decide +kernel
theorem dX12_orders_40 : decode cX12_orders 40 = .ok (.iconst 0, 1) := by decide +kernel
theorem dX12_orders_41 : decode cX12_orders 41 = .ok (.putfield 253, 3) := by decide +kernel
theorem dX12_orders_44 : decode cX12_orders 44 = .ok (.aload_n 0, 1) := by decide +kernel
theorem dX12_orders_45 : decode cX12_orders 45 = .ok (.iconst 0, 1) := by decide +kernel
theorem dX12_orders_46 : decode cX12_orders 46 = .ok (.putfield 256, 3) := by decide +kernel
theorem dX12_orders_49 : decode cX12_orders 49 = .ok (.aload_n 0, 1) := by decide +kernel
theorem dX12_orders_50 : decode cX12_orders 50 = .ok (.iconst (-1), 1) := by decide +kernel
theorem dX12_orders_51 : decode cX12_orders 51 = .ok (.putfield 87, 3) := by decide +kernel
theorem dX12_orders_54 : decode cX12_orders 54 = .ok (.aload_n 0, 1) := by decide +kernel
theorem dX12_orders_55 : decode cX12_orders 55 = .ok (.iconst 0, 1) := by decide +kernel
theorem dX12_orders_56 : decode cX12_orders 56 = .ok (.putfield 294, 3) := by decide +kernel
theorem dX12_orders_59 : decode cX12_orders 59 = .ok (.aload_n 0, 1) := by decide +kernel
theorem dX12_orders_60 : decode cX12_orders 60 = .ok (.getfield 411, 3) := by decide +kernel
theorem dX12_orders_63 : decode cX12_orders 63 = .ok (.istore_n 3, 1) := by decide +kernel
theorem dX12_orders_64 : decode cX12_orders 64 = .ok (.aload_n 0, 1) := by decide +kernel
theorem dX12_orders_65 : decode cX12_orders 65 = .ok (.getfield 337, 3) := by decide +kernel
theorem dX12_orders_68 : decode cX12_orders 68 = .ok (.istore 4, 2) := by decide +kernel
theorem dX12_orders_70 : decode cX12_orders 70 = .ok (.aload_n 0, 1) := by decide +kernel
set_option maxRecDepth 20000 in
theorem ggX12_orders_X12_next : GoodIn wsX12_orders wsX12_next := goodIn_r _ [22, 4, 23, 24, 25, 26, 27, 9, 28, 29, 30, 31, 32, 17, 33, 3, 34, 35, 36, 37, 38, 39, 40, 41, 42, 43, 145, 146, 147, 148, 149, 150, 151, 152, 153, 154, 155, 156, 157, 158, 159, 160, 161, 162, 163, 164, 165, 166, 167, 168, 169, 170, 171, 172, 173, 174, 175, 176, 177, 178, 179, 180, 181, 182, 183, 184, 185, 186, 187, 188, 189, 190, 191, 192, 193, 194, 195, 196, 197, 198, 199, 200, 201, 202, 203, 204, 205, 206, 207, 208, 209, 210, 211, 212, 213, 214, 215, 216, 217, 218, 219, 220, 221, 222, 223, 224, 225, 226, 227, 228, 229, 230, 231, 232, 233, 234, 235, 236, 237, 238, 239, 240] (by decide +kernel) (by decide +kernel)
set_option maxRecDepth 20000 in
theorem gX12_orders_X12_next : GoodIn wsX12_orders (wsV RX12 301 RX12 yX12_next wsX12_next) := goodIn_app (goodIn_of _ (by decide +kernel)) ggX12_orders_X12_next
theorem dX12_orders_71 : decode cX12_orders 71 = .ok (.invokevirtual 301, 3) := by decide +kernel
theorem dX12_orders_74 : decode cX12_orders 74 = .ok (.aload_n 0, 1) := by decide +kernel
theorem dX12_orders_75 : decode cX12_orders 75 = .ok (.getfield 281, 3) := by decide +kernel
theorem dX12_orders_78 : decode cX12_orders 78 = .ok (.ifCond .eq 56, 3) := by decide +kernel
theorem dX12_orders_134 : decode cX12_orders 134 = .ok (.aload_n 0, 1) := by decide +kernel
theorem dX12_orders_135 : decode cX12_orders 135 = .ok (.getfield 294, 3) := by decide +kernel
theorem dX12_orders_138 : decode cX12_orders 138 = .ok (.ifCond .eq 16, 3) := by decide +kernel
theorem dX12_orders_154 : decode cX12_orders 154 = .ok (.aload_n 0, 1) := by decide +kernel
theorem dX12_orders_155 : decode cX12_orders 155 = .ok (.getfield 40, 3) := by decide +kernel
theorem dX12_orders_158 : decode cX12_orders 158 = .ok (.aload_n 0, 1) := by decide +kernel
theorem dX12_orders_159 : decode cX12_orders 159 = .ok (.getfield 408, 3) := by decide +kernel
theorem dX12_orders_162 : decode cX12_orders 162 = .ok (.iload_n 3, 1) := by decide +kernel
theorem dX12_orders_163 : decode cX12_orders 163 = .ok (.iastore, 1) := by decide +kernel
theorem dX12_orders_164 : decode cX12_orders 164 = .ok (.aload_n 0, 1) := by decide +kernel
theorem dX12_orders_165 : decode cX12_orders 165 = .ok (.getfield 43, 3) := by decide +kernel
theorem dX12_orders_168 : decode cX12_orders 168 = .ok (.aload_n 0, 1) := by decide +kernel
theorem dX12_orders_169 : decode cX12_orders 169 = .ok (.getfield 408, 3) := by decide +kernel
theorem dX12_orders_172 : decode cX12_orders 172 = .ok (.aload_n 0, 1) := by decide +kernel
theorem dX12_orders_173 : decode cX12_orders 173 = .ok (.getfield 411, 3) := by decide +kernel
theorem dX12_orders_176 : decode cX12_orders 176 = .ok (.iload_n 3, 1) := by decide +kernel
theorem dX12_orders_177 : decode cX12_orders 177 = .ok (.isub, 1) := by decide +kernel
theorem dX12_orders_178 : decode cX12_orders 178 = .ok (.iastore, 1) := by decide +kernel
theorem dX12_orders_179 : decode cX12_orders 179 = .ok (.aload_n 0, 1) := by decide +kernel
theorem dX12_orders_180 : decode cX12_orders 180 = .ok (.getfield 46, 3) := by decide +kernel
theorem dX12_orders_183 : decode cX12_orders 183 = .ok (.aload_n 0, 1) := by decide +kernel
theorem dX12_orders_184 : decode cX12_orders 184 = .ok (.getfield 408, 3) := by decide +kernel
theorem dX12_orders_187 : decode cX12_orders 187 = .ok (.iload_n 2, 1) := by decide +kernel
theorem dX12_orders_188 : decode cX12_orders 188 = .ok (.iastore, 1) := by decide +kernel
theorem dX12_orders_189 : decode cX12_orders 189 = .ok (.aload_n 0, 1) := by decide +kernel
theorem dX12_orders_190 : decode cX12_orders 190 = .ok (.getfield 49, 3) := by decide +kernel
theorem dX12_orders_193 : decode cX12_orders 193 = .ok (.aload_n 0, 1) := by decide +kernel
theorem dX12_orders_194 : decode cX12_orders 194 = .ok (.getfield 408, 3) := by decide +kernel
theorem dX12_orders_197 : decode cX12_orders 197 = .ok (.aload_n 0, 1) := by decide +kernel
theorem dX12_orders_198 : decode cX12_orders 198 = .ok (.getfield 232, 3) := by decide +kernel
theorem dX12_orders_201 : decode cX12_orders 201 = .ok (.iastore, 1) := by decide +kernel
theorem dX12_orders_202 : decode cX12_orders 202 = .ok (.aload_n 0, 1) := by decide +kernel
theorem dX12_orders_203 : decode cX12_orders 203 = .ok (.dup, 1) := by decide +kernel
theorem dX12_orders_204 : decode cX12_orders 204 = .ok (.getfield 408, 3) := by decide +kernel
theorem dX12_orders_207 : decode cX12_orders 207 = .ok (.iconst 1, 1) := by decide +kernel
theorem dX12_orders_208 : decode cX12_orders 208 = .ok (.iadd, 1) := by decide +kernel
theorem dX12_orders_209 : decode cX12_orders 209 = .ok (.putfield 408, 3) := by decide +kernel
theorem dX12_orders_212 : decode cX12_orders 212 = .ok (.aload_n 0, 1) := by decide +kernel
theorem dX12_orders_213 : decode cX12_orders 213 = .ok (.getfield 408, 3) := by decide +kernel
theorem dX12_orders_216 : decode cX12_orders 216 = .ok (.iconst 1, 1) := by decide +kernel
theorem dX12_orders_217 : decode cX12_orders 217 = .ok (.isub, 1) := by decide +kernel
theorem dX12_orders_218 : decode cX12_orders 218 = .ok (.ireturn, 1) := by decide +kernel
theorem z_lm1 : ((-1) : Int32).toInt = -1 := by decide
theorem z_l13 : (13 : Int32).toInt = 13 := by decide
theorem zi_X12_foretold_X12 : ∀ w ∈ wsX120, w ∈ wsX12_foretold := fun w h => (List.mem_cons_of_mem _ (List.mem_append_right _ h))
set_option maxHeartbeats 4000000 in
set_option maxRecDepth 100000 in
theorem ct_X12_foretold (l : Launch) (G : z_G) (ad : Nat → Nat) (a1 : Int32) (a2 : Int32) : z_M l yX12_foretold wsX12_foretold { frames := 3, cells := 0, slots := 0, locals := 62 } [.ref (ad 0), .int a1, .int a2] G (shM, ad, IM, JM, PM ad) (fun r u1 => r = fr_foretold a1) 0 0 := by
  intro sz
  refine z_headQ (cc := cX12_foretold) (maxL := 9) (ret := (some .int)) (by decide) rfl (Nat.le_of_ble_eq_true rfl) ?_
  intro p e s m below meth c ls hIn hK hsz hW hl
  obtain ⟨hx, hb, hr, hml, hown, hts, hlocks, hname⟩ := hIn
  subst hsz
  have hown : s.vm.findClass RX12 = some m.cls := hown
  have hA : ∀ q : Nat, s.heap.size ≤ q → z_A (shM, ad, IM, JM, PM ad) s.heap.size q := fun q h => Or.inr h
  generalize hAe : z_A (shM, ad, IM, JM, PM ad) s.heap.size = A at *
  have hS : va_S A s.heap s.heap [] := va_S.rf
  have hl : lv_has ls 9 [(0, .ref (ad 0)), (1, .int a1), (2, .int a2)] := hl
  refine lv_aload_n hx hb dX12_foretold_0 rfl (lv_at hl 0 rfl) ?_
  refine z_get (T := TX12) (N := 96) (ci := 12) (i := 0) (v := .int 0) hx hb hts zi_X12_foretold_X12 hown hK hW rfl rfl 0 (by decide) (hts (.fieldLink RX12 232 "PetrolBoardModel" "today" "I") (List.mem_of_getElem? (i := 1) rfl)) (fun _ h => h) rfl dX12_foretold_1 ?_
  refine lv_bipush (v := 30) hx hb dX12_foretold_4 (by decide) ?_
  refine lv_idiv hx hb dX12_foretold_6 (by decide) ?_
  refine z_topi (v := 0) (by decide) ?_
  refine lv_istore_n (lv' := [(3, .int 0), (0, .ref (ad 0)), (1, .int a1), (2, .int a2)]) hx hb dX12_foretold_7 rfl hl (by decide) rfl (fun ls hl => ?_)
  refine lv_iload_n hx hb dX12_foretold_8 rfl (lv_at hl 2 rfl) ?_
  refine lv_iconst (v := 1) hx hb dX12_foretold_9 (by decide) ?_
  refine lv_bipush (v := 12) hx hb dX12_foretold_10 (by decide) ?_
  refine z_ci hW hS hA (va_runS (As := [.int a1, .int 1, .int 12]) (rest := []) ⟨hx, hb, hml, hown, hts⟩ (ct_X12_within l G (shM, ad, IM, JM, PM ad) a1 1 12 _) (va_cwS 3 hts gX12_foretold_X12_within rfl rfl rfl (by decide +kernel) ⟨Nat.le_of_ble_eq_true rfl, Nat.le_of_ble_eq_true rfl⟩) (z_preS hK hW) rfl rfl hl.1 rfl (lv_room (Nat.le_of_ble_eq_true rfl)) dX12_foretold_12 ⟨Nat.le_of_ble_eq_true rfl, Nat.le_of_ble_eq_true rfl⟩) (fun r u1 H locs hp hW hS => ?_)
  obtain ⟨e9, hp⟩ := hp
  rw [e9] at hW
  rcases hp with ⟨rfl, h1, h2⟩ | ⟨rfl, h3⟩
  · refine lv_if_eq (tgt := 28) hx hb dX12_foretold_15 (by decide) (fun c4 => absurd c4 (by decide)) (fun c4 => ?_)
    refine lv_iload_n hx hb dX12_foretold_18 rfl (lv_at hl 0 rfl) ?_
    refine lv_iload_n hx hb dX12_foretold_19 rfl (lv_at hl 2 rfl) ?_
    refine lv_iadd hx hb dX12_foretold_20 ?_
    refine z_topi (v := a1) (Int32.zero_add _) ?_
    refine lv_iconst (v := 1) hx hb dX12_foretold_21 (by decide) ?_
    refine lv_isub hx hb dX12_foretold_22 ?_
    refine lv_topi (fun x5 ex5 => ?_)
    refine lv_bipush (v := 23) hx hb dX12_foretold_23 (by decide) ?_
    refine lv_icmp_le (tgt := 32) hx hb dX12_foretold_25 (by decide) (fun c6 => ?_) (fun c6 => False.elim (by have e7 := z_dec h1; rw [← ex5] at e7; simp only [Int32.lt_iff_toInt_lt, Int32.le_iff_toInt_le, z_l1, z_l12, z_l23] at c6 h1 h2; omega))
    refine lv_lconst (v := 0) hx hb dX12_foretold_32 (by decide) ?_
    refine lv_lstore (lv' := [(4, .long 0), (3, .int 0), (0, .ref (ad 0)), (1, .int a1), (2, .int a2)]) hx hb dX12_foretold_33 hl (by decide) rfl (fun ls hl => ?_)
    refine lv_iload_n hx hb dX12_foretold_35 rfl (lv_at hl 1 rfl) ?_
    refine lv_istore (lv' := [(6, .int 0), (4, .long 0), (3, .int 0), (0, .ref (ad 0)), (1, .int a1), (2, .int a2)]) hx hb dX12_foretold_36 hl (by decide) rfl (fun ls hl => ?_)
    have lp7 : ∀ (f : Nat) (y8 : Int32) (H : Heap) (locs : List Loc) (ls : Array Slot), 0 ≤ y8 → y8 ≤ a1 → (a1 : Int32).toInt < y8.toInt + (f : Int) → z_W G A (shM, ad, IM, JM, PM ad) H → va_S A s.heap H locs → lv_has ls 9 [(6, .int y8), (4, .long 0), (3, .int 0), (0, .ref (ad 0)), (1, .int a1), (2, .int a2)] → W p l e (headSpec wsX12_foretold { frames := 3, cells := 0, slots := 0, locals := 62 }).room s m ([.ref (ad 0), .int a1, .int a2] : List Value).toArray below meth c H locs 0 0 (MQ below (va_Qi (fun (r : Int32) (u1 : z_U) => r = fr_foretold a1) (z_B G A) A) ([.ref (ad 0), .int a1, .int a2] : List Value).toArray s 0 0 A) (F0 m 38 ls []) := by
      intro f
      induction f with
      | zero => intro y8 H locs ls lp71 lp72 lp73; exact (z_zero lp72 lp73).elim
      | succ f lp7ih =>
        intro y8 H locs ls lp71 lp72 lp73 hW hS hl
        refine lv_iload hx hb dX12_foretold_38 (lv_at hl 0 rfl) ?_
        refine lv_iload_n hx hb dX12_foretold_40 rfl (lv_at hl 2 rfl) ?_
        refine lv_iload_n hx hb dX12_foretold_41 rfl (lv_at hl 4 rfl) ?_
        refine lv_iadd hx hb dX12_foretold_42 ?_
        refine z_topi (v := a1) (Int32.zero_add _) ?_
        refine lv_icmp_ge (tgt := 126) hx hb dX12_foretold_43 (by decide) (fun c9 => ?_) (fun c9 => ?_)
        · refine lv_iconst (v := 0) hx hb dX12_foretold_126 (by decide) ?_
          refine lv_istore (lv' := [(6, .int 0), (4, .long 0), (3, .int 0), (0, .ref (ad 0)), (1, .int a1), (2, .int a2)]) hx hb dX12_foretold_127 hl (by decide) rfl (fun ls hl => ?_)
          refine lv_iconst (v := 0) hx hb dX12_foretold_129 (by decide) ?_
          refine lv_istore (lv' := [(7, .int 0), (6, .int 0), (4, .long 0), (3, .int 0), (0, .ref (ad 0)), (1, .int a1), (2, .int a2)]) hx hb dX12_foretold_130 hl (by decide) rfl (fun ls hl => ?_)
          refine lv_iload hx hb dX12_foretold_132 (lv_at hl 0 rfl) ?_
          refine lv_aload_n hx hb dX12_foretold_134 rfl (lv_at hl 4 rfl) ?_
          refine z_get (T := TX12) (N := 96) (ci := 12) (i := 0) (v := .int 0) hx hb hts zi_X12_foretold_X12 hown hK hW rfl rfl 75 (by decide) (hts (.fieldLink RX12 493 "PetrolBoardModel" "ports" "I") (List.mem_of_getElem? (i := 4) rfl)) (fun _ h => h) rfl dX12_foretold_135 ?_
          refine lv_icmp_ge (tgt := 159) hx hb dX12_foretold_138 (by decide) (fun c10 => ?_) (fun c10 => absurd (by decide) c10)
          refine lv_ldc2 (v := 100) hx hb hown (hts (.constantLong RX12 525 (100)) (List.mem_of_getElem? (i := 6) rfl)) dX12_foretold_159 ?_
          refine lv_iload hx hb dX12_foretold_162 (lv_at hl 1 rfl) ?_
          refine lv_i2l (v := 0) hx hb dX12_foretold_164 (by decide) ?_
          refine lv_lmul hx hb dX12_foretold_165 ?_
          refine z_topl (v := 0) (by decide) ?_
          refine lv_lload hx hb dX12_foretold_166 (lv_at hl 2 rfl) ?_
          refine lv_ldc2 (v := 9) hx hb hown (hts (.constantLong RX12 527 (9)) (List.mem_of_getElem? (i := 7) rfl)) dX12_foretold_168 ?_
          refine lv_ladd hx hb dX12_foretold_171 ?_
          refine z_topl (v := 9) (by decide) ?_
          refine lv_ldc2 (v := 10) hx hb hown (hts (.constantLong RX12 529 (10)) (List.mem_of_getElem? (i := 8) rfl)) dX12_foretold_172 ?_
          refine lv_ldiv hx hb dX12_foretold_175 (by decide) ?_
          refine z_topl (v := 0) (by decide) ?_
          refine lv_lsub hx hb dX12_foretold_176 ?_
          refine z_topl (v := 0) (by decide) ?_
          refine lv_lstore (lv' := [(7, .long 0), (6, .int 0), (4, .long 0), (3, .int 0), (0, .ref (ad 0)), (1, .int a1), (2, .int a2)]) hx hb dX12_foretold_177 hl (by decide) rfl (fun ls hl => ?_)
          refine lv_lload hx hb dX12_foretold_179 (lv_at hl 0 rfl) ?_
          refine lv_ldc2 (v := (-1999999999)) hx hb hown (hts (.constantLong RX12 531 (-1999999999)) (List.mem_of_getElem? (i := 9) rfl)) dX12_foretold_181 ?_
          refine W.lcmp hx hb dX12_foretold_184 ?_
          refine z_topi (v := 1) (by decide) ?_
          refine lv_if_ge (tgt := 194) hx hb dX12_foretold_185 (by decide) (fun c11 => ?_) (fun c11 => absurd (by decide) c11)
          refine lv_lload hx hb dX12_foretold_194 (lv_at hl 0 rfl) ?_
          refine lv_l2i (v := 0) hx hb dX12_foretold_196 (by decide) ?_
          exact z_iret hx hb hr hK hS (Nat.le_of_ble_eq_true rfl) (Nat.le_of_ble_eq_true rfl) hlocks dX12_foretold_197 (shM, ad, IM, JM, PM ad) hW (by unfold fr_foretold; split <;> first | rfl | decide | (rename_i q; exfalso; simp only [Int32.lt_iff_toInt_lt, Int32.le_iff_toInt_le, ← Int32.toInt_inj, z_l0, z_l1, z_l12, true_and, and_true] at q h1 h2 lp71 lp72 c9; omega))
        · refine lv_iconst (v := 0) hx hb dX12_foretold_46 (by decide) ?_
          refine lv_istore (lv' := [(7, .int 0), (6, .int y8), (4, .long 0), (3, .int 0), (0, .ref (ad 0)), (1, .int a1), (2, .int a2)]) hx hb dX12_foretold_47 hl (by decide) rfl (fun ls hl => ?_)
          refine lv_iload hx hb dX12_foretold_49 (lv_at hl 0 rfl) ?_
          refine lv_aload_n hx hb dX12_foretold_51 rfl (lv_at hl 4 rfl) ?_
          refine z_get (T := TX12) (N := 96) (ci := 12) (i := 0) (v := .int 0) hx hb hts zi_X12_foretold_X12 hown hK hW rfl rfl 1 (by decide) (hts (.fieldLink RX12 229 "PetrolBoardModel" "holders" "I") (List.mem_of_getElem? (i := 3) rfl)) (fun _ h => h) rfl dX12_foretold_52 ?_
          refine lv_icmp_ge (tgt := 120) hx hb dX12_foretold_55 (by decide) (fun c12 => ?_) (fun c12 => absurd (by decide) c12)
          obtain ⟨x13, ex13⟩ : ∃ y : Int32, y = y8 + 1 := ⟨_, rfl⟩
          refine lv_iinc (v := x13) (lv' := [(6, .int x13), (7, .int 0), (4, .long 0), (3, .int 0), (0, .ref (ad 0)), (1, .int a1), (2, .int a2)]) hx hb dX12_foretold_120 hl (k := 1) rfl (by rw [ex13]; rfl) (by decide) rfl (fun ls hl => ?_)
          refine lv_goto (tgt := 38) hx hb dX12_foretold_123 (by decide) ?_
          obtain ⟨z14a, z14b, z14c⟩ := z_step ex13 lp71 c9 lp73
          exact lp7ih x13 H locs ls z14a z14b z14c hW hS (lv_sub hl [0, 2, 3, 4, 5, 6] rfl)
    exact lp7 13 0 H locs ls (by decide) (by simp only [Int32.le_iff_toInt_le, z_l0, z_l1, z_l12] at h1 h2 ⊢; omega) (by simp only [Int32.le_iff_toInt_le, z_l0, z_l1, z_l12] at h1 h2 ⊢; omega) hW hS hl
  · refine lv_if_eq (tgt := 28) hx hb dX12_foretold_15 (by decide) (fun c15 => ?_) (fun c15 => absurd (by decide) c15)
    refine lv_ldcw (v := (-2000000000)) hx hb hown (hts (.constant RX12 482 (-2000000000)) (List.mem_of_getElem? (i := 2) rfl)) dX12_foretold_28 ?_
    exact z_iret hx hb hr hK hS (Nat.le_of_ble_eq_true rfl) (Nat.le_of_ble_eq_true rfl) hlocks dX12_foretold_31 (shM, ad, IM, JM, PM ad) hW (by unfold fr_foretold; split <;> first | rfl | decide | (rename_i q; exfalso; simp only [Int32.lt_iff_toInt_lt, Int32.le_iff_toInt_le, ← Int32.toInt_inj, z_l0, z_l1, z_l12, true_and, and_true] at q h3; omega))
theorem zi_X12_feed_X12 : ∀ w ∈ wsX120, w ∈ wsX12_feed := fun w h => (List.mem_cons_of_mem _ (List.mem_append_right _ h))
set_option maxHeartbeats 4000000 in
set_option maxRecDepth 100000 in
theorem ct_X12_feed (l : Launch) (G : z_G) (ad : Nat → Nat) (a1 : Int32) (a2 : Int32) (a3 : Int32) (a4 : Int32) (a5 : Int32) : z_M l yX12_feed wsX12_feed { frames := 1, cells := 0, slots := 0, locals := 12 } [.ref (ad 0), .int a1, .int a2, .int a3, .int a4, .int a5] G (shM, ad, IM, JM, PM ad) (fun r u1 => r = 20) 0 0 := by
  intro sz
  refine z_headQ (cc := cX12_feed) (maxL := 8) (ret := (some .int)) (by decide) rfl (Nat.le_of_ble_eq_true rfl) ?_
  intro p e s m below meth c ls hIn hK hsz hW hl
  obtain ⟨hx, hb, hr, hml, hown, hts, hlocks, hname⟩ := hIn
  subst hsz
  have hown : s.vm.findClass RX12 = some m.cls := hown
  have hA : ∀ q : Nat, s.heap.size ≤ q → z_A (shM, ad, IM, JM, PM ad) s.heap.size q := fun q h => Or.inr h
  generalize hAe : z_A (shM, ad, IM, JM, PM ad) s.heap.size = A at *
  have hS : va_S A s.heap s.heap [] := va_S.rf
  have hl : lv_has ls 8 [(0, .ref (ad 0)), (1, .int a1), (2, .int a2), (3, .int a3), (4, .int a4), (5, .int a5)] := hl
  refine lv_aload_n hx hb dX12_feed_0 rfl (lv_at hl 0 rfl) ?_
  refine z_get (T := TX12) (N := 96) (ci := 12) (i := 0) (v := .int 0) hx hb hts zi_X12_feed_X12 hown hK hW rfl rfl 31 (by decide) (hts (.fieldLink RX12 253 "PetrolBoardModel" "taped" "I") (List.mem_of_getElem? (i := 1) rfl)) (fun _ h => h) rfl dX12_feed_1 ?_
  refine lv_bipush (v := 20) hx hb dX12_feed_4 (by decide) ?_
  refine lv_iadd hx hb dX12_feed_6 ?_
  refine z_topi (v := 20) (by decide) ?_
  refine lv_sipush (v := 500) hx hb dX12_feed_7 (by decide) ?_
  refine lv_icmp_le (tgt := 15) hx hb dX12_feed_10 (by decide) (fun c1 => ?_) (fun c1 => absurd (by decide) c1)
  refine lv_iconst (v := 0) hx hb dX12_feed_15 (by decide) ?_
  refine lv_istore (lv' := [(6, .int 0), (0, .ref (ad 0)), (1, .int a1), (2, .int a2), (3, .int a3), (4, .int a4), (5, .int a5)]) hx hb dX12_feed_16 hl (by decide) rfl (fun ls hl => ?_)
  refine lv_iload hx hb dX12_feed_18 (lv_at hl 0 rfl) ?_
  refine lv_bipush (v := 20) hx hb dX12_feed_20 (by decide) ?_
  refine lv_icmp_ge (tgt := 112) hx hb dX12_feed_22 (by decide) (fun c2 => absurd c2 (by decide)) (fun c2 => ?_)
  refine lv_iload hx hb dX12_feed_25 (lv_at hl 0 rfl) ?_
  refine lv_iconst (v := 4) hx hb dX12_feed_27 (by decide) ?_
  refine lv_icmp_ge (tgt := 35) hx hb dX12_feed_28 (by decide) (fun c3 => absurd c3 (by decide)) (fun c3 => ?_)
  refine lv_iload_n hx hb dX12_feed_31 rfl (lv_at hl 2 rfl) ?_
  refine lv_goto (tgt := 71) hx hb dX12_feed_32 (by decide) ?_
  refine lv_istore (lv' := [(7, .int a1), (6, .int 0), (0, .ref (ad 0)), (1, .int a1), (2, .int a2), (3, .int a3), (4, .int a4), (5, .int a5)]) hx hb dX12_feed_71 hl (by decide) rfl (fun ls hl => ?_)
  refine lv_aload_n hx hb dX12_feed_73 rfl (lv_at hl 2 rfl) ?_
  refine z_get (T := TX12) (N := 96) (ci := 12) (i := 0) (v := .ref (ad 25)) hx hb hts zi_X12_feed_X12 hown hK hW rfl rfl 30 (by decide) (hts (.fieldLink RX12 83 "PetrolBoardModel" "tape" "[B") (List.mem_of_getElem? (i := 2) rfl)) (fun _ h => h) rfl dX12_feed_74 ?_
  refine lv_aload_n hx hb dX12_feed_77 rfl (lv_at hl 2 rfl) ?_
  refine z_get (T := TX12) (N := 96) (ci := 12) (i := 0) (v := .int 0) hx hb hts zi_X12_feed_X12 hown hK hW rfl rfl 31 (by decide) (hts (.fieldLink RX12 253 "PetrolBoardModel" "taped" "I") (List.mem_of_getElem? (i := 1) rfl)) (fun _ h => h) rfl dX12_feed_78 ?_
  refine lv_iload hx hb dX12_feed_81 (lv_at hl 0 rfl) ?_
  refine lv_bipush (v := 24) hx hb dX12_feed_83 (by decide) ?_
  refine lv_bipush (v := 8) hx hb dX12_feed_85 (by decide) ?_
  refine lv_iload hx hb dX12_feed_87 (lv_at hl 1 rfl) ?_
  refine lv_iconst (v := 4) hx hb dX12_feed_89 (by decide) ?_
  refine lv_irem hx hb dX12_feed_90 (by decide) ?_
  refine z_topi (v := 0) (by decide) ?_
  refine lv_imul hx hb dX12_feed_91 ?_
  refine z_topi (v := 0) (by decide) ?_
  refine lv_isub hx hb dX12_feed_92 ?_
  refine z_topi (v := 24) (by decide) ?_
  refine lv_ishr hx hb dX12_feed_93 ?_
  refine lv_topi (fun x4 ex4 => ?_)
  refine lv_i2b hx hb dX12_feed_94 rfl ?_
  refine lv_topi (fun x5 ex5 => ?_)
  refine z_bast (i := 25) hx hb hK hW hS rfl (z_inl (by decide)) dX12_feed_95 (fun H locs hz1 hW hS => ?_)
  refine lv_aload_n hx hb dX12_feed_96 rfl (lv_at hl 2 rfl) ?_
  refine lv_dup hx hb dX12_feed_97 rfl ?_
  refine z_get (T := TX12) (N := 96) (ci := 12) (i := 0) (v := .int 0) hx hb hts zi_X12_feed_X12 hown hK hW rfl rfl 31 (by decide) (hts (.fieldLink RX12 253 "PetrolBoardModel" "taped" "I") (List.mem_of_getElem? (i := 1) rfl)) (fun _ h => h) rfl dX12_feed_98 ?_
  refine lv_iconst (v := 1) hx hb dX12_feed_101 (by decide) ?_
  refine lv_iadd hx hb dX12_feed_102 ?_
  refine z_topi (v := 1) (by decide) ?_
  refine z_put (T := TX12) (N := 96) (ci := 12) (i := 0) (v := .int 1) (I1 := (z_up (z_up IM 25 (0 : Int32).toNatClampNeg (vp_nar .byte x5)) 0 31 1)) (J1 := JM) (P1 := PM ad) hx hb hts zi_X12_feed_X12 tyX12 tyX12_ok nmX12 hown hK hW hS rfl rfl 31 (by decide) (hts (.fieldLink RX12 253 "PetrolBoardModel" "taped" "I") (List.mem_of_getElem? (i := 1) rfl)) (fun _ h => h) rfl rfl rfl (by first | rfl | exact congrArg _ z_up_s) (fun a b h ty => z_vI h ty) dX12_feed_103 (fun H locs hz1 hW hS => ?_)
  refine lv_iinc (v := 1) (lv' := [(6, .int 1), (7, .int a1), (0, .ref (ad 0)), (1, .int a1), (2, .int a2), (3, .int a3), (4, .int a4), (5, .int a5)]) hx hb dX12_feed_106 hl (k := 1) rfl (by decide) (by decide) rfl (fun ls hl => ?_)
  refine lv_goto (tgt := 18) hx hb dX12_feed_109 (by decide) ?_
  refine lv_iload hx hb dX12_feed_18 (lv_at hl 0 rfl) ?_
  refine lv_bipush (v := 20) hx hb dX12_feed_20 (by decide) ?_
  refine lv_icmp_ge (tgt := 112) hx hb dX12_feed_22 (by decide) (fun c6 => absurd c6 (by decide)) (fun c6 => ?_)
  refine lv_iload hx hb dX12_feed_25 (lv_at hl 0 rfl) ?_
  refine lv_iconst (v := 4) hx hb dX12_feed_27 (by decide) ?_
  refine lv_icmp_ge (tgt := 35) hx hb dX12_feed_28 (by decide) (fun c7 => absurd c7 (by decide)) (fun c7 => ?_)
  refine lv_iload_n hx hb dX12_feed_31 rfl (lv_at hl 3 rfl) ?_
  refine lv_goto (tgt := 71) hx hb dX12_feed_32 (by decide) ?_
  refine lv_istore (lv' := [(7, .int a1), (6, .int 1), (0, .ref (ad 0)), (1, .int a1), (2, .int a2), (3, .int a3), (4, .int a4), (5, .int a5)]) hx hb dX12_feed_71 hl (by decide) rfl (fun ls hl => ?_)
  refine lv_aload_n hx hb dX12_feed_73 rfl (lv_at hl 2 rfl) ?_
  refine z_get (T := TX12) (N := 96) (ci := 12) (i := 0) (v := .ref (ad 25)) hx hb hts zi_X12_feed_X12 hown hK hW rfl rfl 30 (by decide) (hts (.fieldLink RX12 83 "PetrolBoardModel" "tape" "[B") (List.mem_of_getElem? (i := 2) rfl)) (fun _ h => h) rfl dX12_feed_74 ?_
  refine lv_aload_n hx hb dX12_feed_77 rfl (lv_at hl 2 rfl) ?_
  refine z_get (T := TX12) (N := 96) (ci := 12) (i := 0) (v := .int 1) hx hb hts zi_X12_feed_X12 hown hK hW rfl rfl 31 (by decide) (hts (.fieldLink RX12 253 "PetrolBoardModel" "taped" "I") (List.mem_of_getElem? (i := 1) rfl)) (fun _ h => h) rfl dX12_feed_78 ?_
  refine lv_iload hx hb dX12_feed_81 (lv_at hl 0 rfl) ?_
  refine lv_bipush (v := 24) hx hb dX12_feed_83 (by decide) ?_
  refine lv_bipush (v := 8) hx hb dX12_feed_85 (by decide) ?_
  refine lv_iload hx hb dX12_feed_87 (lv_at hl 1 rfl) ?_
  refine lv_iconst (v := 4) hx hb dX12_feed_89 (by decide) ?_
  refine lv_irem hx hb dX12_feed_90 (by decide) ?_
  refine z_topi (v := 1) (by decide) ?_
  refine lv_imul hx hb dX12_feed_91 ?_
  refine z_topi (v := 8) (by decide) ?_
  refine lv_isub hx hb dX12_feed_92 ?_
  refine z_topi (v := 16) (by decide) ?_
  refine lv_ishr hx hb dX12_feed_93 ?_
  refine lv_topi (fun x8 ex8 => ?_)
  refine lv_i2b hx hb dX12_feed_94 rfl ?_
  refine lv_topi (fun x9 ex9 => ?_)
  refine z_bast (i := 25) hx hb hK hW hS rfl (z_inl (by decide)) dX12_feed_95 (fun H locs hz1 hW hS => ?_)
  refine lv_aload_n hx hb dX12_feed_96 rfl (lv_at hl 2 rfl) ?_
  refine lv_dup hx hb dX12_feed_97 rfl ?_
  refine z_get (T := TX12) (N := 96) (ci := 12) (i := 0) (v := .int 1) hx hb hts zi_X12_feed_X12 hown hK hW rfl rfl 31 (by decide) (hts (.fieldLink RX12 253 "PetrolBoardModel" "taped" "I") (List.mem_of_getElem? (i := 1) rfl)) (fun _ h => h) rfl dX12_feed_98 ?_
  refine lv_iconst (v := 1) hx hb dX12_feed_101 (by decide) ?_
  refine lv_iadd hx hb dX12_feed_102 ?_
  refine z_topi (v := 2) (by decide) ?_
  refine z_put (T := TX12) (N := 96) (ci := 12) (i := 0) (v := .int 2) (I1 := (z_up (z_up (z_up (z_up IM 25 (0 : Int32).toNatClampNeg (vp_nar .byte x5)) 0 31 1) 25 (1 : Int32).toNatClampNeg (vp_nar .byte x9)) 0 31 2)) (J1 := JM) (P1 := PM ad) hx hb hts zi_X12_feed_X12 tyX12 tyX12_ok nmX12 hown hK hW hS rfl rfl 31 (by decide) (hts (.fieldLink RX12 253 "PetrolBoardModel" "taped" "I") (List.mem_of_getElem? (i := 1) rfl)) (fun _ h => h) rfl rfl rfl (by first | rfl | exact congrArg _ z_up_s) (fun a b h ty => z_vI h ty) dX12_feed_103 (fun H locs hz1 hW hS => ?_)
  refine lv_iinc (v := 2) (lv' := [(6, .int 2), (7, .int a1), (0, .ref (ad 0)), (1, .int a1), (2, .int a2), (3, .int a3), (4, .int a4), (5, .int a5)]) hx hb dX12_feed_106 hl (k := 1) rfl (by decide) (by decide) rfl (fun ls hl => ?_)
  refine lv_goto (tgt := 18) hx hb dX12_feed_109 (by decide) ?_
  refine lv_iload hx hb dX12_feed_18 (lv_at hl 0 rfl) ?_
  refine lv_bipush (v := 20) hx hb dX12_feed_20 (by decide) ?_
  refine lv_icmp_ge (tgt := 112) hx hb dX12_feed_22 (by decide) (fun c10 => absurd c10 (by decide)) (fun c10 => ?_)
  refine lv_iload hx hb dX12_feed_25 (lv_at hl 0 rfl) ?_
  refine lv_iconst (v := 4) hx hb dX12_feed_27 (by decide) ?_
  refine lv_icmp_ge (tgt := 35) hx hb dX12_feed_28 (by decide) (fun c11 => absurd c11 (by decide)) (fun c11 => ?_)
  refine lv_iload_n hx hb dX12_feed_31 rfl (lv_at hl 3 rfl) ?_
  refine lv_goto (tgt := 71) hx hb dX12_feed_32 (by decide) ?_
  refine lv_istore (lv' := [(7, .int a1), (6, .int 2), (0, .ref (ad 0)), (1, .int a1), (2, .int a2), (3, .int a3), (4, .int a4), (5, .int a5)]) hx hb dX12_feed_71 hl (by decide) rfl (fun ls hl => ?_)
  refine lv_aload_n hx hb dX12_feed_73 rfl (lv_at hl 2 rfl) ?_
  refine z_get (T := TX12) (N := 96) (ci := 12) (i := 0) (v := .ref (ad 25)) hx hb hts zi_X12_feed_X12 hown hK hW rfl rfl 30 (by decide) (hts (.fieldLink RX12 83 "PetrolBoardModel" "tape" "[B") (List.mem_of_getElem? (i := 2) rfl)) (fun _ h => h) rfl dX12_feed_74 ?_
  refine lv_aload_n hx hb dX12_feed_77 rfl (lv_at hl 2 rfl) ?_
  refine z_get (T := TX12) (N := 96) (ci := 12) (i := 0) (v := .int 2) hx hb hts zi_X12_feed_X12 hown hK hW rfl rfl 31 (by decide) (hts (.fieldLink RX12 253 "PetrolBoardModel" "taped" "I") (List.mem_of_getElem? (i := 1) rfl)) (fun _ h => h) rfl dX12_feed_78 ?_
  refine lv_iload hx hb dX12_feed_81 (lv_at hl 0 rfl) ?_
  refine lv_bipush (v := 24) hx hb dX12_feed_83 (by decide) ?_
  refine lv_bipush (v := 8) hx hb dX12_feed_85 (by decide) ?_
  refine lv_iload hx hb dX12_feed_87 (lv_at hl 1 rfl) ?_
  refine lv_iconst (v := 4) hx hb dX12_feed_89 (by decide) ?_
  refine lv_irem hx hb dX12_feed_90 (by decide) ?_
  refine z_topi (v := 2) (by decide) ?_
  refine lv_imul hx hb dX12_feed_91 ?_
  refine z_topi (v := 16) (by decide) ?_
  refine lv_isub hx hb dX12_feed_92 ?_
  refine z_topi (v := 8) (by decide) ?_
  refine lv_ishr hx hb dX12_feed_93 ?_
  refine lv_topi (fun x12 ex12 => ?_)
  refine lv_i2b hx hb dX12_feed_94 rfl ?_
  refine lv_topi (fun x13 ex13 => ?_)
  refine z_bast (i := 25) hx hb hK hW hS rfl (z_inl (by decide)) dX12_feed_95 (fun H locs hz1 hW hS => ?_)
  refine lv_aload_n hx hb dX12_feed_96 rfl (lv_at hl 2 rfl) ?_
  refine lv_dup hx hb dX12_feed_97 rfl ?_
  refine z_get (T := TX12) (N := 96) (ci := 12) (i := 0) (v := .int 2) hx hb hts zi_X12_feed_X12 hown hK hW rfl rfl 31 (by decide) (hts (.fieldLink RX12 253 "PetrolBoardModel" "taped" "I") (List.mem_of_getElem? (i := 1) rfl)) (fun _ h => h) rfl dX12_feed_98 ?_
  refine lv_iconst (v := 1) hx hb dX12_feed_101 (by decide) ?_
  refine lv_iadd hx hb dX12_feed_102 ?_
  refine z_topi (v := 3) (by decide) ?_
  refine z_put (T := TX12) (N := 96) (ci := 12) (i := 0) (v := .int 3) (I1 := (z_up (z_up (z_up (z_up (z_up (z_up IM 25 (0 : Int32).toNatClampNeg (vp_nar .byte x5)) 0 31 1) 25 (1 : Int32).toNatClampNeg (vp_nar .byte x9)) 0 31 2) 25 (2 : Int32).toNatClampNeg (vp_nar .byte x13)) 0 31 3)) (J1 := JM) (P1 := PM ad) hx hb hts zi_X12_feed_X12 tyX12 tyX12_ok nmX12 hown hK hW hS rfl rfl 31 (by decide) (hts (.fieldLink RX12 253 "PetrolBoardModel" "taped" "I") (List.mem_of_getElem? (i := 1) rfl)) (fun _ h => h) rfl rfl rfl (by first | rfl | exact congrArg _ z_up_s) (fun a b h ty => z_vI h ty) dX12_feed_103 (fun H locs hz1 hW hS => ?_)
  refine lv_iinc (v := 3) (lv' := [(6, .int 3), (7, .int a1), (0, .ref (ad 0)), (1, .int a1), (2, .int a2), (3, .int a3), (4, .int a4), (5, .int a5)]) hx hb dX12_feed_106 hl (k := 1) rfl (by decide) (by decide) rfl (fun ls hl => ?_)
  refine lv_goto (tgt := 18) hx hb dX12_feed_109 (by decide) ?_
  refine lv_iload hx hb dX12_feed_18 (lv_at hl 0 rfl) ?_
  refine lv_bipush (v := 20) hx hb dX12_feed_20 (by decide) ?_
  refine lv_icmp_ge (tgt := 112) hx hb dX12_feed_22 (by decide) (fun c14 => absurd c14 (by decide)) (fun c14 => ?_)
  refine lv_iload hx hb dX12_feed_25 (lv_at hl 0 rfl) ?_
  refine lv_iconst (v := 4) hx hb dX12_feed_27 (by decide) ?_
  refine lv_icmp_ge (tgt := 35) hx hb dX12_feed_28 (by decide) (fun c15 => absurd c15 (by decide)) (fun c15 => ?_)
  refine lv_iload_n hx hb dX12_feed_31 rfl (lv_at hl 3 rfl) ?_
  refine lv_goto (tgt := 71) hx hb dX12_feed_32 (by decide) ?_
  refine lv_istore (lv' := [(7, .int a1), (6, .int 3), (0, .ref (ad 0)), (1, .int a1), (2, .int a2), (3, .int a3), (4, .int a4), (5, .int a5)]) hx hb dX12_feed_71 hl (by decide) rfl (fun ls hl => ?_)
  refine lv_aload_n hx hb dX12_feed_73 rfl (lv_at hl 2 rfl) ?_
  refine z_get (T := TX12) (N := 96) (ci := 12) (i := 0) (v := .ref (ad 25)) hx hb hts zi_X12_feed_X12 hown hK hW rfl rfl 30 (by decide) (hts (.fieldLink RX12 83 "PetrolBoardModel" "tape" "[B") (List.mem_of_getElem? (i := 2) rfl)) (fun _ h => h) rfl dX12_feed_74 ?_
  refine lv_aload_n hx hb dX12_feed_77 rfl (lv_at hl 2 rfl) ?_
  refine z_get (T := TX12) (N := 96) (ci := 12) (i := 0) (v := .int 3) hx hb hts zi_X12_feed_X12 hown hK hW rfl rfl 31 (by decide) (hts (.fieldLink RX12 253 "PetrolBoardModel" "taped" "I") (List.mem_of_getElem? (i := 1) rfl)) (fun _ h => h) rfl dX12_feed_78 ?_
  refine lv_iload hx hb dX12_feed_81 (lv_at hl 0 rfl) ?_
  refine lv_bipush (v := 24) hx hb dX12_feed_83 (by decide) ?_
  refine lv_bipush (v := 8) hx hb dX12_feed_85 (by decide) ?_
  refine lv_iload hx hb dX12_feed_87 (lv_at hl 1 rfl) ?_
  refine lv_iconst (v := 4) hx hb dX12_feed_89 (by decide) ?_
  refine lv_irem hx hb dX12_feed_90 (by decide) ?_
  refine z_topi (v := 3) (by decide) ?_
  refine lv_imul hx hb dX12_feed_91 ?_
  refine z_topi (v := 24) (by decide) ?_
  refine lv_isub hx hb dX12_feed_92 ?_
  refine z_topi (v := 0) (by decide) ?_
  refine lv_ishr hx hb dX12_feed_93 ?_
  refine lv_topi (fun x16 ex16 => ?_)
  refine lv_i2b hx hb dX12_feed_94 rfl ?_
  refine lv_topi (fun x17 ex17 => ?_)
  refine z_bast (i := 25) hx hb hK hW hS rfl (z_inl (by decide)) dX12_feed_95 (fun H locs hz1 hW hS => ?_)
  refine lv_aload_n hx hb dX12_feed_96 rfl (lv_at hl 2 rfl) ?_
  refine lv_dup hx hb dX12_feed_97 rfl ?_
  refine z_get (T := TX12) (N := 96) (ci := 12) (i := 0) (v := .int 3) hx hb hts zi_X12_feed_X12 hown hK hW rfl rfl 31 (by decide) (hts (.fieldLink RX12 253 "PetrolBoardModel" "taped" "I") (List.mem_of_getElem? (i := 1) rfl)) (fun _ h => h) rfl dX12_feed_98 ?_
  refine lv_iconst (v := 1) hx hb dX12_feed_101 (by decide) ?_
  refine lv_iadd hx hb dX12_feed_102 ?_
  refine z_topi (v := 4) (by decide) ?_
  refine z_put (T := TX12) (N := 96) (ci := 12) (i := 0) (v := .int 4) (I1 := (z_up (z_up (z_up (z_up (z_up (z_up (z_up (z_up IM 25 (0 : Int32).toNatClampNeg (vp_nar .byte x5)) 0 31 1) 25 (1 : Int32).toNatClampNeg (vp_nar .byte x9)) 0 31 2) 25 (2 : Int32).toNatClampNeg (vp_nar .byte x13)) 0 31 3) 25 (3 : Int32).toNatClampNeg (vp_nar .byte x17)) 0 31 4)) (J1 := JM) (P1 := PM ad) hx hb hts zi_X12_feed_X12 tyX12 tyX12_ok nmX12 hown hK hW hS rfl rfl 31 (by decide) (hts (.fieldLink RX12 253 "PetrolBoardModel" "taped" "I") (List.mem_of_getElem? (i := 1) rfl)) (fun _ h => h) rfl rfl rfl (by first | rfl | exact congrArg _ z_up_s) (fun a b h ty => z_vI h ty) dX12_feed_103 (fun H locs hz1 hW hS => ?_)
  refine lv_iinc (v := 4) (lv' := [(6, .int 4), (7, .int a1), (0, .ref (ad 0)), (1, .int a1), (2, .int a2), (3, .int a3), (4, .int a4), (5, .int a5)]) hx hb dX12_feed_106 hl (k := 1) rfl (by decide) (by decide) rfl (fun ls hl => ?_)
  refine lv_goto (tgt := 18) hx hb dX12_feed_109 (by decide) ?_
  refine lv_iload hx hb dX12_feed_18 (lv_at hl 0 rfl) ?_
  refine lv_bipush (v := 20) hx hb dX12_feed_20 (by decide) ?_
  refine lv_icmp_ge (tgt := 112) hx hb dX12_feed_22 (by decide) (fun c18 => absurd c18 (by decide)) (fun c18 => ?_)
  refine lv_iload hx hb dX12_feed_25 (lv_at hl 0 rfl) ?_
  refine lv_iconst (v := 4) hx hb dX12_feed_27 (by decide) ?_
  refine lv_icmp_ge (tgt := 35) hx hb dX12_feed_28 (by decide) (fun c19 => ?_) (fun c19 => absurd (by decide) c19)
  refine lv_iload hx hb dX12_feed_35 (lv_at hl 0 rfl) ?_
  refine lv_bipush (v := 8) hx hb dX12_feed_37 (by decide) ?_
  refine lv_icmp_ge (tgt := 46) hx hb dX12_feed_39 (by decide) (fun c20 => absurd c20 (by decide)) (fun c20 => ?_)
  refine lv_iload_n hx hb dX12_feed_42 rfl (lv_at hl 4 rfl) ?_
  refine lv_goto (tgt := 71) hx hb dX12_feed_43 (by decide) ?_
  refine lv_istore (lv' := [(7, .int a2), (6, .int 4), (0, .ref (ad 0)), (1, .int a1), (2, .int a2), (3, .int a3), (4, .int a4), (5, .int a5)]) hx hb dX12_feed_71 hl (by decide) rfl (fun ls hl => ?_)
  refine lv_aload_n hx hb dX12_feed_73 rfl (lv_at hl 2 rfl) ?_
  refine z_get (T := TX12) (N := 96) (ci := 12) (i := 0) (v := .ref (ad 25)) hx hb hts zi_X12_feed_X12 hown hK hW rfl rfl 30 (by decide) (hts (.fieldLink RX12 83 "PetrolBoardModel" "tape" "[B") (List.mem_of_getElem? (i := 2) rfl)) (fun _ h => h) rfl dX12_feed_74 ?_
  refine lv_aload_n hx hb dX12_feed_77 rfl (lv_at hl 2 rfl) ?_
  refine z_get (T := TX12) (N := 96) (ci := 12) (i := 0) (v := .int 4) hx hb hts zi_X12_feed_X12 hown hK hW rfl rfl 31 (by decide) (hts (.fieldLink RX12 253 "PetrolBoardModel" "taped" "I") (List.mem_of_getElem? (i := 1) rfl)) (fun _ h => h) rfl dX12_feed_78 ?_
  refine lv_iload hx hb dX12_feed_81 (lv_at hl 0 rfl) ?_
  refine lv_bipush (v := 24) hx hb dX12_feed_83 (by decide) ?_
  refine lv_bipush (v := 8) hx hb dX12_feed_85 (by decide) ?_
  refine lv_iload hx hb dX12_feed_87 (lv_at hl 1 rfl) ?_
  refine lv_iconst (v := 4) hx hb dX12_feed_89 (by decide) ?_
  refine lv_irem hx hb dX12_feed_90 (by decide) ?_
  refine z_topi (v := 0) (by decide) ?_
  refine lv_imul hx hb dX12_feed_91 ?_
  refine z_topi (v := 0) (by decide) ?_
  refine lv_isub hx hb dX12_feed_92 ?_
  refine z_topi (v := 24) (by decide) ?_
  refine lv_ishr hx hb dX12_feed_93 ?_
  refine lv_topi (fun x21 ex21 => ?_)
  refine lv_i2b hx hb dX12_feed_94 rfl ?_
  refine lv_topi (fun x22 ex22 => ?_)
  refine z_bast (i := 25) hx hb hK hW hS rfl (z_inl (by decide)) dX12_feed_95 (fun H locs hz1 hW hS => ?_)
  refine lv_aload_n hx hb dX12_feed_96 rfl (lv_at hl 2 rfl) ?_
  refine lv_dup hx hb dX12_feed_97 rfl ?_
  refine z_get (T := TX12) (N := 96) (ci := 12) (i := 0) (v := .int 4) hx hb hts zi_X12_feed_X12 hown hK hW rfl rfl 31 (by decide) (hts (.fieldLink RX12 253 "PetrolBoardModel" "taped" "I") (List.mem_of_getElem? (i := 1) rfl)) (fun _ h => h) rfl dX12_feed_98 ?_
  refine lv_iconst (v := 1) hx hb dX12_feed_101 (by decide) ?_
  refine lv_iadd hx hb dX12_feed_102 ?_
  refine z_topi (v := 5) (by decide) ?_
  refine z_put (T := TX12) (N := 96) (ci := 12) (i := 0) (v := .int 5) (I1 := (z_up (z_up (z_up (z_up (z_up (z_up (z_up (z_up (z_up (z_up IM 25 (0 : Int32).toNatClampNeg (vp_nar .byte x5)) 0 31 1) 25 (1 : Int32).toNatClampNeg (vp_nar .byte x9)) 0 31 2) 25 (2 : Int32).toNatClampNeg (vp_nar .byte x13)) 0 31 3) 25 (3 : Int32).toNatClampNeg (vp_nar .byte x17)) 0 31 4) 25 (4 : Int32).toNatClampNeg (vp_nar .byte x22)) 0 31 5)) (J1 := JM) (P1 := PM ad) hx hb hts zi_X12_feed_X12 tyX12 tyX12_ok nmX12 hown hK hW hS rfl rfl 31 (by decide) (hts (.fieldLink RX12 253 "PetrolBoardModel" "taped" "I") (List.mem_of_getElem? (i := 1) rfl)) (fun _ h => h) rfl rfl rfl (by first | rfl | exact congrArg _ z_up_s) (fun a b h ty => z_vI h ty) dX12_feed_103 (fun H locs hz1 hW hS => ?_)
  refine lv_iinc (v := 5) (lv' := [(6, .int 5), (7, .int a2), (0, .ref (ad 0)), (1, .int a1), (2, .int a2), (3, .int a3), (4, .int a4), (5, .int a5)]) hx hb dX12_feed_106 hl (k := 1) rfl (by decide) (by decide) rfl (fun ls hl => ?_)
  refine lv_goto (tgt := 18) hx hb dX12_feed_109 (by decide) ?_
  refine lv_iload hx hb dX12_feed_18 (lv_at hl 0 rfl) ?_
  refine lv_bipush (v := 20) hx hb dX12_feed_20 (by decide) ?_
  refine lv_icmp_ge (tgt := 112) hx hb dX12_feed_22 (by decide) (fun c23 => absurd c23 (by decide)) (fun c23 => ?_)
  refine lv_iload hx hb dX12_feed_25 (lv_at hl 0 rfl) ?_
  refine lv_iconst (v := 4) hx hb dX12_feed_27 (by decide) ?_
  refine lv_icmp_ge (tgt := 35) hx hb dX12_feed_28 (by decide) (fun c24 => ?_) (fun c24 => absurd (by decide) c24)
  refine lv_iload hx hb dX12_feed_35 (lv_at hl 0 rfl) ?_
  refine lv_bipush (v := 8) hx hb dX12_feed_37 (by decide) ?_
  refine lv_icmp_ge (tgt := 46) hx hb dX12_feed_39 (by decide) (fun c25 => absurd c25 (by decide)) (fun c25 => ?_)
  refine lv_iload_n hx hb dX12_feed_42 rfl (lv_at hl 4 rfl) ?_
  refine lv_goto (tgt := 71) hx hb dX12_feed_43 (by decide) ?_
  refine lv_istore (lv' := [(7, .int a2), (6, .int 5), (0, .ref (ad 0)), (1, .int a1), (2, .int a2), (3, .int a3), (4, .int a4), (5, .int a5)]) hx hb dX12_feed_71 hl (by decide) rfl (fun ls hl => ?_)
  refine lv_aload_n hx hb dX12_feed_73 rfl (lv_at hl 2 rfl) ?_
  refine z_get (T := TX12) (N := 96) (ci := 12) (i := 0) (v := .ref (ad 25)) hx hb hts zi_X12_feed_X12 hown hK hW rfl rfl 30 (by decide) (hts (.fieldLink RX12 83 "PetrolBoardModel" "tape" "[B") (List.mem_of_getElem? (i := 2) rfl)) (fun _ h => h) rfl dX12_feed_74 ?_
  refine lv_aload_n hx hb dX12_feed_77 rfl (lv_at hl 2 rfl) ?_
  refine z_get (T := TX12) (N := 96) (ci := 12) (i := 0) (v := .int 5) hx hb hts zi_X12_feed_X12 hown hK hW rfl rfl 31 (by decide) (hts (.fieldLink RX12 253 "PetrolBoardModel" "taped" "I") (List.mem_of_getElem? (i := 1) rfl)) (fun _ h => h) rfl dX12_feed_78 ?_
  refine lv_iload hx hb dX12_feed_81 (lv_at hl 0 rfl) ?_
  refine lv_bipush (v := 24) hx hb dX12_feed_83 (by decide) ?_
  refine lv_bipush (v := 8) hx hb dX12_feed_85 (by decide) ?_
  refine lv_iload hx hb dX12_feed_87 (lv_at hl 1 rfl) ?_
  refine lv_iconst (v := 4) hx hb dX12_feed_89 (by decide) ?_
  refine lv_irem hx hb dX12_feed_90 (by decide) ?_
  refine z_topi (v := 1) (by decide) ?_
  refine lv_imul hx hb dX12_feed_91 ?_
  refine z_topi (v := 8) (by decide) ?_
  refine lv_isub hx hb dX12_feed_92 ?_
  refine z_topi (v := 16) (by decide) ?_
  refine lv_ishr hx hb dX12_feed_93 ?_
  refine lv_topi (fun x26 ex26 => ?_)
  refine lv_i2b hx hb dX12_feed_94 rfl ?_
  refine lv_topi (fun x27 ex27 => ?_)
  refine z_bast (i := 25) hx hb hK hW hS rfl (z_inl (by decide)) dX12_feed_95 (fun H locs hz1 hW hS => ?_)
  refine lv_aload_n hx hb dX12_feed_96 rfl (lv_at hl 2 rfl) ?_
  refine lv_dup hx hb dX12_feed_97 rfl ?_
  refine z_get (T := TX12) (N := 96) (ci := 12) (i := 0) (v := .int 5) hx hb hts zi_X12_feed_X12 hown hK hW rfl rfl 31 (by decide) (hts (.fieldLink RX12 253 "PetrolBoardModel" "taped" "I") (List.mem_of_getElem? (i := 1) rfl)) (fun _ h => h) rfl dX12_feed_98 ?_
  refine lv_iconst (v := 1) hx hb dX12_feed_101 (by decide) ?_
  refine lv_iadd hx hb dX12_feed_102 ?_
  refine z_topi (v := 6) (by decide) ?_
  refine z_put (T := TX12) (N := 96) (ci := 12) (i := 0) (v := .int 6) (I1 := (z_up (z_up (z_up (z_up (z_up (z_up (z_up (z_up (z_up (z_up (z_up (z_up IM 25 (0 : Int32).toNatClampNeg (vp_nar .byte x5)) 0 31 1) 25 (1 : Int32).toNatClampNeg (vp_nar .byte x9)) 0 31 2) 25 (2 : Int32).toNatClampNeg (vp_nar .byte x13)) 0 31 3) 25 (3 : Int32).toNatClampNeg (vp_nar .byte x17)) 0 31 4) 25 (4 : Int32).toNatClampNeg (vp_nar .byte x22)) 0 31 5) 25 (5 : Int32).toNatClampNeg (vp_nar .byte x27)) 0 31 6)) (J1 := JM) (P1 := PM ad) hx hb hts zi_X12_feed_X12 tyX12 tyX12_ok nmX12 hown hK hW hS rfl rfl 31 (by decide) (hts (.fieldLink RX12 253 "PetrolBoardModel" "taped" "I") (List.mem_of_getElem? (i := 1) rfl)) (fun _ h => h) rfl rfl rfl (by first | rfl | exact congrArg _ z_up_s) (fun a b h ty => z_vI h ty) dX12_feed_103 (fun H locs hz1 hW hS => ?_)
  refine lv_iinc (v := 6) (lv' := [(6, .int 6), (7, .int a2), (0, .ref (ad 0)), (1, .int a1), (2, .int a2), (3, .int a3), (4, .int a4), (5, .int a5)]) hx hb dX12_feed_106 hl (k := 1) rfl (by decide) (by decide) rfl (fun ls hl => ?_)
  refine lv_goto (tgt := 18) hx hb dX12_feed_109 (by decide) ?_
  refine lv_iload hx hb dX12_feed_18 (lv_at hl 0 rfl) ?_
  refine lv_bipush (v := 20) hx hb dX12_feed_20 (by decide) ?_
  refine lv_icmp_ge (tgt := 112) hx hb dX12_feed_22 (by decide) (fun c28 => absurd c28 (by decide)) (fun c28 => ?_)
  refine lv_iload hx hb dX12_feed_25 (lv_at hl 0 rfl) ?_
  refine lv_iconst (v := 4) hx hb dX12_feed_27 (by decide) ?_
  refine lv_icmp_ge (tgt := 35) hx hb dX12_feed_28 (by decide) (fun c29 => ?_) (fun c29 => absurd (by decide) c29)
  refine lv_iload hx hb dX12_feed_35 (lv_at hl 0 rfl) ?_
  refine lv_bipush (v := 8) hx hb dX12_feed_37 (by decide) ?_
  refine lv_icmp_ge (tgt := 46) hx hb dX12_feed_39 (by decide) (fun c30 => absurd c30 (by decide)) (fun c30 => ?_)
  refine lv_iload_n hx hb dX12_feed_42 rfl (lv_at hl 4 rfl) ?_
  refine lv_goto (tgt := 71) hx hb dX12_feed_43 (by decide) ?_
  refine lv_istore (lv' := [(7, .int a2), (6, .int 6), (0, .ref (ad 0)), (1, .int a1), (2, .int a2), (3, .int a3), (4, .int a4), (5, .int a5)]) hx hb dX12_feed_71 hl (by decide) rfl (fun ls hl => ?_)
  refine lv_aload_n hx hb dX12_feed_73 rfl (lv_at hl 2 rfl) ?_
  refine z_get (T := TX12) (N := 96) (ci := 12) (i := 0) (v := .ref (ad 25)) hx hb hts zi_X12_feed_X12 hown hK hW rfl rfl 30 (by decide) (hts (.fieldLink RX12 83 "PetrolBoardModel" "tape" "[B") (List.mem_of_getElem? (i := 2) rfl)) (fun _ h => h) rfl dX12_feed_74 ?_
  refine lv_aload_n hx hb dX12_feed_77 rfl (lv_at hl 2 rfl) ?_
  refine z_get (T := TX12) (N := 96) (ci := 12) (i := 0) (v := .int 6) hx hb hts zi_X12_feed_X12 hown hK hW rfl rfl 31 (by decide) (hts (.fieldLink RX12 253 "PetrolBoardModel" "taped" "I") (List.mem_of_getElem? (i := 1) rfl)) (fun _ h => h) rfl dX12_feed_78 ?_
  refine lv_iload hx hb dX12_feed_81 (lv_at hl 0 rfl) ?_
  refine lv_bipush (v := 24) hx hb dX12_feed_83 (by decide) ?_
  refine lv_bipush (v := 8) hx hb dX12_feed_85 (by decide) ?_
  refine lv_iload hx hb dX12_feed_87 (lv_at hl 1 rfl) ?_
  refine lv_iconst (v := 4) hx hb dX12_feed_89 (by decide) ?_
  refine lv_irem hx hb dX12_feed_90 (by decide) ?_
  refine z_topi (v := 2) (by decide) ?_
  refine lv_imul hx hb dX12_feed_91 ?_
  refine z_topi (v := 16) (by decide) ?_
  refine lv_isub hx hb dX12_feed_92 ?_
  refine z_topi (v := 8) (by decide) ?_
  refine lv_ishr hx hb dX12_feed_93 ?_
  refine lv_topi (fun x31 ex31 => ?_)
  refine lv_i2b hx hb dX12_feed_94 rfl ?_
  refine lv_topi (fun x32 ex32 => ?_)
  refine z_bast (i := 25) hx hb hK hW hS rfl (z_inl (by decide)) dX12_feed_95 (fun H locs hz1 hW hS => ?_)
  refine lv_aload_n hx hb dX12_feed_96 rfl (lv_at hl 2 rfl) ?_
  refine lv_dup hx hb dX12_feed_97 rfl ?_
  refine z_get (T := TX12) (N := 96) (ci := 12) (i := 0) (v := .int 6) hx hb hts zi_X12_feed_X12 hown hK hW rfl rfl 31 (by decide) (hts (.fieldLink RX12 253 "PetrolBoardModel" "taped" "I") (List.mem_of_getElem? (i := 1) rfl)) (fun _ h => h) rfl dX12_feed_98 ?_
  refine lv_iconst (v := 1) hx hb dX12_feed_101 (by decide) ?_
  refine lv_iadd hx hb dX12_feed_102 ?_
  refine z_topi (v := 7) (by decide) ?_
  refine z_put (T := TX12) (N := 96) (ci := 12) (i := 0) (v := .int 7) (I1 := (z_up (z_up (z_up (z_up (z_up (z_up (z_up (z_up (z_up (z_up (z_up (z_up (z_up (z_up IM 25 (0 : Int32).toNatClampNeg (vp_nar .byte x5)) 0 31 1) 25 (1 : Int32).toNatClampNeg (vp_nar .byte x9)) 0 31 2) 25 (2 : Int32).toNatClampNeg (vp_nar .byte x13)) 0 31 3) 25 (3 : Int32).toNatClampNeg (vp_nar .byte x17)) 0 31 4) 25 (4 : Int32).toNatClampNeg (vp_nar .byte x22)) 0 31 5) 25 (5 : Int32).toNatClampNeg (vp_nar .byte x27)) 0 31 6) 25 (6 : Int32).toNatClampNeg (vp_nar .byte x32)) 0 31 7)) (J1 := JM) (P1 := PM ad) hx hb hts zi_X12_feed_X12 tyX12 tyX12_ok nmX12 hown hK hW hS rfl rfl 31 (by decide) (hts (.fieldLink RX12 253 "PetrolBoardModel" "taped" "I") (List.mem_of_getElem? (i := 1) rfl)) (fun _ h => h) rfl rfl rfl (by first | rfl | exact congrArg _ z_up_s) (fun a b h ty => z_vI h ty) dX12_feed_103 (fun H locs hz1 hW hS => ?_)
  refine lv_iinc (v := 7) (lv' := [(6, .int 7), (7, .int a2), (0, .ref (ad 0)), (1, .int a1), (2, .int a2), (3, .int a3), (4, .int a4), (5, .int a5)]) hx hb dX12_feed_106 hl (k := 1) rfl (by decide) (by decide) rfl (fun ls hl => ?_)
  refine lv_goto (tgt := 18) hx hb dX12_feed_109 (by decide) ?_
  refine lv_iload hx hb dX12_feed_18 (lv_at hl 0 rfl) ?_
  refine lv_bipush (v := 20) hx hb dX12_feed_20 (by decide) ?_
  refine lv_icmp_ge (tgt := 112) hx hb dX12_feed_22 (by decide) (fun c33 => absurd c33 (by decide)) (fun c33 => ?_)
  refine lv_iload hx hb dX12_feed_25 (lv_at hl 0 rfl) ?_
  refine lv_iconst (v := 4) hx hb dX12_feed_27 (by decide) ?_
  refine lv_icmp_ge (tgt := 35) hx hb dX12_feed_28 (by decide) (fun c34 => ?_) (fun c34 => absurd (by decide) c34)
  refine lv_iload hx hb dX12_feed_35 (lv_at hl 0 rfl) ?_
  refine lv_bipush (v := 8) hx hb dX12_feed_37 (by decide) ?_
  refine lv_icmp_ge (tgt := 46) hx hb dX12_feed_39 (by decide) (fun c35 => absurd c35 (by decide)) (fun c35 => ?_)
  refine lv_iload_n hx hb dX12_feed_42 rfl (lv_at hl 4 rfl) ?_
  refine lv_goto (tgt := 71) hx hb dX12_feed_43 (by decide) ?_
  refine lv_istore (lv' := [(7, .int a2), (6, .int 7), (0, .ref (ad 0)), (1, .int a1), (2, .int a2), (3, .int a3), (4, .int a4), (5, .int a5)]) hx hb dX12_feed_71 hl (by decide) rfl (fun ls hl => ?_)
  refine lv_aload_n hx hb dX12_feed_73 rfl (lv_at hl 2 rfl) ?_
  refine z_get (T := TX12) (N := 96) (ci := 12) (i := 0) (v := .ref (ad 25)) hx hb hts zi_X12_feed_X12 hown hK hW rfl rfl 30 (by decide) (hts (.fieldLink RX12 83 "PetrolBoardModel" "tape" "[B") (List.mem_of_getElem? (i := 2) rfl)) (fun _ h => h) rfl dX12_feed_74 ?_
  refine lv_aload_n hx hb dX12_feed_77 rfl (lv_at hl 2 rfl) ?_
  refine z_get (T := TX12) (N := 96) (ci := 12) (i := 0) (v := .int 7) hx hb hts zi_X12_feed_X12 hown hK hW rfl rfl 31 (by decide) (hts (.fieldLink RX12 253 "PetrolBoardModel" "taped" "I") (List.mem_of_getElem? (i := 1) rfl)) (fun _ h => h) rfl dX12_feed_78 ?_
  refine lv_iload hx hb dX12_feed_81 (lv_at hl 0 rfl) ?_
  refine lv_bipush (v := 24) hx hb dX12_feed_83 (by decide) ?_
  refine lv_bipush (v := 8) hx hb dX12_feed_85 (by decide) ?_
  refine lv_iload hx hb dX12_feed_87 (lv_at hl 1 rfl) ?_
  refine lv_iconst (v := 4) hx hb dX12_feed_89 (by decide) ?_
  refine lv_irem hx hb dX12_feed_90 (by decide) ?_
  refine z_topi (v := 3) (by decide) ?_
  refine lv_imul hx hb dX12_feed_91 ?_
  refine z_topi (v := 24) (by decide) ?_
  refine lv_isub hx hb dX12_feed_92 ?_
  refine z_topi (v := 0) (by decide) ?_
  refine lv_ishr hx hb dX12_feed_93 ?_
  refine lv_topi (fun x36 ex36 => ?_)
  refine lv_i2b hx hb dX12_feed_94 rfl ?_
  refine lv_topi (fun x37 ex37 => ?_)
  refine z_bast (i := 25) hx hb hK hW hS rfl (z_inl (by decide)) dX12_feed_95 (fun H locs hz1 hW hS => ?_)
  refine lv_aload_n hx hb dX12_feed_96 rfl (lv_at hl 2 rfl) ?_
  refine lv_dup hx hb dX12_feed_97 rfl ?_
  refine z_get (T := TX12) (N := 96) (ci := 12) (i := 0) (v := .int 7) hx hb hts zi_X12_feed_X12 hown hK hW rfl rfl 31 (by decide) (hts (.fieldLink RX12 253 "PetrolBoardModel" "taped" "I") (List.mem_of_getElem? (i := 1) rfl)) (fun _ h => h) rfl dX12_feed_98 ?_
  refine lv_iconst (v := 1) hx hb dX12_feed_101 (by decide) ?_
  refine lv_iadd hx hb dX12_feed_102 ?_
  refine z_topi (v := 8) (by decide) ?_
  refine z_put (T := TX12) (N := 96) (ci := 12) (i := 0) (v := .int 8) (I1 := (z_up (z_up (z_up (z_up (z_up (z_up (z_up (z_up (z_up (z_up (z_up (z_up (z_up (z_up (z_up (z_up IM 25 (0 : Int32).toNatClampNeg (vp_nar .byte x5)) 0 31 1) 25 (1 : Int32).toNatClampNeg (vp_nar .byte x9)) 0 31 2) 25 (2 : Int32).toNatClampNeg (vp_nar .byte x13)) 0 31 3) 25 (3 : Int32).toNatClampNeg (vp_nar .byte x17)) 0 31 4) 25 (4 : Int32).toNatClampNeg (vp_nar .byte x22)) 0 31 5) 25 (5 : Int32).toNatClampNeg (vp_nar .byte x27)) 0 31 6) 25 (6 : Int32).toNatClampNeg (vp_nar .byte x32)) 0 31 7) 25 (7 : Int32).toNatClampNeg (vp_nar .byte x37)) 0 31 8)) (J1 := JM) (P1 := PM ad) hx hb hts zi_X12_feed_X12 tyX12 tyX12_ok nmX12 hown hK hW hS rfl rfl 31 (by decide) (hts (.fieldLink RX12 253 "PetrolBoardModel" "taped" "I") (List.mem_of_getElem? (i := 1) rfl)) (fun _ h => h) rfl rfl rfl (by first | rfl | exact congrArg _ z_up_s) (fun a b h ty => z_vI h ty) dX12_feed_103 (fun H locs hz1 hW hS => ?_)
  refine lv_iinc (v := 8) (lv' := [(6, .int 8), (7, .int a2), (0, .ref (ad 0)), (1, .int a1), (2, .int a2), (3, .int a3), (4, .int a4), (5, .int a5)]) hx hb dX12_feed_106 hl (k := 1) rfl (by decide) (by decide) rfl (fun ls hl => ?_)
  refine lv_goto (tgt := 18) hx hb dX12_feed_109 (by decide) ?_
  refine lv_iload hx hb dX12_feed_18 (lv_at hl 0 rfl) ?_
  refine lv_bipush (v := 20) hx hb dX12_feed_20 (by decide) ?_
  refine lv_icmp_ge (tgt := 112) hx hb dX12_feed_22 (by decide) (fun c38 => absurd c38 (by decide)) (fun c38 => ?_)
  refine lv_iload hx hb dX12_feed_25 (lv_at hl 0 rfl) ?_
  refine lv_iconst (v := 4) hx hb dX12_feed_27 (by decide) ?_
  refine lv_icmp_ge (tgt := 35) hx hb dX12_feed_28 (by decide) (fun c39 => ?_) (fun c39 => absurd (by decide) c39)
  refine lv_iload hx hb dX12_feed_35 (lv_at hl 0 rfl) ?_
  refine lv_bipush (v := 8) hx hb dX12_feed_37 (by decide) ?_
  refine lv_icmp_ge (tgt := 46) hx hb dX12_feed_39 (by decide) (fun c40 => ?_) (fun c40 => absurd (by decide) c40)
  refine lv_iload hx hb dX12_feed_46 (lv_at hl 0 rfl) ?_
  refine lv_bipush (v := 12) hx hb dX12_feed_48 (by decide) ?_
  refine lv_icmp_ge (tgt := 57) hx hb dX12_feed_50 (by decide) (fun c41 => absurd c41 (by decide)) (fun c41 => ?_)
  refine lv_iload_n hx hb dX12_feed_53 rfl (lv_at hl 5 rfl) ?_
  refine lv_goto (tgt := 71) hx hb dX12_feed_54 (by decide) ?_
  refine lv_istore (lv' := [(7, .int a3), (6, .int 8), (0, .ref (ad 0)), (1, .int a1), (2, .int a2), (3, .int a3), (4, .int a4), (5, .int a5)]) hx hb dX12_feed_71 hl (by decide) rfl (fun ls hl => ?_)
  refine lv_aload_n hx hb dX12_feed_73 rfl (lv_at hl 2 rfl) ?_
  refine z_get (T := TX12) (N := 96) (ci := 12) (i := 0) (v := .ref (ad 25)) hx hb hts zi_X12_feed_X12 hown hK hW rfl rfl 30 (by decide) (hts (.fieldLink RX12 83 "PetrolBoardModel" "tape" "[B") (List.mem_of_getElem? (i := 2) rfl)) (fun _ h => h) rfl dX12_feed_74 ?_
  refine lv_aload_n hx hb dX12_feed_77 rfl (lv_at hl 2 rfl) ?_
  refine z_get (T := TX12) (N := 96) (ci := 12) (i := 0) (v := .int 8) hx hb hts zi_X12_feed_X12 hown hK hW rfl rfl 31 (by decide) (hts (.fieldLink RX12 253 "PetrolBoardModel" "taped" "I") (List.mem_of_getElem? (i := 1) rfl)) (fun _ h => h) rfl dX12_feed_78 ?_
  refine lv_iload hx hb dX12_feed_81 (lv_at hl 0 rfl) ?_
  refine lv_bipush (v := 24) hx hb dX12_feed_83 (by decide) ?_
  refine lv_bipush (v := 8) hx hb dX12_feed_85 (by decide) ?_
  refine lv_iload hx hb dX12_feed_87 (lv_at hl 1 rfl) ?_
  refine lv_iconst (v := 4) hx hb dX12_feed_89 (by decide) ?_
  refine lv_irem hx hb dX12_feed_90 (by decide) ?_
  refine z_topi (v := 0) (by decide) ?_
  refine lv_imul hx hb dX12_feed_91 ?_
  refine z_topi (v := 0) (by decide) ?_
  refine lv_isub hx hb dX12_feed_92 ?_
  refine z_topi (v := 24) (by decide) ?_
  refine lv_ishr hx hb dX12_feed_93 ?_
  refine lv_topi (fun x42 ex42 => ?_)
  refine lv_i2b hx hb dX12_feed_94 rfl ?_
  refine lv_topi (fun x43 ex43 => ?_)
  refine z_bast (i := 25) hx hb hK hW hS rfl (z_inl (by decide)) dX12_feed_95 (fun H locs hz1 hW hS => ?_)
  refine lv_aload_n hx hb dX12_feed_96 rfl (lv_at hl 2 rfl) ?_
  refine lv_dup hx hb dX12_feed_97 rfl ?_
  refine z_get (T := TX12) (N := 96) (ci := 12) (i := 0) (v := .int 8) hx hb hts zi_X12_feed_X12 hown hK hW rfl rfl 31 (by decide) (hts (.fieldLink RX12 253 "PetrolBoardModel" "taped" "I") (List.mem_of_getElem? (i := 1) rfl)) (fun _ h => h) rfl dX12_feed_98 ?_
  refine lv_iconst (v := 1) hx hb dX12_feed_101 (by decide) ?_
  refine lv_iadd hx hb dX12_feed_102 ?_
  refine z_topi (v := 9) (by decide) ?_
  refine z_put (T := TX12) (N := 96) (ci := 12) (i := 0) (v := .int 9) (I1 := (z_up (z_up (z_up (z_up (z_up (z_up (z_up (z_up (z_up (z_up (z_up (z_up (z_up (z_up (z_up (z_up (z_up (z_up IM 25 (0 : Int32).toNatClampNeg (vp_nar .byte x5)) 0 31 1) 25 (1 : Int32).toNatClampNeg (vp_nar .byte x9)) 0 31 2) 25 (2 : Int32).toNatClampNeg (vp_nar .byte x13)) 0 31 3) 25 (3 : Int32).toNatClampNeg (vp_nar .byte x17)) 0 31 4) 25 (4 : Int32).toNatClampNeg (vp_nar .byte x22)) 0 31 5) 25 (5 : Int32).toNatClampNeg (vp_nar .byte x27)) 0 31 6) 25 (6 : Int32).toNatClampNeg (vp_nar .byte x32)) 0 31 7) 25 (7 : Int32).toNatClampNeg (vp_nar .byte x37)) 0 31 8) 25 (8 : Int32).toNatClampNeg (vp_nar .byte x43)) 0 31 9)) (J1 := JM) (P1 := PM ad) hx hb hts zi_X12_feed_X12 tyX12 tyX12_ok nmX12 hown hK hW hS rfl rfl 31 (by decide) (hts (.fieldLink RX12 253 "PetrolBoardModel" "taped" "I") (List.mem_of_getElem? (i := 1) rfl)) (fun _ h => h) rfl rfl rfl (by first | rfl | exact congrArg _ z_up_s) (fun a b h ty => z_vI h ty) dX12_feed_103 (fun H locs hz1 hW hS => ?_)
  refine lv_iinc (v := 9) (lv' := [(6, .int 9), (7, .int a3), (0, .ref (ad 0)), (1, .int a1), (2, .int a2), (3, .int a3), (4, .int a4), (5, .int a5)]) hx hb dX12_feed_106 hl (k := 1) rfl (by decide) (by decide) rfl (fun ls hl => ?_)
  refine lv_goto (tgt := 18) hx hb dX12_feed_109 (by decide) ?_
  refine lv_iload hx hb dX12_feed_18 (lv_at hl 0 rfl) ?_
  refine lv_bipush (v := 20) hx hb dX12_feed_20 (by decide) ?_
  refine lv_icmp_ge (tgt := 112) hx hb dX12_feed_22 (by decide) (fun c44 => absurd c44 (by decide)) (fun c44 => ?_)
  refine lv_iload hx hb dX12_feed_25 (lv_at hl 0 rfl) ?_
  refine lv_iconst (v := 4) hx hb dX12_feed_27 (by decide) ?_
  refine lv_icmp_ge (tgt := 35) hx hb dX12_feed_28 (by decide) (fun c45 => ?_) (fun c45 => absurd (by decide) c45)
  refine lv_iload hx hb dX12_feed_35 (lv_at hl 0 rfl) ?_
  refine lv_bipush (v := 8) hx hb dX12_feed_37 (by decide) ?_
  refine lv_icmp_ge (tgt := 46) hx hb dX12_feed_39 (by decide) (fun c46 => ?_) (fun c46 => absurd (by decide) c46)
  refine lv_iload hx hb dX12_feed_46 (lv_at hl 0 rfl) ?_
  refine lv_bipush (v := 12) hx hb dX12_feed_48 (by decide) ?_
  refine lv_icmp_ge (tgt := 57) hx hb dX12_feed_50 (by decide) (fun c47 => absurd c47 (by decide)) (fun c47 => ?_)
  refine lv_iload_n hx hb dX12_feed_53 rfl (lv_at hl 5 rfl) ?_
  refine lv_goto (tgt := 71) hx hb dX12_feed_54 (by decide) ?_
  refine lv_istore (lv' := [(7, .int a3), (6, .int 9), (0, .ref (ad 0)), (1, .int a1), (2, .int a2), (3, .int a3), (4, .int a4), (5, .int a5)]) hx hb dX12_feed_71 hl (by decide) rfl (fun ls hl => ?_)
  refine lv_aload_n hx hb dX12_feed_73 rfl (lv_at hl 2 rfl) ?_
  refine z_get (T := TX12) (N := 96) (ci := 12) (i := 0) (v := .ref (ad 25)) hx hb hts zi_X12_feed_X12 hown hK hW rfl rfl 30 (by decide) (hts (.fieldLink RX12 83 "PetrolBoardModel" "tape" "[B") (List.mem_of_getElem? (i := 2) rfl)) (fun _ h => h) rfl dX12_feed_74 ?_
  refine lv_aload_n hx hb dX12_feed_77 rfl (lv_at hl 2 rfl) ?_
  refine z_get (T := TX12) (N := 96) (ci := 12) (i := 0) (v := .int 9) hx hb hts zi_X12_feed_X12 hown hK hW rfl rfl 31 (by decide) (hts (.fieldLink RX12 253 "PetrolBoardModel" "taped" "I") (List.mem_of_getElem? (i := 1) rfl)) (fun _ h => h) rfl dX12_feed_78 ?_
  refine lv_iload hx hb dX12_feed_81 (lv_at hl 0 rfl) ?_
  refine lv_bipush (v := 24) hx hb dX12_feed_83 (by decide) ?_
  refine lv_bipush (v := 8) hx hb dX12_feed_85 (by decide) ?_
  refine lv_iload hx hb dX12_feed_87 (lv_at hl 1 rfl) ?_
  refine lv_iconst (v := 4) hx hb dX12_feed_89 (by decide) ?_
  refine lv_irem hx hb dX12_feed_90 (by decide) ?_
  refine z_topi (v := 1) (by decide) ?_
  refine lv_imul hx hb dX12_feed_91 ?_
  refine z_topi (v := 8) (by decide) ?_
  refine lv_isub hx hb dX12_feed_92 ?_
  refine z_topi (v := 16) (by decide) ?_
  refine lv_ishr hx hb dX12_feed_93 ?_
  refine lv_topi (fun x48 ex48 => ?_)
  refine lv_i2b hx hb dX12_feed_94 rfl ?_
  refine lv_topi (fun x49 ex49 => ?_)
  refine z_bast (i := 25) hx hb hK hW hS rfl (z_inl (by decide)) dX12_feed_95 (fun H locs hz1 hW hS => ?_)
  refine lv_aload_n hx hb dX12_feed_96 rfl (lv_at hl 2 rfl) ?_
  refine lv_dup hx hb dX12_feed_97 rfl ?_
  refine z_get (T := TX12) (N := 96) (ci := 12) (i := 0) (v := .int 9) hx hb hts zi_X12_feed_X12 hown hK hW rfl rfl 31 (by decide) (hts (.fieldLink RX12 253 "PetrolBoardModel" "taped" "I") (List.mem_of_getElem? (i := 1) rfl)) (fun _ h => h) rfl dX12_feed_98 ?_
  refine lv_iconst (v := 1) hx hb dX12_feed_101 (by decide) ?_
  refine lv_iadd hx hb dX12_feed_102 ?_
  refine z_topi (v := 10) (by decide) ?_
  refine z_put (T := TX12) (N := 96) (ci := 12) (i := 0) (v := .int 10) (I1 := (z_up (z_up (z_up (z_up (z_up (z_up (z_up (z_up (z_up (z_up (z_up (z_up (z_up (z_up (z_up (z_up (z_up (z_up (z_up (z_up IM 25 (0 : Int32).toNatClampNeg (vp_nar .byte x5)) 0 31 1) 25 (1 : Int32).toNatClampNeg (vp_nar .byte x9)) 0 31 2) 25 (2 : Int32).toNatClampNeg (vp_nar .byte x13)) 0 31 3) 25 (3 : Int32).toNatClampNeg (vp_nar .byte x17)) 0 31 4) 25 (4 : Int32).toNatClampNeg (vp_nar .byte x22)) 0 31 5) 25 (5 : Int32).toNatClampNeg (vp_nar .byte x27)) 0 31 6) 25 (6 : Int32).toNatClampNeg (vp_nar .byte x32)) 0 31 7) 25 (7 : Int32).toNatClampNeg (vp_nar .byte x37)) 0 31 8) 25 (8 : Int32).toNatClampNeg (vp_nar .byte x43)) 0 31 9) 25 (9 : Int32).toNatClampNeg (vp_nar .byte x49)) 0 31 10)) (J1 := JM) (P1 := PM ad) hx hb hts zi_X12_feed_X12 tyX12 tyX12_ok nmX12 hown hK hW hS rfl rfl 31 (by decide) (hts (.fieldLink RX12 253 "PetrolBoardModel" "taped" "I") (List.mem_of_getElem? (i := 1) rfl)) (fun _ h => h) rfl rfl rfl (by first | rfl | exact congrArg _ z_up_s) (fun a b h ty => z_vI h ty) dX12_feed_103 (fun H locs hz1 hW hS => ?_)
  refine lv_iinc (v := 10) (lv' := [(6, .int 10), (7, .int a3), (0, .ref (ad 0)), (1, .int a1), (2, .int a2), (3, .int a3), (4, .int a4), (5, .int a5)]) hx hb dX12_feed_106 hl (k := 1) rfl (by decide) (by decide) rfl (fun ls hl => ?_)
  refine lv_goto (tgt := 18) hx hb dX12_feed_109 (by decide) ?_
  refine lv_iload hx hb dX12_feed_18 (lv_at hl 0 rfl) ?_
  refine lv_bipush (v := 20) hx hb dX12_feed_20 (by decide) ?_
  refine lv_icmp_ge (tgt := 112) hx hb dX12_feed_22 (by decide) (fun c50 => absurd c50 (by decide)) (fun c50 => ?_)
  refine lv_iload hx hb dX12_feed_25 (lv_at hl 0 rfl) ?_
  refine lv_iconst (v := 4) hx hb dX12_feed_27 (by decide) ?_
  refine lv_icmp_ge (tgt := 35) hx hb dX12_feed_28 (by decide) (fun c51 => ?_) (fun c51 => absurd (by decide) c51)
  refine lv_iload hx hb dX12_feed_35 (lv_at hl 0 rfl) ?_
  refine lv_bipush (v := 8) hx hb dX12_feed_37 (by decide) ?_
  refine lv_icmp_ge (tgt := 46) hx hb dX12_feed_39 (by decide) (fun c52 => ?_) (fun c52 => absurd (by decide) c52)
  refine lv_iload hx hb dX12_feed_46 (lv_at hl 0 rfl) ?_
  refine lv_bipush (v := 12) hx hb dX12_feed_48 (by decide) ?_
  refine lv_icmp_ge (tgt := 57) hx hb dX12_feed_50 (by decide) (fun c53 => absurd c53 (by decide)) (fun c53 => ?_)
  refine lv_iload_n hx hb dX12_feed_53 rfl (lv_at hl 5 rfl) ?_
  refine lv_goto (tgt := 71) hx hb dX12_feed_54 (by decide) ?_
  refine lv_istore (lv' := [(7, .int a3), (6, .int 10), (0, .ref (ad 0)), (1, .int a1), (2, .int a2), (3, .int a3), (4, .int a4), (5, .int a5)]) hx hb dX12_feed_71 hl (by decide) rfl (fun ls hl => ?_)
  refine lv_aload_n hx hb dX12_feed_73 rfl (lv_at hl 2 rfl) ?_
  refine z_get (T := TX12) (N := 96) (ci := 12) (i := 0) (v := .ref (ad 25)) hx hb hts zi_X12_feed_X12 hown hK hW rfl rfl 30 (by decide) (hts (.fieldLink RX12 83 "PetrolBoardModel" "tape" "[B") (List.mem_of_getElem? (i := 2) rfl)) (fun _ h => h) rfl dX12_feed_74 ?_
  refine lv_aload_n hx hb dX12_feed_77 rfl (lv_at hl 2 rfl) ?_
  refine z_get (T := TX12) (N := 96) (ci := 12) (i := 0) (v := .int 10) hx hb hts zi_X12_feed_X12 hown hK hW rfl rfl 31 (by decide) (hts (.fieldLink RX12 253 "PetrolBoardModel" "taped" "I") (List.mem_of_getElem? (i := 1) rfl)) (fun _ h => h) rfl dX12_feed_78 ?_
  refine lv_iload hx hb dX12_feed_81 (lv_at hl 0 rfl) ?_
  refine lv_bipush (v := 24) hx hb dX12_feed_83 (by decide) ?_
  refine lv_bipush (v := 8) hx hb dX12_feed_85 (by decide) ?_
  refine lv_iload hx hb dX12_feed_87 (lv_at hl 1 rfl) ?_
  refine lv_iconst (v := 4) hx hb dX12_feed_89 (by decide) ?_
  refine lv_irem hx hb dX12_feed_90 (by decide) ?_
  refine z_topi (v := 2) (by decide) ?_
  refine lv_imul hx hb dX12_feed_91 ?_
  refine z_topi (v := 16) (by decide) ?_
  refine lv_isub hx hb dX12_feed_92 ?_
  refine z_topi (v := 8) (by decide) ?_
  refine lv_ishr hx hb dX12_feed_93 ?_
  refine lv_topi (fun x54 ex54 => ?_)
  refine lv_i2b hx hb dX12_feed_94 rfl ?_
  refine lv_topi (fun x55 ex55 => ?_)
  refine z_bast (i := 25) hx hb hK hW hS rfl (z_inl (by decide)) dX12_feed_95 (fun H locs hz1 hW hS => ?_)
  refine lv_aload_n hx hb dX12_feed_96 rfl (lv_at hl 2 rfl) ?_
  refine lv_dup hx hb dX12_feed_97 rfl ?_
  refine z_get (T := TX12) (N := 96) (ci := 12) (i := 0) (v := .int 10) hx hb hts zi_X12_feed_X12 hown hK hW rfl rfl 31 (by decide) (hts (.fieldLink RX12 253 "PetrolBoardModel" "taped" "I") (List.mem_of_getElem? (i := 1) rfl)) (fun _ h => h) rfl dX12_feed_98 ?_
  refine lv_iconst (v := 1) hx hb dX12_feed_101 (by decide) ?_
  refine lv_iadd hx hb dX12_feed_102 ?_
  refine z_topi (v := 11) (by decide) ?_
  refine z_put (T := TX12) (N := 96) (ci := 12) (i := 0) (v := .int 11) (I1 := (z_up (z_up (z_up (z_up (z_up (z_up (z_up (z_up (z_up (z_up (z_up (z_up (z_up (z_up (z_up (z_up (z_up (z_up (z_up (z_up (z_up (z_up IM 25 (0 : Int32).toNatClampNeg (vp_nar .byte x5)) 0 31 1) 25 (1 : Int32).toNatClampNeg (vp_nar .byte x9)) 0 31 2) 25 (2 : Int32).toNatClampNeg (vp_nar .byte x13)) 0 31 3) 25 (3 : Int32).toNatClampNeg (vp_nar .byte x17)) 0 31 4) 25 (4 : Int32).toNatClampNeg (vp_nar .byte x22)) 0 31 5) 25 (5 : Int32).toNatClampNeg (vp_nar .byte x27)) 0 31 6) 25 (6 : Int32).toNatClampNeg (vp_nar .byte x32)) 0 31 7) 25 (7 : Int32).toNatClampNeg (vp_nar .byte x37)) 0 31 8) 25 (8 : Int32).toNatClampNeg (vp_nar .byte x43)) 0 31 9) 25 (9 : Int32).toNatClampNeg (vp_nar .byte x49)) 0 31 10) 25 (10 : Int32).toNatClampNeg (vp_nar .byte x55)) 0 31 11)) (J1 := JM) (P1 := PM ad) hx hb hts zi_X12_feed_X12 tyX12 tyX12_ok nmX12 hown hK hW hS rfl rfl 31 (by decide) (hts (.fieldLink RX12 253 "PetrolBoardModel" "taped" "I") (List.mem_of_getElem? (i := 1) rfl)) (fun _ h => h) rfl rfl rfl (by first | rfl | exact congrArg _ z_up_s) (fun a b h ty => z_vI h ty) dX12_feed_103 (fun H locs hz1 hW hS => ?_)
  refine lv_iinc (v := 11) (lv' := [(6, .int 11), (7, .int a3), (0, .ref (ad 0)), (1, .int a1), (2, .int a2), (3, .int a3), (4, .int a4), (5, .int a5)]) hx hb dX12_feed_106 hl (k := 1) rfl (by decide) (by decide) rfl (fun ls hl => ?_)
  refine lv_goto (tgt := 18) hx hb dX12_feed_109 (by decide) ?_
  refine lv_iload hx hb dX12_feed_18 (lv_at hl 0 rfl) ?_
  refine lv_bipush (v := 20) hx hb dX12_feed_20 (by decide) ?_
  refine lv_icmp_ge (tgt := 112) hx hb dX12_feed_22 (by decide) (fun c56 => absurd c56 (by decide)) (fun c56 => ?_)
  refine lv_iload hx hb dX12_feed_25 (lv_at hl 0 rfl) ?_
  refine lv_iconst (v := 4) hx hb dX12_feed_27 (by decide) ?_
  refine lv_icmp_ge (tgt := 35) hx hb dX12_feed_28 (by decide) (fun c57 => ?_) (fun c57 => absurd (by decide) c57)
  refine lv_iload hx hb dX12_feed_35 (lv_at hl 0 rfl) ?_
  refine lv_bipush (v := 8) hx hb dX12_feed_37 (by decide) ?_
  refine lv_icmp_ge (tgt := 46) hx hb dX12_feed_39 (by decide) (fun c58 => ?_) (fun c58 => absurd (by decide) c58)
  refine lv_iload hx hb dX12_feed_46 (lv_at hl 0 rfl) ?_
  refine lv_bipush (v := 12) hx hb dX12_feed_48 (by decide) ?_
  refine lv_icmp_ge (tgt := 57) hx hb dX12_feed_50 (by decide) (fun c59 => absurd c59 (by decide)) (fun c59 => ?_)
  refine lv_iload_n hx hb dX12_feed_53 rfl (lv_at hl 5 rfl) ?_
  refine lv_goto (tgt := 71) hx hb dX12_feed_54 (by decide) ?_
  refine lv_istore (lv' := [(7, .int a3), (6, .int 11), (0, .ref (ad 0)), (1, .int a1), (2, .int a2), (3, .int a3), (4, .int a4), (5, .int a5)]) hx hb dX12_feed_71 hl (by decide) rfl (fun ls hl => ?_)
  refine lv_aload_n hx hb dX12_feed_73 rfl (lv_at hl 2 rfl) ?_
  refine z_get (T := TX12) (N := 96) (ci := 12) (i := 0) (v := .ref (ad 25)) hx hb hts zi_X12_feed_X12 hown hK hW rfl rfl 30 (by decide) (hts (.fieldLink RX12 83 "PetrolBoardModel" "tape" "[B") (List.mem_of_getElem? (i := 2) rfl)) (fun _ h => h) rfl dX12_feed_74 ?_
  refine lv_aload_n hx hb dX12_feed_77 rfl (lv_at hl 2 rfl) ?_
  refine z_get (T := TX12) (N := 96) (ci := 12) (i := 0) (v := .int 11) hx hb hts zi_X12_feed_X12 hown hK hW rfl rfl 31 (by decide) (hts (.fieldLink RX12 253 "PetrolBoardModel" "taped" "I") (List.mem_of_getElem? (i := 1) rfl)) (fun _ h => h) rfl dX12_feed_78 ?_
  refine lv_iload hx hb dX12_feed_81 (lv_at hl 0 rfl) ?_
  refine lv_bipush (v := 24) hx hb dX12_feed_83 (by decide) ?_
  refine lv_bipush (v := 8) hx hb dX12_feed_85 (by decide) ?_
  refine lv_iload hx hb dX12_feed_87 (lv_at hl 1 rfl) ?_
  refine lv_iconst (v := 4) hx hb dX12_feed_89 (by decide) ?_
  refine lv_irem hx hb dX12_feed_90 (by decide) ?_
  refine z_topi (v := 3) (by decide) ?_
  refine lv_imul hx hb dX12_feed_91 ?_
  refine z_topi (v := 24) (by decide) ?_
  refine lv_isub hx hb dX12_feed_92 ?_
  refine z_topi (v := 0) (by decide) ?_
  refine lv_ishr hx hb dX12_feed_93 ?_
  refine lv_topi (fun x60 ex60 => ?_)
  refine lv_i2b hx hb dX12_feed_94 rfl ?_
  refine lv_topi (fun x61 ex61 => ?_)
  refine z_bast (i := 25) hx hb hK hW hS rfl (z_inl (by decide)) dX12_feed_95 (fun H locs hz1 hW hS => ?_)
  refine lv_aload_n hx hb dX12_feed_96 rfl (lv_at hl 2 rfl) ?_
  refine lv_dup hx hb dX12_feed_97 rfl ?_
  refine z_get (T := TX12) (N := 96) (ci := 12) (i := 0) (v := .int 11) hx hb hts zi_X12_feed_X12 hown hK hW rfl rfl 31 (by decide) (hts (.fieldLink RX12 253 "PetrolBoardModel" "taped" "I") (List.mem_of_getElem? (i := 1) rfl)) (fun _ h => h) rfl dX12_feed_98 ?_
  refine lv_iconst (v := 1) hx hb dX12_feed_101 (by decide) ?_
  refine lv_iadd hx hb dX12_feed_102 ?_
  refine z_topi (v := 12) (by decide) ?_
  refine z_put (T := TX12) (N := 96) (ci := 12) (i := 0) (v := .int 12) (I1 := (z_up (z_up (z_up (z_up (z_up (z_up (z_up (z_up (z_up (z_up (z_up (z_up (z_up (z_up (z_up (z_up (z_up (z_up (z_up (z_up (z_up (z_up (z_up (z_up IM 25 (0 : Int32).toNatClampNeg (vp_nar .byte x5)) 0 31 1) 25 (1 : Int32).toNatClampNeg (vp_nar .byte x9)) 0 31 2) 25 (2 : Int32).toNatClampNeg (vp_nar .byte x13)) 0 31 3) 25 (3 : Int32).toNatClampNeg (vp_nar .byte x17)) 0 31 4) 25 (4 : Int32).toNatClampNeg (vp_nar .byte x22)) 0 31 5) 25 (5 : Int32).toNatClampNeg (vp_nar .byte x27)) 0 31 6) 25 (6 : Int32).toNatClampNeg (vp_nar .byte x32)) 0 31 7) 25 (7 : Int32).toNatClampNeg (vp_nar .byte x37)) 0 31 8) 25 (8 : Int32).toNatClampNeg (vp_nar .byte x43)) 0 31 9) 25 (9 : Int32).toNatClampNeg (vp_nar .byte x49)) 0 31 10) 25 (10 : Int32).toNatClampNeg (vp_nar .byte x55)) 0 31 11) 25 (11 : Int32).toNatClampNeg (vp_nar .byte x61)) 0 31 12)) (J1 := JM) (P1 := PM ad) hx hb hts zi_X12_feed_X12 tyX12 tyX12_ok nmX12 hown hK hW hS rfl rfl 31 (by decide) (hts (.fieldLink RX12 253 "PetrolBoardModel" "taped" "I") (List.mem_of_getElem? (i := 1) rfl)) (fun _ h => h) rfl rfl rfl (by first | rfl | exact congrArg _ z_up_s) (fun a b h ty => z_vI h ty) dX12_feed_103 (fun H locs hz1 hW hS => ?_)
  refine lv_iinc (v := 12) (lv' := [(6, .int 12), (7, .int a3), (0, .ref (ad 0)), (1, .int a1), (2, .int a2), (3, .int a3), (4, .int a4), (5, .int a5)]) hx hb dX12_feed_106 hl (k := 1) rfl (by decide) (by decide) rfl (fun ls hl => ?_)
  refine lv_goto (tgt := 18) hx hb dX12_feed_109 (by decide) ?_
  refine lv_iload hx hb dX12_feed_18 (lv_at hl 0 rfl) ?_
  refine lv_bipush (v := 20) hx hb dX12_feed_20 (by decide) ?_
  refine lv_icmp_ge (tgt := 112) hx hb dX12_feed_22 (by decide) (fun c62 => absurd c62 (by decide)) (fun c62 => ?_)
  refine lv_iload hx hb dX12_feed_25 (lv_at hl 0 rfl) ?_
  refine lv_iconst (v := 4) hx hb dX12_feed_27 (by decide) ?_
  refine lv_icmp_ge (tgt := 35) hx hb dX12_feed_28 (by decide) (fun c63 => ?_) (fun c63 => absurd (by decide) c63)
  refine lv_iload hx hb dX12_feed_35 (lv_at hl 0 rfl) ?_
  refine lv_bipush (v := 8) hx hb dX12_feed_37 (by decide) ?_
  refine lv_icmp_ge (tgt := 46) hx hb dX12_feed_39 (by decide) (fun c64 => ?_) (fun c64 => absurd (by decide) c64)
  refine lv_iload hx hb dX12_feed_46 (lv_at hl 0 rfl) ?_
  refine lv_bipush (v := 12) hx hb dX12_feed_48 (by decide) ?_
  refine lv_icmp_ge (tgt := 57) hx hb dX12_feed_50 (by decide) (fun c65 => ?_) (fun c65 => absurd (by decide) c65)
  refine lv_iload hx hb dX12_feed_57 (lv_at hl 0 rfl) ?_
  refine lv_bipush (v := 16) hx hb dX12_feed_59 (by decide) ?_
  refine lv_icmp_ge (tgt := 69) hx hb dX12_feed_61 (by decide) (fun c66 => absurd c66 (by decide)) (fun c66 => ?_)
  refine lv_iload hx hb dX12_feed_64 (lv_at hl 6 rfl) ?_
  refine lv_goto (tgt := 71) hx hb dX12_feed_66 (by decide) ?_
  refine lv_istore (lv' := [(7, .int a4), (6, .int 12), (0, .ref (ad 0)), (1, .int a1), (2, .int a2), (3, .int a3), (4, .int a4), (5, .int a5)]) hx hb dX12_feed_71 hl (by decide) rfl (fun ls hl => ?_)
  refine lv_aload_n hx hb dX12_feed_73 rfl (lv_at hl 2 rfl) ?_
  refine z_get (T := TX12) (N := 96) (ci := 12) (i := 0) (v := .ref (ad 25)) hx hb hts zi_X12_feed_X12 hown hK hW rfl rfl 30 (by decide) (hts (.fieldLink RX12 83 "PetrolBoardModel" "tape" "[B") (List.mem_of_getElem? (i := 2) rfl)) (fun _ h => h) rfl dX12_feed_74 ?_
  refine lv_aload_n hx hb dX12_feed_77 rfl (lv_at hl 2 rfl) ?_
  refine z_get (T := TX12) (N := 96) (ci := 12) (i := 0) (v := .int 12) hx hb hts zi_X12_feed_X12 hown hK hW rfl rfl 31 (by decide) (hts (.fieldLink RX12 253 "PetrolBoardModel" "taped" "I") (List.mem_of_getElem? (i := 1) rfl)) (fun _ h => h) rfl dX12_feed_78 ?_
  refine lv_iload hx hb dX12_feed_81 (lv_at hl 0 rfl) ?_
  refine lv_bipush (v := 24) hx hb dX12_feed_83 (by decide) ?_
  refine lv_bipush (v := 8) hx hb dX12_feed_85 (by decide) ?_
  refine lv_iload hx hb dX12_feed_87 (lv_at hl 1 rfl) ?_
  refine lv_iconst (v := 4) hx hb dX12_feed_89 (by decide) ?_
  refine lv_irem hx hb dX12_feed_90 (by decide) ?_
  refine z_topi (v := 0) (by decide) ?_
  refine lv_imul hx hb dX12_feed_91 ?_
  refine z_topi (v := 0) (by decide) ?_
  refine lv_isub hx hb dX12_feed_92 ?_
  refine z_topi (v := 24) (by decide) ?_
  refine lv_ishr hx hb dX12_feed_93 ?_
  refine lv_topi (fun x67 ex67 => ?_)
  refine lv_i2b hx hb dX12_feed_94 rfl ?_
  refine lv_topi (fun x68 ex68 => ?_)
  refine z_bast (i := 25) hx hb hK hW hS rfl (z_inl (by decide)) dX12_feed_95 (fun H locs hz1 hW hS => ?_)
  refine lv_aload_n hx hb dX12_feed_96 rfl (lv_at hl 2 rfl) ?_
  refine lv_dup hx hb dX12_feed_97 rfl ?_
  refine z_get (T := TX12) (N := 96) (ci := 12) (i := 0) (v := .int 12) hx hb hts zi_X12_feed_X12 hown hK hW rfl rfl 31 (by decide) (hts (.fieldLink RX12 253 "PetrolBoardModel" "taped" "I") (List.mem_of_getElem? (i := 1) rfl)) (fun _ h => h) rfl dX12_feed_98 ?_
  refine lv_iconst (v := 1) hx hb dX12_feed_101 (by decide) ?_
  refine lv_iadd hx hb dX12_feed_102 ?_
  refine z_topi (v := 13) (by decide) ?_
  refine z_put (T := TX12) (N := 96) (ci := 12) (i := 0) (v := .int 13) (I1 := (z_up (z_up (z_up (z_up (z_up (z_up (z_up (z_up (z_up (z_up (z_up (z_up (z_up (z_up (z_up (z_up (z_up (z_up (z_up (z_up (z_up (z_up (z_up (z_up (z_up (z_up IM 25 (0 : Int32).toNatClampNeg (vp_nar .byte x5)) 0 31 1) 25 (1 : Int32).toNatClampNeg (vp_nar .byte x9)) 0 31 2) 25 (2 : Int32).toNatClampNeg (vp_nar .byte x13)) 0 31 3) 25 (3 : Int32).toNatClampNeg (vp_nar .byte x17)) 0 31 4) 25 (4 : Int32).toNatClampNeg (vp_nar .byte x22)) 0 31 5) 25 (5 : Int32).toNatClampNeg (vp_nar .byte x27)) 0 31 6) 25 (6 : Int32).toNatClampNeg (vp_nar .byte x32)) 0 31 7) 25 (7 : Int32).toNatClampNeg (vp_nar .byte x37)) 0 31 8) 25 (8 : Int32).toNatClampNeg (vp_nar .byte x43)) 0 31 9) 25 (9 : Int32).toNatClampNeg (vp_nar .byte x49)) 0 31 10) 25 (10 : Int32).toNatClampNeg (vp_nar .byte x55)) 0 31 11) 25 (11 : Int32).toNatClampNeg (vp_nar .byte x61)) 0 31 12) 25 (12 : Int32).toNatClampNeg (vp_nar .byte x68)) 0 31 13)) (J1 := JM) (P1 := PM ad) hx hb hts zi_X12_feed_X12 tyX12 tyX12_ok nmX12 hown hK hW hS rfl rfl 31 (by decide) (hts (.fieldLink RX12 253 "PetrolBoardModel" "taped" "I") (List.mem_of_getElem? (i := 1) rfl)) (fun _ h => h) rfl rfl rfl (by first | rfl | exact congrArg _ z_up_s) (fun a b h ty => z_vI h ty) dX12_feed_103 (fun H locs hz1 hW hS => ?_)
  refine lv_iinc (v := 13) (lv' := [(6, .int 13), (7, .int a4), (0, .ref (ad 0)), (1, .int a1), (2, .int a2), (3, .int a3), (4, .int a4), (5, .int a5)]) hx hb dX12_feed_106 hl (k := 1) rfl (by decide) (by decide) rfl (fun ls hl => ?_)
  refine lv_goto (tgt := 18) hx hb dX12_feed_109 (by decide) ?_
  refine lv_iload hx hb dX12_feed_18 (lv_at hl 0 rfl) ?_
  refine lv_bipush (v := 20) hx hb dX12_feed_20 (by decide) ?_
  refine lv_icmp_ge (tgt := 112) hx hb dX12_feed_22 (by decide) (fun c69 => absurd c69 (by decide)) (fun c69 => ?_)
  refine lv_iload hx hb dX12_feed_25 (lv_at hl 0 rfl) ?_
  refine lv_iconst (v := 4) hx hb dX12_feed_27 (by decide) ?_
  refine lv_icmp_ge (tgt := 35) hx hb dX12_feed_28 (by decide) (fun c70 => ?_) (fun c70 => absurd (by decide) c70)
  refine lv_iload hx hb dX12_feed_35 (lv_at hl 0 rfl) ?_
  refine lv_bipush (v := 8) hx hb dX12_feed_37 (by decide) ?_
  refine lv_icmp_ge (tgt := 46) hx hb dX12_feed_39 (by decide) (fun c71 => ?_) (fun c71 => absurd (by decide) c71)
  refine lv_iload hx hb dX12_feed_46 (lv_at hl 0 rfl) ?_
  refine lv_bipush (v := 12) hx hb dX12_feed_48 (by decide) ?_
  refine lv_icmp_ge (tgt := 57) hx hb dX12_feed_50 (by decide) (fun c72 => ?_) (fun c72 => absurd (by decide) c72)
  refine lv_iload hx hb dX12_feed_57 (lv_at hl 0 rfl) ?_
  refine lv_bipush (v := 16) hx hb dX12_feed_59 (by decide) ?_
  refine lv_icmp_ge (tgt := 69) hx hb dX12_feed_61 (by decide) (fun c73 => absurd c73 (by decide)) (fun c73 => ?_)
  refine lv_iload hx hb dX12_feed_64 (lv_at hl 6 rfl) ?_
  refine lv_goto (tgt := 71) hx hb dX12_feed_66 (by decide) ?_
  refine lv_istore (lv' := [(7, .int a4), (6, .int 13), (0, .ref (ad 0)), (1, .int a1), (2, .int a2), (3, .int a3), (4, .int a4), (5, .int a5)]) hx hb dX12_feed_71 hl (by decide) rfl (fun ls hl => ?_)
  refine lv_aload_n hx hb dX12_feed_73 rfl (lv_at hl 2 rfl) ?_
  refine z_get (T := TX12) (N := 96) (ci := 12) (i := 0) (v := .ref (ad 25)) hx hb hts zi_X12_feed_X12 hown hK hW rfl rfl 30 (by decide) (hts (.fieldLink RX12 83 "PetrolBoardModel" "tape" "[B") (List.mem_of_getElem? (i := 2) rfl)) (fun _ h => h) rfl dX12_feed_74 ?_
  refine lv_aload_n hx hb dX12_feed_77 rfl (lv_at hl 2 rfl) ?_
  refine z_get (T := TX12) (N := 96) (ci := 12) (i := 0) (v := .int 13) hx hb hts zi_X12_feed_X12 hown hK hW rfl rfl 31 (by decide) (hts (.fieldLink RX12 253 "PetrolBoardModel" "taped" "I") (List.mem_of_getElem? (i := 1) rfl)) (fun _ h => h) rfl dX12_feed_78 ?_
  refine lv_iload hx hb dX12_feed_81 (lv_at hl 0 rfl) ?_
  refine lv_bipush (v := 24) hx hb dX12_feed_83 (by decide) ?_
  refine lv_bipush (v := 8) hx hb dX12_feed_85 (by decide) ?_
  refine lv_iload hx hb dX12_feed_87 (lv_at hl 1 rfl) ?_
  refine lv_iconst (v := 4) hx hb dX12_feed_89 (by decide) ?_
  refine lv_irem hx hb dX12_feed_90 (by decide) ?_
  refine z_topi (v := 1) (by decide) ?_
  refine lv_imul hx hb dX12_feed_91 ?_
  refine z_topi (v := 8) (by decide) ?_
  refine lv_isub hx hb dX12_feed_92 ?_
  refine z_topi (v := 16) (by decide) ?_
  refine lv_ishr hx hb dX12_feed_93 ?_
  refine lv_topi (fun x74 ex74 => ?_)
  refine lv_i2b hx hb dX12_feed_94 rfl ?_
  refine lv_topi (fun x75 ex75 => ?_)
  refine z_bast (i := 25) hx hb hK hW hS rfl (z_inl (by decide)) dX12_feed_95 (fun H locs hz1 hW hS => ?_)
  refine lv_aload_n hx hb dX12_feed_96 rfl (lv_at hl 2 rfl) ?_
  refine lv_dup hx hb dX12_feed_97 rfl ?_
  refine z_get (T := TX12) (N := 96) (ci := 12) (i := 0) (v := .int 13) hx hb hts zi_X12_feed_X12 hown hK hW rfl rfl 31 (by decide) (hts (.fieldLink RX12 253 "PetrolBoardModel" "taped" "I") (List.mem_of_getElem? (i := 1) rfl)) (fun _ h => h) rfl dX12_feed_98 ?_
  refine lv_iconst (v := 1) hx hb dX12_feed_101 (by decide) ?_
  refine lv_iadd hx hb dX12_feed_102 ?_
  refine z_topi (v := 14) (by decide) ?_
  refine z_put (T := TX12) (N := 96) (ci := 12) (i := 0) (v := .int 14) (I1 := (z_up (z_up (z_up (z_up (z_up (z_up (z_up (z_up (z_up (z_up (z_up (z_up (z_up (z_up (z_up (z_up (z_up (z_up (z_up (z_up (z_up (z_up (z_up (z_up (z_up (z_up (z_up (z_up IM 25 (0 : Int32).toNatClampNeg (vp_nar .byte x5)) 0 31 1) 25 (1 : Int32).toNatClampNeg (vp_nar .byte x9)) 0 31 2) 25 (2 : Int32).toNatClampNeg (vp_nar .byte x13)) 0 31 3) 25 (3 : Int32).toNatClampNeg (vp_nar .byte x17)) 0 31 4) 25 (4 : Int32).toNatClampNeg (vp_nar .byte x22)) 0 31 5) 25 (5 : Int32).toNatClampNeg (vp_nar .byte x27)) 0 31 6) 25 (6 : Int32).toNatClampNeg (vp_nar .byte x32)) 0 31 7) 25 (7 : Int32).toNatClampNeg (vp_nar .byte x37)) 0 31 8) 25 (8 : Int32).toNatClampNeg (vp_nar .byte x43)) 0 31 9) 25 (9 : Int32).toNatClampNeg (vp_nar .byte x49)) 0 31 10) 25 (10 : Int32).toNatClampNeg (vp_nar .byte x55)) 0 31 11) 25 (11 : Int32).toNatClampNeg (vp_nar .byte x61)) 0 31 12) 25 (12 : Int32).toNatClampNeg (vp_nar .byte x68)) 0 31 13) 25 (13 : Int32).toNatClampNeg (vp_nar .byte x75)) 0 31 14)) (J1 := JM) (P1 := PM ad) hx hb hts zi_X12_feed_X12 tyX12 tyX12_ok nmX12 hown hK hW hS rfl rfl 31 (by decide) (hts (.fieldLink RX12 253 "PetrolBoardModel" "taped" "I") (List.mem_of_getElem? (i := 1) rfl)) (fun _ h => h) rfl rfl rfl (by first | rfl | exact congrArg _ z_up_s) (fun a b h ty => z_vI h ty) dX12_feed_103 (fun H locs hz1 hW hS => ?_)
  refine lv_iinc (v := 14) (lv' := [(6, .int 14), (7, .int a4), (0, .ref (ad 0)), (1, .int a1), (2, .int a2), (3, .int a3), (4, .int a4), (5, .int a5)]) hx hb dX12_feed_106 hl (k := 1) rfl (by decide) (by decide) rfl (fun ls hl => ?_)
  refine lv_goto (tgt := 18) hx hb dX12_feed_109 (by decide) ?_
  refine lv_iload hx hb dX12_feed_18 (lv_at hl 0 rfl) ?_
  refine lv_bipush (v := 20) hx hb dX12_feed_20 (by decide) ?_
  refine lv_icmp_ge (tgt := 112) hx hb dX12_feed_22 (by decide) (fun c76 => absurd c76 (by decide)) (fun c76 => ?_)
  refine lv_iload hx hb dX12_feed_25 (lv_at hl 0 rfl) ?_
  refine lv_iconst (v := 4) hx hb dX12_feed_27 (by decide) ?_
  refine lv_icmp_ge (tgt := 35) hx hb dX12_feed_28 (by decide) (fun c77 => ?_) (fun c77 => absurd (by decide) c77)
  refine lv_iload hx hb dX12_feed_35 (lv_at hl 0 rfl) ?_
  refine lv_bipush (v := 8) hx hb dX12_feed_37 (by decide) ?_
  refine lv_icmp_ge (tgt := 46) hx hb dX12_feed_39 (by decide) (fun c78 => ?_) (fun c78 => absurd (by decide) c78)
  refine lv_iload hx hb dX12_feed_46 (lv_at hl 0 rfl) ?_
  refine lv_bipush (v := 12) hx hb dX12_feed_48 (by decide) ?_
  refine lv_icmp_ge (tgt := 57) hx hb dX12_feed_50 (by decide) (fun c79 => ?_) (fun c79 => absurd (by decide) c79)
  refine lv_iload hx hb dX12_feed_57 (lv_at hl 0 rfl) ?_
  refine lv_bipush (v := 16) hx hb dX12_feed_59 (by decide) ?_
  refine lv_icmp_ge (tgt := 69) hx hb dX12_feed_61 (by decide) (fun c80 => absurd c80 (by decide)) (fun c80 => ?_)
  refine lv_iload hx hb dX12_feed_64 (lv_at hl 6 rfl) ?_
  refine lv_goto (tgt := 71) hx hb dX12_feed_66 (by decide) ?_
  refine lv_istore (lv' := [(7, .int a4), (6, .int 14), (0, .ref (ad 0)), (1, .int a1), (2, .int a2), (3, .int a3), (4, .int a4), (5, .int a5)]) hx hb dX12_feed_71 hl (by decide) rfl (fun ls hl => ?_)
  refine lv_aload_n hx hb dX12_feed_73 rfl (lv_at hl 2 rfl) ?_
  refine z_get (T := TX12) (N := 96) (ci := 12) (i := 0) (v := .ref (ad 25)) hx hb hts zi_X12_feed_X12 hown hK hW rfl rfl 30 (by decide) (hts (.fieldLink RX12 83 "PetrolBoardModel" "tape" "[B") (List.mem_of_getElem? (i := 2) rfl)) (fun _ h => h) rfl dX12_feed_74 ?_
  refine lv_aload_n hx hb dX12_feed_77 rfl (lv_at hl 2 rfl) ?_
  refine z_get (T := TX12) (N := 96) (ci := 12) (i := 0) (v := .int 14) hx hb hts zi_X12_feed_X12 hown hK hW rfl rfl 31 (by decide) (hts (.fieldLink RX12 253 "PetrolBoardModel" "taped" "I") (List.mem_of_getElem? (i := 1) rfl)) (fun _ h => h) rfl dX12_feed_78 ?_
  refine lv_iload hx hb dX12_feed_81 (lv_at hl 0 rfl) ?_
  refine lv_bipush (v := 24) hx hb dX12_feed_83 (by decide) ?_
  refine lv_bipush (v := 8) hx hb dX12_feed_85 (by decide) ?_
  refine lv_iload hx hb dX12_feed_87 (lv_at hl 1 rfl) ?_
  refine lv_iconst (v := 4) hx hb dX12_feed_89 (by decide) ?_
  refine lv_irem hx hb dX12_feed_90 (by decide) ?_
  refine z_topi (v := 2) (by decide) ?_
  refine lv_imul hx hb dX12_feed_91 ?_
  refine z_topi (v := 16) (by decide) ?_
  refine lv_isub hx hb dX12_feed_92 ?_
  refine z_topi (v := 8) (by decide) ?_
  refine lv_ishr hx hb dX12_feed_93 ?_
  refine lv_topi (fun x81 ex81 => ?_)
  refine lv_i2b hx hb dX12_feed_94 rfl ?_
  refine lv_topi (fun x82 ex82 => ?_)
  refine z_bast (i := 25) hx hb hK hW hS rfl (z_inl (by decide)) dX12_feed_95 (fun H locs hz1 hW hS => ?_)
  refine lv_aload_n hx hb dX12_feed_96 rfl (lv_at hl 2 rfl) ?_
  refine lv_dup hx hb dX12_feed_97 rfl ?_
  refine z_get (T := TX12) (N := 96) (ci := 12) (i := 0) (v := .int 14) hx hb hts zi_X12_feed_X12 hown hK hW rfl rfl 31 (by decide) (hts (.fieldLink RX12 253 "PetrolBoardModel" "taped" "I") (List.mem_of_getElem? (i := 1) rfl)) (fun _ h => h) rfl dX12_feed_98 ?_
  refine lv_iconst (v := 1) hx hb dX12_feed_101 (by decide) ?_
  refine lv_iadd hx hb dX12_feed_102 ?_
  refine z_topi (v := 15) (by decide) ?_
  refine z_put (T := TX12) (N := 96) (ci := 12) (i := 0) (v := .int 15) (I1 := (z_up (z_up (z_up (z_up (z_up (z_up (z_up (z_up (z_up (z_up (z_up (z_up (z_up (z_up (z_up (z_up (z_up (z_up (z_up (z_up (z_up (z_up (z_up (z_up (z_up (z_up (z_up (z_up (z_up (z_up IM 25 (0 : Int32).toNatClampNeg (vp_nar .byte x5)) 0 31 1) 25 (1 : Int32).toNatClampNeg (vp_nar .byte x9)) 0 31 2) 25 (2 : Int32).toNatClampNeg (vp_nar .byte x13)) 0 31 3) 25 (3 : Int32).toNatClampNeg (vp_nar .byte x17)) 0 31 4) 25 (4 : Int32).toNatClampNeg (vp_nar .byte x22)) 0 31 5) 25 (5 : Int32).toNatClampNeg (vp_nar .byte x27)) 0 31 6) 25 (6 : Int32).toNatClampNeg (vp_nar .byte x32)) 0 31 7) 25 (7 : Int32).toNatClampNeg (vp_nar .byte x37)) 0 31 8) 25 (8 : Int32).toNatClampNeg (vp_nar .byte x43)) 0 31 9) 25 (9 : Int32).toNatClampNeg (vp_nar .byte x49)) 0 31 10) 25 (10 : Int32).toNatClampNeg (vp_nar .byte x55)) 0 31 11) 25 (11 : Int32).toNatClampNeg (vp_nar .byte x61)) 0 31 12) 25 (12 : Int32).toNatClampNeg (vp_nar .byte x68)) 0 31 13) 25 (13 : Int32).toNatClampNeg (vp_nar .byte x75)) 0 31 14) 25 (14 : Int32).toNatClampNeg (vp_nar .byte x82)) 0 31 15)) (J1 := JM) (P1 := PM ad) hx hb hts zi_X12_feed_X12 tyX12 tyX12_ok nmX12 hown hK hW hS rfl rfl 31 (by decide) (hts (.fieldLink RX12 253 "PetrolBoardModel" "taped" "I") (List.mem_of_getElem? (i := 1) rfl)) (fun _ h => h) rfl rfl rfl (by first | rfl | exact congrArg _ z_up_s) (fun a b h ty => z_vI h ty) dX12_feed_103 (fun H locs hz1 hW hS => ?_)
  refine lv_iinc (v := 15) (lv' := [(6, .int 15), (7, .int a4), (0, .ref (ad 0)), (1, .int a1), (2, .int a2), (3, .int a3), (4, .int a4), (5, .int a5)]) hx hb dX12_feed_106 hl (k := 1) rfl (by decide) (by decide) rfl (fun ls hl => ?_)
  refine lv_goto (tgt := 18) hx hb dX12_feed_109 (by decide) ?_
  refine lv_iload hx hb dX12_feed_18 (lv_at hl 0 rfl) ?_
  refine lv_bipush (v := 20) hx hb dX12_feed_20 (by decide) ?_
  refine lv_icmp_ge (tgt := 112) hx hb dX12_feed_22 (by decide) (fun c83 => absurd c83 (by decide)) (fun c83 => ?_)
  refine lv_iload hx hb dX12_feed_25 (lv_at hl 0 rfl) ?_
  refine lv_iconst (v := 4) hx hb dX12_feed_27 (by decide) ?_
  refine lv_icmp_ge (tgt := 35) hx hb dX12_feed_28 (by decide) (fun c84 => ?_) (fun c84 => absurd (by decide) c84)
  refine lv_iload hx hb dX12_feed_35 (lv_at hl 0 rfl) ?_
  refine lv_bipush (v := 8) hx hb dX12_feed_37 (by decide) ?_
  refine lv_icmp_ge (tgt := 46) hx hb dX12_feed_39 (by decide) (fun c85 => ?_) (fun c85 => absurd (by decide) c85)
  refine lv_iload hx hb dX12_feed_46 (lv_at hl 0 rfl) ?_
  refine lv_bipush (v := 12) hx hb dX12_feed_48 (by decide) ?_
  refine lv_icmp_ge (tgt := 57) hx hb dX12_feed_50 (by decide) (fun c86 => ?_) (fun c86 => absurd (by decide) c86)
  refine lv_iload hx hb dX12_feed_57 (lv_at hl 0 rfl) ?_
  refine lv_bipush (v := 16) hx hb dX12_feed_59 (by decide) ?_
  refine lv_icmp_ge (tgt := 69) hx hb dX12_feed_61 (by decide) (fun c87 => absurd c87 (by decide)) (fun c87 => ?_)
  refine lv_iload hx hb dX12_feed_64 (lv_at hl 6 rfl) ?_
  refine lv_goto (tgt := 71) hx hb dX12_feed_66 (by decide) ?_
  refine lv_istore (lv' := [(7, .int a4), (6, .int 15), (0, .ref (ad 0)), (1, .int a1), (2, .int a2), (3, .int a3), (4, .int a4), (5, .int a5)]) hx hb dX12_feed_71 hl (by decide) rfl (fun ls hl => ?_)
  refine lv_aload_n hx hb dX12_feed_73 rfl (lv_at hl 2 rfl) ?_
  refine z_get (T := TX12) (N := 96) (ci := 12) (i := 0) (v := .ref (ad 25)) hx hb hts zi_X12_feed_X12 hown hK hW rfl rfl 30 (by decide) (hts (.fieldLink RX12 83 "PetrolBoardModel" "tape" "[B") (List.mem_of_getElem? (i := 2) rfl)) (fun _ h => h) rfl dX12_feed_74 ?_
  refine lv_aload_n hx hb dX12_feed_77 rfl (lv_at hl 2 rfl) ?_
  refine z_get (T := TX12) (N := 96) (ci := 12) (i := 0) (v := .int 15) hx hb hts zi_X12_feed_X12 hown hK hW rfl rfl 31 (by decide) (hts (.fieldLink RX12 253 "PetrolBoardModel" "taped" "I") (List.mem_of_getElem? (i := 1) rfl)) (fun _ h => h) rfl dX12_feed_78 ?_
  refine lv_iload hx hb dX12_feed_81 (lv_at hl 0 rfl) ?_
  refine lv_bipush (v := 24) hx hb dX12_feed_83 (by decide) ?_
  refine lv_bipush (v := 8) hx hb dX12_feed_85 (by decide) ?_
  refine lv_iload hx hb dX12_feed_87 (lv_at hl 1 rfl) ?_
  refine lv_iconst (v := 4) hx hb dX12_feed_89 (by decide) ?_
  refine lv_irem hx hb dX12_feed_90 (by decide) ?_
  refine z_topi (v := 3) (by decide) ?_
  refine lv_imul hx hb dX12_feed_91 ?_
  refine z_topi (v := 24) (by decide) ?_
  refine lv_isub hx hb dX12_feed_92 ?_
  refine z_topi (v := 0) (by decide) ?_
  refine lv_ishr hx hb dX12_feed_93 ?_
  refine lv_topi (fun x88 ex88 => ?_)
  refine lv_i2b hx hb dX12_feed_94 rfl ?_
  refine lv_topi (fun x89 ex89 => ?_)
  refine z_bast (i := 25) hx hb hK hW hS rfl (z_inl (by decide)) dX12_feed_95 (fun H locs hz1 hW hS => ?_)
  refine lv_aload_n hx hb dX12_feed_96 rfl (lv_at hl 2 rfl) ?_
  refine lv_dup hx hb dX12_feed_97 rfl ?_
  refine z_get (T := TX12) (N := 96) (ci := 12) (i := 0) (v := .int 15) hx hb hts zi_X12_feed_X12 hown hK hW rfl rfl 31 (by decide) (hts (.fieldLink RX12 253 "PetrolBoardModel" "taped" "I") (List.mem_of_getElem? (i := 1) rfl)) (fun _ h => h) rfl dX12_feed_98 ?_
  refine lv_iconst (v := 1) hx hb dX12_feed_101 (by decide) ?_
  refine lv_iadd hx hb dX12_feed_102 ?_
  refine z_topi (v := 16) (by decide) ?_
  refine z_put (T := TX12) (N := 96) (ci := 12) (i := 0) (v := .int 16) (I1 := (z_up (z_up (z_up (z_up (z_up (z_up (z_up (z_up (z_up (z_up (z_up (z_up (z_up (z_up (z_up (z_up (z_up (z_up (z_up (z_up (z_up (z_up (z_up (z_up (z_up (z_up (z_up (z_up (z_up (z_up (z_up (z_up IM 25 (0 : Int32).toNatClampNeg (vp_nar .byte x5)) 0 31 1) 25 (1 : Int32).toNatClampNeg (vp_nar .byte x9)) 0 31 2) 25 (2 : Int32).toNatClampNeg (vp_nar .byte x13)) 0 31 3) 25 (3 : Int32).toNatClampNeg (vp_nar .byte x17)) 0 31 4) 25 (4 : Int32).toNatClampNeg (vp_nar .byte x22)) 0 31 5) 25 (5 : Int32).toNatClampNeg (vp_nar .byte x27)) 0 31 6) 25 (6 : Int32).toNatClampNeg (vp_nar .byte x32)) 0 31 7) 25 (7 : Int32).toNatClampNeg (vp_nar .byte x37)) 0 31 8) 25 (8 : Int32).toNatClampNeg (vp_nar .byte x43)) 0 31 9) 25 (9 : Int32).toNatClampNeg (vp_nar .byte x49)) 0 31 10) 25 (10 : Int32).toNatClampNeg (vp_nar .byte x55)) 0 31 11) 25 (11 : Int32).toNatClampNeg (vp_nar .byte x61)) 0 31 12) 25 (12 : Int32).toNatClampNeg (vp_nar .byte x68)) 0 31 13) 25 (13 : Int32).toNatClampNeg (vp_nar .byte x75)) 0 31 14) 25 (14 : Int32).toNatClampNeg (vp_nar .byte x82)) 0 31 15) 25 (15 : Int32).toNatClampNeg (vp_nar .byte x89)) 0 31 16)) (J1 := JM) (P1 := PM ad) hx hb hts zi_X12_feed_X12 tyX12 tyX12_ok nmX12 hown hK hW hS rfl rfl 31 (by decide) (hts (.fieldLink RX12 253 "PetrolBoardModel" "taped" "I") (List.mem_of_getElem? (i := 1) rfl)) (fun _ h => h) rfl rfl rfl (by first | rfl | exact congrArg _ z_up_s) (fun a b h ty => z_vI h ty) dX12_feed_103 (fun H locs hz1 hW hS => ?_)
  refine lv_iinc (v := 16) (lv' := [(6, .int 16), (7, .int a4), (0, .ref (ad 0)), (1, .int a1), (2, .int a2), (3, .int a3), (4, .int a4), (5, .int a5)]) hx hb dX12_feed_106 hl (k := 1) rfl (by decide) (by decide) rfl (fun ls hl => ?_)
  refine lv_goto (tgt := 18) hx hb dX12_feed_109 (by decide) ?_
  refine lv_iload hx hb dX12_feed_18 (lv_at hl 0 rfl) ?_
  refine lv_bipush (v := 20) hx hb dX12_feed_20 (by decide) ?_
  refine lv_icmp_ge (tgt := 112) hx hb dX12_feed_22 (by decide) (fun c90 => absurd c90 (by decide)) (fun c90 => ?_)
  refine lv_iload hx hb dX12_feed_25 (lv_at hl 0 rfl) ?_
  refine lv_iconst (v := 4) hx hb dX12_feed_27 (by decide) ?_
  refine lv_icmp_ge (tgt := 35) hx hb dX12_feed_28 (by decide) (fun c91 => ?_) (fun c91 => absurd (by decide) c91)
  refine lv_iload hx hb dX12_feed_35 (lv_at hl 0 rfl) ?_
  refine lv_bipush (v := 8) hx hb dX12_feed_37 (by decide) ?_
  refine lv_icmp_ge (tgt := 46) hx hb dX12_feed_39 (by decide) (fun c92 => ?_) (fun c92 => absurd (by decide) c92)
  refine lv_iload hx hb dX12_feed_46 (lv_at hl 0 rfl) ?_
  refine lv_bipush (v := 12) hx hb dX12_feed_48 (by decide) ?_
  refine lv_icmp_ge (tgt := 57) hx hb dX12_feed_50 (by decide) (fun c93 => ?_) (fun c93 => absurd (by decide) c93)
  refine lv_iload hx hb dX12_feed_57 (lv_at hl 0 rfl) ?_
  refine lv_bipush (v := 16) hx hb dX12_feed_59 (by decide) ?_
  refine lv_icmp_ge (tgt := 69) hx hb dX12_feed_61 (by decide) (fun c94 => ?_) (fun c94 => absurd (by decide) c94)
  refine lv_iload hx hb dX12_feed_69 (lv_at hl 7 rfl) ?_
  refine lv_istore (lv' := [(7, .int a5), (6, .int 16), (0, .ref (ad 0)), (1, .int a1), (2, .int a2), (3, .int a3), (4, .int a4), (5, .int a5)]) hx hb dX12_feed_71 hl (by decide) rfl (fun ls hl => ?_)
  refine lv_aload_n hx hb dX12_feed_73 rfl (lv_at hl 2 rfl) ?_
  refine z_get (T := TX12) (N := 96) (ci := 12) (i := 0) (v := .ref (ad 25)) hx hb hts zi_X12_feed_X12 hown hK hW rfl rfl 30 (by decide) (hts (.fieldLink RX12 83 "PetrolBoardModel" "tape" "[B") (List.mem_of_getElem? (i := 2) rfl)) (fun _ h => h) rfl dX12_feed_74 ?_
  refine lv_aload_n hx hb dX12_feed_77 rfl (lv_at hl 2 rfl) ?_
  refine z_get (T := TX12) (N := 96) (ci := 12) (i := 0) (v := .int 16) hx hb hts zi_X12_feed_X12 hown hK hW rfl rfl 31 (by decide) (hts (.fieldLink RX12 253 "PetrolBoardModel" "taped" "I") (List.mem_of_getElem? (i := 1) rfl)) (fun _ h => h) rfl dX12_feed_78 ?_
  refine lv_iload hx hb dX12_feed_81 (lv_at hl 0 rfl) ?_
  refine lv_bipush (v := 24) hx hb dX12_feed_83 (by decide) ?_
  refine lv_bipush (v := 8) hx hb dX12_feed_85 (by decide) ?_
  refine lv_iload hx hb dX12_feed_87 (lv_at hl 1 rfl) ?_
  refine lv_iconst (v := 4) hx hb dX12_feed_89 (by decide) ?_
  refine lv_irem hx hb dX12_feed_90 (by decide) ?_
  refine z_topi (v := 0) (by decide) ?_
  refine lv_imul hx hb dX12_feed_91 ?_
  refine z_topi (v := 0) (by decide) ?_
  refine lv_isub hx hb dX12_feed_92 ?_
  refine z_topi (v := 24) (by decide) ?_
  refine lv_ishr hx hb dX12_feed_93 ?_
  refine lv_topi (fun x95 ex95 => ?_)
  refine lv_i2b hx hb dX12_feed_94 rfl ?_
  refine lv_topi (fun x96 ex96 => ?_)
  refine z_bast (i := 25) hx hb hK hW hS rfl (z_inl (by decide)) dX12_feed_95 (fun H locs hz1 hW hS => ?_)
  refine lv_aload_n hx hb dX12_feed_96 rfl (lv_at hl 2 rfl) ?_
  refine lv_dup hx hb dX12_feed_97 rfl ?_
  refine z_get (T := TX12) (N := 96) (ci := 12) (i := 0) (v := .int 16) hx hb hts zi_X12_feed_X12 hown hK hW rfl rfl 31 (by decide) (hts (.fieldLink RX12 253 "PetrolBoardModel" "taped" "I") (List.mem_of_getElem? (i := 1) rfl)) (fun _ h => h) rfl dX12_feed_98 ?_
  refine lv_iconst (v := 1) hx hb dX12_feed_101 (by decide) ?_
  refine lv_iadd hx hb dX12_feed_102 ?_
  refine z_topi (v := 17) (by decide) ?_
  refine z_put (T := TX12) (N := 96) (ci := 12) (i := 0) (v := .int 17) (I1 := (z_up (z_up (z_up (z_up (z_up (z_up (z_up (z_up (z_up (z_up (z_up (z_up (z_up (z_up (z_up (z_up (z_up (z_up (z_up (z_up (z_up (z_up (z_up (z_up (z_up (z_up (z_up (z_up (z_up (z_up (z_up (z_up (z_up (z_up IM 25 (0 : Int32).toNatClampNeg (vp_nar .byte x5)) 0 31 1) 25 (1 : Int32).toNatClampNeg (vp_nar .byte x9)) 0 31 2) 25 (2 : Int32).toNatClampNeg (vp_nar .byte x13)) 0 31 3) 25 (3 : Int32).toNatClampNeg (vp_nar .byte x17)) 0 31 4) 25 (4 : Int32).toNatClampNeg (vp_nar .byte x22)) 0 31 5) 25 (5 : Int32).toNatClampNeg (vp_nar .byte x27)) 0 31 6) 25 (6 : Int32).toNatClampNeg (vp_nar .byte x32)) 0 31 7) 25 (7 : Int32).toNatClampNeg (vp_nar .byte x37)) 0 31 8) 25 (8 : Int32).toNatClampNeg (vp_nar .byte x43)) 0 31 9) 25 (9 : Int32).toNatClampNeg (vp_nar .byte x49)) 0 31 10) 25 (10 : Int32).toNatClampNeg (vp_nar .byte x55)) 0 31 11) 25 (11 : Int32).toNatClampNeg (vp_nar .byte x61)) 0 31 12) 25 (12 : Int32).toNatClampNeg (vp_nar .byte x68)) 0 31 13) 25 (13 : Int32).toNatClampNeg (vp_nar .byte x75)) 0 31 14) 25 (14 : Int32).toNatClampNeg (vp_nar .byte x82)) 0 31 15) 25 (15 : Int32).toNatClampNeg (vp_nar .byte x89)) 0 31 16) 25 (16 : Int32).toNatClampNeg (vp_nar .byte x96)) 0 31 17)) (J1 := JM) (P1 := PM ad) hx hb hts zi_X12_feed_X12 tyX12 tyX12_ok nmX12 hown hK hW hS rfl rfl 31 (by decide) (hts (.fieldLink RX12 253 "PetrolBoardModel" "taped" "I") (List.mem_of_getElem? (i := 1) rfl)) (fun _ h => h) rfl rfl rfl (by first | rfl | exact congrArg _ z_up_s) (fun a b h ty => z_vI h ty) dX12_feed_103 (fun H locs hz1 hW hS => ?_)
  refine lv_iinc (v := 17) (lv' := [(6, .int 17), (7, .int a5), (0, .ref (ad 0)), (1, .int a1), (2, .int a2), (3, .int a3), (4, .int a4), (5, .int a5)]) hx hb dX12_feed_106 hl (k := 1) rfl (by decide) (by decide) rfl (fun ls hl => ?_)
  refine lv_goto (tgt := 18) hx hb dX12_feed_109 (by decide) ?_
  refine lv_iload hx hb dX12_feed_18 (lv_at hl 0 rfl) ?_
  refine lv_bipush (v := 20) hx hb dX12_feed_20 (by decide) ?_
  refine lv_icmp_ge (tgt := 112) hx hb dX12_feed_22 (by decide) (fun c97 => absurd c97 (by decide)) (fun c97 => ?_)
  refine lv_iload hx hb dX12_feed_25 (lv_at hl 0 rfl) ?_
  refine lv_iconst (v := 4) hx hb dX12_feed_27 (by decide) ?_
  refine lv_icmp_ge (tgt := 35) hx hb dX12_feed_28 (by decide) (fun c98 => ?_) (fun c98 => absurd (by decide) c98)
  refine lv_iload hx hb dX12_feed_35 (lv_at hl 0 rfl) ?_
  refine lv_bipush (v := 8) hx hb dX12_feed_37 (by decide) ?_
  refine lv_icmp_ge (tgt := 46) hx hb dX12_feed_39 (by decide) (fun c99 => ?_) (fun c99 => absurd (by decide) c99)
  refine lv_iload hx hb dX12_feed_46 (lv_at hl 0 rfl) ?_
  refine lv_bipush (v := 12) hx hb dX12_feed_48 (by decide) ?_
  refine lv_icmp_ge (tgt := 57) hx hb dX12_feed_50 (by decide) (fun c100 => ?_) (fun c100 => absurd (by decide) c100)
  refine lv_iload hx hb dX12_feed_57 (lv_at hl 0 rfl) ?_
  refine lv_bipush (v := 16) hx hb dX12_feed_59 (by decide) ?_
  refine lv_icmp_ge (tgt := 69) hx hb dX12_feed_61 (by decide) (fun c101 => ?_) (fun c101 => absurd (by decide) c101)
  refine lv_iload hx hb dX12_feed_69 (lv_at hl 7 rfl) ?_
  refine lv_istore (lv' := [(7, .int a5), (6, .int 17), (0, .ref (ad 0)), (1, .int a1), (2, .int a2), (3, .int a3), (4, .int a4), (5, .int a5)]) hx hb dX12_feed_71 hl (by decide) rfl (fun ls hl => ?_)
  refine lv_aload_n hx hb dX12_feed_73 rfl (lv_at hl 2 rfl) ?_
  refine z_get (T := TX12) (N := 96) (ci := 12) (i := 0) (v := .ref (ad 25)) hx hb hts zi_X12_feed_X12 hown hK hW rfl rfl 30 (by decide) (hts (.fieldLink RX12 83 "PetrolBoardModel" "tape" "[B") (List.mem_of_getElem? (i := 2) rfl)) (fun _ h => h) rfl dX12_feed_74 ?_
  refine lv_aload_n hx hb dX12_feed_77 rfl (lv_at hl 2 rfl) ?_
  refine z_get (T := TX12) (N := 96) (ci := 12) (i := 0) (v := .int 17) hx hb hts zi_X12_feed_X12 hown hK hW rfl rfl 31 (by decide) (hts (.fieldLink RX12 253 "PetrolBoardModel" "taped" "I") (List.mem_of_getElem? (i := 1) rfl)) (fun _ h => h) rfl dX12_feed_78 ?_
  refine lv_iload hx hb dX12_feed_81 (lv_at hl 0 rfl) ?_
  refine lv_bipush (v := 24) hx hb dX12_feed_83 (by decide) ?_
  refine lv_bipush (v := 8) hx hb dX12_feed_85 (by decide) ?_
  refine lv_iload hx hb dX12_feed_87 (lv_at hl 1 rfl) ?_
  refine lv_iconst (v := 4) hx hb dX12_feed_89 (by decide) ?_
  refine lv_irem hx hb dX12_feed_90 (by decide) ?_
  refine z_topi (v := 1) (by decide) ?_
  refine lv_imul hx hb dX12_feed_91 ?_
  refine z_topi (v := 8) (by decide) ?_
  refine lv_isub hx hb dX12_feed_92 ?_
  refine z_topi (v := 16) (by decide) ?_
  refine lv_ishr hx hb dX12_feed_93 ?_
  refine lv_topi (fun x102 ex102 => ?_)
  refine lv_i2b hx hb dX12_feed_94 rfl ?_
  refine lv_topi (fun x103 ex103 => ?_)
  refine z_bast (i := 25) hx hb hK hW hS rfl (z_inl (by decide)) dX12_feed_95 (fun H locs hz1 hW hS => ?_)
  refine lv_aload_n hx hb dX12_feed_96 rfl (lv_at hl 2 rfl) ?_
  refine lv_dup hx hb dX12_feed_97 rfl ?_
  refine z_get (T := TX12) (N := 96) (ci := 12) (i := 0) (v := .int 17) hx hb hts zi_X12_feed_X12 hown hK hW rfl rfl 31 (by decide) (hts (.fieldLink RX12 253 "PetrolBoardModel" "taped" "I") (List.mem_of_getElem? (i := 1) rfl)) (fun _ h => h) rfl dX12_feed_98 ?_
  refine lv_iconst (v := 1) hx hb dX12_feed_101 (by decide) ?_
  refine lv_iadd hx hb dX12_feed_102 ?_
  refine z_topi (v := 18) (by decide) ?_
  refine z_put (T := TX12) (N := 96) (ci := 12) (i := 0) (v := .int 18) (I1 := (z_up (z_up (z_up (z_up (z_up (z_up (z_up (z_up (z_up (z_up (z_up (z_up (z_up (z_up (z_up (z_up (z_up (z_up (z_up (z_up (z_up (z_up (z_up (z_up (z_up (z_up (z_up (z_up (z_up (z_up (z_up (z_up (z_up (z_up (z_up (z_up IM 25 (0 : Int32).toNatClampNeg (vp_nar .byte x5)) 0 31 1) 25 (1 : Int32).toNatClampNeg (vp_nar .byte x9)) 0 31 2) 25 (2 : Int32).toNatClampNeg (vp_nar .byte x13)) 0 31 3) 25 (3 : Int32).toNatClampNeg (vp_nar .byte x17)) 0 31 4) 25 (4 : Int32).toNatClampNeg (vp_nar .byte x22)) 0 31 5) 25 (5 : Int32).toNatClampNeg (vp_nar .byte x27)) 0 31 6) 25 (6 : Int32).toNatClampNeg (vp_nar .byte x32)) 0 31 7) 25 (7 : Int32).toNatClampNeg (vp_nar .byte x37)) 0 31 8) 25 (8 : Int32).toNatClampNeg (vp_nar .byte x43)) 0 31 9) 25 (9 : Int32).toNatClampNeg (vp_nar .byte x49)) 0 31 10) 25 (10 : Int32).toNatClampNeg (vp_nar .byte x55)) 0 31 11) 25 (11 : Int32).toNatClampNeg (vp_nar .byte x61)) 0 31 12) 25 (12 : Int32).toNatClampNeg (vp_nar .byte x68)) 0 31 13) 25 (13 : Int32).toNatClampNeg (vp_nar .byte x75)) 0 31 14) 25 (14 : Int32).toNatClampNeg (vp_nar .byte x82)) 0 31 15) 25 (15 : Int32).toNatClampNeg (vp_nar .byte x89)) 0 31 16) 25 (16 : Int32).toNatClampNeg (vp_nar .byte x96)) 0 31 17) 25 (17 : Int32).toNatClampNeg (vp_nar .byte x103)) 0 31 18)) (J1 := JM) (P1 := PM ad) hx hb hts zi_X12_feed_X12 tyX12 tyX12_ok nmX12 hown hK hW hS rfl rfl 31 (by decide) (hts (.fieldLink RX12 253 "PetrolBoardModel" "taped" "I") (List.mem_of_getElem? (i := 1) rfl)) (fun _ h => h) rfl rfl rfl (by first | rfl | exact congrArg _ z_up_s) (fun a b h ty => z_vI h ty) dX12_feed_103 (fun H locs hz1 hW hS => ?_)
  refine lv_iinc (v := 18) (lv' := [(6, .int 18), (7, .int a5), (0, .ref (ad 0)), (1, .int a1), (2, .int a2), (3, .int a3), (4, .int a4), (5, .int a5)]) hx hb dX12_feed_106 hl (k := 1) rfl (by decide) (by decide) rfl (fun ls hl => ?_)
  refine lv_goto (tgt := 18) hx hb dX12_feed_109 (by decide) ?_
  refine lv_iload hx hb dX12_feed_18 (lv_at hl 0 rfl) ?_
  refine lv_bipush (v := 20) hx hb dX12_feed_20 (by decide) ?_
  refine lv_icmp_ge (tgt := 112) hx hb dX12_feed_22 (by decide) (fun c104 => absurd c104 (by decide)) (fun c104 => ?_)
  refine lv_iload hx hb dX12_feed_25 (lv_at hl 0 rfl) ?_
  refine lv_iconst (v := 4) hx hb dX12_feed_27 (by decide) ?_
  refine lv_icmp_ge (tgt := 35) hx hb dX12_feed_28 (by decide) (fun c105 => ?_) (fun c105 => absurd (by decide) c105)
  refine lv_iload hx hb dX12_feed_35 (lv_at hl 0 rfl) ?_
  refine lv_bipush (v := 8) hx hb dX12_feed_37 (by decide) ?_
  refine lv_icmp_ge (tgt := 46) hx hb dX12_feed_39 (by decide) (fun c106 => ?_) (fun c106 => absurd (by decide) c106)
  refine lv_iload hx hb dX12_feed_46 (lv_at hl 0 rfl) ?_
  refine lv_bipush (v := 12) hx hb dX12_feed_48 (by decide) ?_
  refine lv_icmp_ge (tgt := 57) hx hb dX12_feed_50 (by decide) (fun c107 => ?_) (fun c107 => absurd (by decide) c107)
  refine lv_iload hx hb dX12_feed_57 (lv_at hl 0 rfl) ?_
  refine lv_bipush (v := 16) hx hb dX12_feed_59 (by decide) ?_
  refine lv_icmp_ge (tgt := 69) hx hb dX12_feed_61 (by decide) (fun c108 => ?_) (fun c108 => absurd (by decide) c108)
  refine lv_iload hx hb dX12_feed_69 (lv_at hl 7 rfl) ?_
  refine lv_istore (lv' := [(7, .int a5), (6, .int 18), (0, .ref (ad 0)), (1, .int a1), (2, .int a2), (3, .int a3), (4, .int a4), (5, .int a5)]) hx hb dX12_feed_71 hl (by decide) rfl (fun ls hl => ?_)
  refine lv_aload_n hx hb dX12_feed_73 rfl (lv_at hl 2 rfl) ?_
  refine z_get (T := TX12) (N := 96) (ci := 12) (i := 0) (v := .ref (ad 25)) hx hb hts zi_X12_feed_X12 hown hK hW rfl rfl 30 (by decide) (hts (.fieldLink RX12 83 "PetrolBoardModel" "tape" "[B") (List.mem_of_getElem? (i := 2) rfl)) (fun _ h => h) rfl dX12_feed_74 ?_
  refine lv_aload_n hx hb dX12_feed_77 rfl (lv_at hl 2 rfl) ?_
  refine z_get (T := TX12) (N := 96) (ci := 12) (i := 0) (v := .int 18) hx hb hts zi_X12_feed_X12 hown hK hW rfl rfl 31 (by decide) (hts (.fieldLink RX12 253 "PetrolBoardModel" "taped" "I") (List.mem_of_getElem? (i := 1) rfl)) (fun _ h => h) rfl dX12_feed_78 ?_
  refine lv_iload hx hb dX12_feed_81 (lv_at hl 0 rfl) ?_
  refine lv_bipush (v := 24) hx hb dX12_feed_83 (by decide) ?_
  refine lv_bipush (v := 8) hx hb dX12_feed_85 (by decide) ?_
  refine lv_iload hx hb dX12_feed_87 (lv_at hl 1 rfl) ?_
  refine lv_iconst (v := 4) hx hb dX12_feed_89 (by decide) ?_
  refine lv_irem hx hb dX12_feed_90 (by decide) ?_
  refine z_topi (v := 2) (by decide) ?_
  refine lv_imul hx hb dX12_feed_91 ?_
  refine z_topi (v := 16) (by decide) ?_
  refine lv_isub hx hb dX12_feed_92 ?_
  refine z_topi (v := 8) (by decide) ?_
  refine lv_ishr hx hb dX12_feed_93 ?_
  refine lv_topi (fun x109 ex109 => ?_)
  refine lv_i2b hx hb dX12_feed_94 rfl ?_
  refine lv_topi (fun x110 ex110 => ?_)
  refine z_bast (i := 25) hx hb hK hW hS rfl (z_inl (by decide)) dX12_feed_95 (fun H locs hz1 hW hS => ?_)
  refine lv_aload_n hx hb dX12_feed_96 rfl (lv_at hl 2 rfl) ?_
  refine lv_dup hx hb dX12_feed_97 rfl ?_
  refine z_get (T := TX12) (N := 96) (ci := 12) (i := 0) (v := .int 18) hx hb hts zi_X12_feed_X12 hown hK hW rfl rfl 31 (by decide) (hts (.fieldLink RX12 253 "PetrolBoardModel" "taped" "I") (List.mem_of_getElem? (i := 1) rfl)) (fun _ h => h) rfl dX12_feed_98 ?_
  refine lv_iconst (v := 1) hx hb dX12_feed_101 (by decide) ?_
  refine lv_iadd hx hb dX12_feed_102 ?_
  refine z_topi (v := 19) (by decide) ?_
  refine z_put (T := TX12) (N := 96) (ci := 12) (i := 0) (v := .int 19) (I1 := (z_up (z_up (z_up (z_up (z_up (z_up (z_up (z_up (z_up (z_up (z_up (z_up (z_up (z_up (z_up (z_up (z_up (z_up (z_up (z_up (z_up (z_up (z_up (z_up (z_up (z_up (z_up (z_up (z_up (z_up (z_up (z_up (z_up (z_up (z_up (z_up (z_up (z_up IM 25 (0 : Int32).toNatClampNeg (vp_nar .byte x5)) 0 31 1) 25 (1 : Int32).toNatClampNeg (vp_nar .byte x9)) 0 31 2) 25 (2 : Int32).toNatClampNeg (vp_nar .byte x13)) 0 31 3) 25 (3 : Int32).toNatClampNeg (vp_nar .byte x17)) 0 31 4) 25 (4 : Int32).toNatClampNeg (vp_nar .byte x22)) 0 31 5) 25 (5 : Int32).toNatClampNeg (vp_nar .byte x27)) 0 31 6) 25 (6 : Int32).toNatClampNeg (vp_nar .byte x32)) 0 31 7) 25 (7 : Int32).toNatClampNeg (vp_nar .byte x37)) 0 31 8) 25 (8 : Int32).toNatClampNeg (vp_nar .byte x43)) 0 31 9) 25 (9 : Int32).toNatClampNeg (vp_nar .byte x49)) 0 31 10) 25 (10 : Int32).toNatClampNeg (vp_nar .byte x55)) 0 31 11) 25 (11 : Int32).toNatClampNeg (vp_nar .byte x61)) 0 31 12) 25 (12 : Int32).toNatClampNeg (vp_nar .byte x68)) 0 31 13) 25 (13 : Int32).toNatClampNeg (vp_nar .byte x75)) 0 31 14) 25 (14 : Int32).toNatClampNeg (vp_nar .byte x82)) 0 31 15) 25 (15 : Int32).toNatClampNeg (vp_nar .byte x89)) 0 31 16) 25 (16 : Int32).toNatClampNeg (vp_nar .byte x96)) 0 31 17) 25 (17 : Int32).toNatClampNeg (vp_nar .byte x103)) 0 31 18) 25 (18 : Int32).toNatClampNeg (vp_nar .byte x110)) 0 31 19)) (J1 := JM) (P1 := PM ad) hx hb hts zi_X12_feed_X12 tyX12 tyX12_ok nmX12 hown hK hW hS rfl rfl 31 (by decide) (hts (.fieldLink RX12 253 "PetrolBoardModel" "taped" "I") (List.mem_of_getElem? (i := 1) rfl)) (fun _ h => h) rfl rfl rfl (by first | rfl | exact congrArg _ z_up_s) (fun a b h ty => z_vI h ty) dX12_feed_103 (fun H locs hz1 hW hS => ?_)
  refine lv_iinc (v := 19) (lv' := [(6, .int 19), (7, .int a5), (0, .ref (ad 0)), (1, .int a1), (2, .int a2), (3, .int a3), (4, .int a4), (5, .int a5)]) hx hb dX12_feed_106 hl (k := 1) rfl (by decide) (by decide) rfl (fun ls hl => ?_)
  refine lv_goto (tgt := 18) hx hb dX12_feed_109 (by decide) ?_
  refine lv_iload hx hb dX12_feed_18 (lv_at hl 0 rfl) ?_
  refine lv_bipush (v := 20) hx hb dX12_feed_20 (by decide) ?_
  refine lv_icmp_ge (tgt := 112) hx hb dX12_feed_22 (by decide) (fun c111 => absurd c111 (by decide)) (fun c111 => ?_)
  refine lv_iload hx hb dX12_feed_25 (lv_at hl 0 rfl) ?_
  refine lv_iconst (v := 4) hx hb dX12_feed_27 (by decide) ?_
  refine lv_icmp_ge (tgt := 35) hx hb dX12_feed_28 (by decide) (fun c112 => ?_) (fun c112 => absurd (by decide) c112)
  refine lv_iload hx hb dX12_feed_35 (lv_at hl 0 rfl) ?_
  refine lv_bipush (v := 8) hx hb dX12_feed_37 (by decide) ?_
  refine lv_icmp_ge (tgt := 46) hx hb dX12_feed_39 (by decide) (fun c113 => ?_) (fun c113 => absurd (by decide) c113)
  refine lv_iload hx hb dX12_feed_46 (lv_at hl 0 rfl) ?_
  refine lv_bipush (v := 12) hx hb dX12_feed_48 (by decide) ?_
  refine lv_icmp_ge (tgt := 57) hx hb dX12_feed_50 (by decide) (fun c114 => ?_) (fun c114 => absurd (by decide) c114)
  refine lv_iload hx hb dX12_feed_57 (lv_at hl 0 rfl) ?_
  refine lv_bipush (v := 16) hx hb dX12_feed_59 (by decide) ?_
  refine lv_icmp_ge (tgt := 69) hx hb dX12_feed_61 (by decide) (fun c115 => ?_) (fun c115 => absurd (by decide) c115)
  refine lv_iload hx hb dX12_feed_69 (lv_at hl 7 rfl) ?_
  refine lv_istore (lv' := [(7, .int a5), (6, .int 19), (0, .ref (ad 0)), (1, .int a1), (2, .int a2), (3, .int a3), (4, .int a4), (5, .int a5)]) hx hb dX12_feed_71 hl (by decide) rfl (fun ls hl => ?_)
  refine lv_aload_n hx hb dX12_feed_73 rfl (lv_at hl 2 rfl) ?_
  refine z_get (T := TX12) (N := 96) (ci := 12) (i := 0) (v := .ref (ad 25)) hx hb hts zi_X12_feed_X12 hown hK hW rfl rfl 30 (by decide) (hts (.fieldLink RX12 83 "PetrolBoardModel" "tape" "[B") (List.mem_of_getElem? (i := 2) rfl)) (fun _ h => h) rfl dX12_feed_74 ?_
  refine lv_aload_n hx hb dX12_feed_77 rfl (lv_at hl 2 rfl) ?_
  refine z_get (T := TX12) (N := 96) (ci := 12) (i := 0) (v := .int 19) hx hb hts zi_X12_feed_X12 hown hK hW rfl rfl 31 (by decide) (hts (.fieldLink RX12 253 "PetrolBoardModel" "taped" "I") (List.mem_of_getElem? (i := 1) rfl)) (fun _ h => h) rfl dX12_feed_78 ?_
  refine lv_iload hx hb dX12_feed_81 (lv_at hl 0 rfl) ?_
  refine lv_bipush (v := 24) hx hb dX12_feed_83 (by decide) ?_
  refine lv_bipush (v := 8) hx hb dX12_feed_85 (by decide) ?_
  refine lv_iload hx hb dX12_feed_87 (lv_at hl 1 rfl) ?_
  refine lv_iconst (v := 4) hx hb dX12_feed_89 (by decide) ?_
  refine lv_irem hx hb dX12_feed_90 (by decide) ?_
  refine z_topi (v := 3) (by decide) ?_
  refine lv_imul hx hb dX12_feed_91 ?_
  refine z_topi (v := 24) (by decide) ?_
  refine lv_isub hx hb dX12_feed_92 ?_
  refine z_topi (v := 0) (by decide) ?_
  refine lv_ishr hx hb dX12_feed_93 ?_
  refine lv_topi (fun x116 ex116 => ?_)
  refine lv_i2b hx hb dX12_feed_94 rfl ?_
  refine lv_topi (fun x117 ex117 => ?_)
  refine z_bast (i := 25) hx hb hK hW hS rfl (z_inl (by decide)) dX12_feed_95 (fun H locs hz1 hW hS => ?_)
  refine lv_aload_n hx hb dX12_feed_96 rfl (lv_at hl 2 rfl) ?_
  refine lv_dup hx hb dX12_feed_97 rfl ?_
  refine z_get (T := TX12) (N := 96) (ci := 12) (i := 0) (v := .int 19) hx hb hts zi_X12_feed_X12 hown hK hW rfl rfl 31 (by decide) (hts (.fieldLink RX12 253 "PetrolBoardModel" "taped" "I") (List.mem_of_getElem? (i := 1) rfl)) (fun _ h => h) rfl dX12_feed_98 ?_
  refine lv_iconst (v := 1) hx hb dX12_feed_101 (by decide) ?_
  refine lv_iadd hx hb dX12_feed_102 ?_
  refine z_topi (v := 20) (by decide) ?_
  refine z_put (T := TX12) (N := 96) (ci := 12) (i := 0) (v := .int 20) (I1 := (z_up (z_up (z_up (z_up (z_up (z_up (z_up (z_up (z_up (z_up (z_up (z_up (z_up (z_up (z_up (z_up (z_up (z_up (z_up (z_up (z_up (z_up (z_up (z_up (z_up (z_up (z_up (z_up (z_up (z_up (z_up (z_up (z_up (z_up (z_up (z_up (z_up (z_up (z_up (z_up IM 25 (0 : Int32).toNatClampNeg (vp_nar .byte x5)) 0 31 1) 25 (1 : Int32).toNatClampNeg (vp_nar .byte x9)) 0 31 2) 25 (2 : Int32).toNatClampNeg (vp_nar .byte x13)) 0 31 3) 25 (3 : Int32).toNatClampNeg (vp_nar .byte x17)) 0 31 4) 25 (4 : Int32).toNatClampNeg (vp_nar .byte x22)) 0 31 5) 25 (5 : Int32).toNatClampNeg (vp_nar .byte x27)) 0 31 6) 25 (6 : Int32).toNatClampNeg (vp_nar .byte x32)) 0 31 7) 25 (7 : Int32).toNatClampNeg (vp_nar .byte x37)) 0 31 8) 25 (8 : Int32).toNatClampNeg (vp_nar .byte x43)) 0 31 9) 25 (9 : Int32).toNatClampNeg (vp_nar .byte x49)) 0 31 10) 25 (10 : Int32).toNatClampNeg (vp_nar .byte x55)) 0 31 11) 25 (11 : Int32).toNatClampNeg (vp_nar .byte x61)) 0 31 12) 25 (12 : Int32).toNatClampNeg (vp_nar .byte x68)) 0 31 13) 25 (13 : Int32).toNatClampNeg (vp_nar .byte x75)) 0 31 14) 25 (14 : Int32).toNatClampNeg (vp_nar .byte x82)) 0 31 15) 25 (15 : Int32).toNatClampNeg (vp_nar .byte x89)) 0 31 16) 25 (16 : Int32).toNatClampNeg (vp_nar .byte x96)) 0 31 17) 25 (17 : Int32).toNatClampNeg (vp_nar .byte x103)) 0 31 18) 25 (18 : Int32).toNatClampNeg (vp_nar .byte x110)) 0 31 19) 25 (19 : Int32).toNatClampNeg (vp_nar .byte x117)) 0 31 20)) (J1 := JM) (P1 := PM ad) hx hb hts zi_X12_feed_X12 tyX12 tyX12_ok nmX12 hown hK hW hS rfl rfl 31 (by decide) (hts (.fieldLink RX12 253 "PetrolBoardModel" "taped" "I") (List.mem_of_getElem? (i := 1) rfl)) (fun _ h => h) rfl rfl rfl (by first | rfl | exact congrArg _ z_up_s) (fun a b h ty => z_vI h ty) dX12_feed_103 (fun H locs hz1 hW hS => ?_)
  refine lv_iinc (v := 20) (lv' := [(6, .int 20), (7, .int a5), (0, .ref (ad 0)), (1, .int a1), (2, .int a2), (3, .int a3), (4, .int a4), (5, .int a5)]) hx hb dX12_feed_106 hl (k := 1) rfl (by decide) (by decide) rfl (fun ls hl => ?_)
  refine lv_goto (tgt := 18) hx hb dX12_feed_109 (by decide) ?_
  refine lv_iload hx hb dX12_feed_18 (lv_at hl 0 rfl) ?_
  refine lv_bipush (v := 20) hx hb dX12_feed_20 (by decide) ?_
  refine lv_icmp_ge (tgt := 112) hx hb dX12_feed_22 (by decide) (fun c118 => ?_) (fun c118 => absurd (by decide) c118)
  refine lv_aload_n hx hb dX12_feed_112 rfl (lv_at hl 2 rfl) ?_
  refine z_get (T := TX12) (N := 96) (ci := 12) (i := 0) (v := .int 20) hx hb hts zi_X12_feed_X12 hown hK hW rfl rfl 31 (by decide) (hts (.fieldLink RX12 253 "PetrolBoardModel" "taped" "I") (List.mem_of_getElem? (i := 1) rfl)) (fun _ h => h) rfl dX12_feed_113 ?_
  exact z_iret hx hb hr hK hS (Nat.le_of_ble_eq_true rfl) (Nat.le_of_ble_eq_true rfl) hlocks dX12_feed_116 (shM, ad, (z_up (z_up (z_up (z_up (z_up (z_up (z_up (z_up (z_up (z_up (z_up (z_up (z_up (z_up (z_up (z_up (z_up (z_up (z_up (z_up (z_up (z_up (z_up (z_up (z_up (z_up (z_up (z_up (z_up (z_up (z_up (z_up (z_up (z_up (z_up (z_up (z_up (z_up (z_up (z_up IM 25 (0 : Int32).toNatClampNeg (vp_nar .byte x5)) 0 31 1) 25 (1 : Int32).toNatClampNeg (vp_nar .byte x9)) 0 31 2) 25 (2 : Int32).toNatClampNeg (vp_nar .byte x13)) 0 31 3) 25 (3 : Int32).toNatClampNeg (vp_nar .byte x17)) 0 31 4) 25 (4 : Int32).toNatClampNeg (vp_nar .byte x22)) 0 31 5) 25 (5 : Int32).toNatClampNeg (vp_nar .byte x27)) 0 31 6) 25 (6 : Int32).toNatClampNeg (vp_nar .byte x32)) 0 31 7) 25 (7 : Int32).toNatClampNeg (vp_nar .byte x37)) 0 31 8) 25 (8 : Int32).toNatClampNeg (vp_nar .byte x43)) 0 31 9) 25 (9 : Int32).toNatClampNeg (vp_nar .byte x49)) 0 31 10) 25 (10 : Int32).toNatClampNeg (vp_nar .byte x55)) 0 31 11) 25 (11 : Int32).toNatClampNeg (vp_nar .byte x61)) 0 31 12) 25 (12 : Int32).toNatClampNeg (vp_nar .byte x68)) 0 31 13) 25 (13 : Int32).toNatClampNeg (vp_nar .byte x75)) 0 31 14) 25 (14 : Int32).toNatClampNeg (vp_nar .byte x82)) 0 31 15) 25 (15 : Int32).toNatClampNeg (vp_nar .byte x89)) 0 31 16) 25 (16 : Int32).toNatClampNeg (vp_nar .byte x96)) 0 31 17) 25 (17 : Int32).toNatClampNeg (vp_nar .byte x103)) 0 31 18) 25 (18 : Int32).toNatClampNeg (vp_nar .byte x110)) 0 31 19) 25 (19 : Int32).toNatClampNeg (vp_nar .byte x117)) 0 31 20), JM, PM ad) hW rfl
theorem zi_X12_here_X12 : ∀ w ∈ wsX120, w ∈ wsX12_here := fun w h => (List.mem_cons_of_mem _ (List.mem_append_right _ h))
set_option maxHeartbeats 4000000 in
set_option maxRecDepth 100000 in
theorem ct_X12_here (l : Launch) (G : z_G) (ad : Nat → Nat) : z_M l yX12_here wsX12_here { frames := 1, cells := 0, slots := 0, locals := 12 } [.ref (ad 0)] G (shM, ad, IM, JM, PM ad) (fun r u1 => u1 = (shM, ad, IM, JM, PM ad) ∧ r = (-1)) 0 0 := by
  intro sz
  refine z_headQ (cc := cX12_here) (maxL := 1) (ret := (some .int)) (by decide) rfl (Nat.le_of_ble_eq_true rfl) ?_
  intro p e s m below meth c ls hIn hK hsz hW hl
  obtain ⟨hx, hb, hr, hml, hown, hts, hlocks, hname⟩ := hIn
  subst hsz
  have hown : s.vm.findClass RX12 = some m.cls := hown
  have hA : ∀ q : Nat, s.heap.size ≤ q → z_A (shM, ad, IM, JM, PM ad) s.heap.size q := fun q h => Or.inr h
  generalize hAe : z_A (shM, ad, IM, JM, PM ad) s.heap.size = A at *
  have hS : va_S A s.heap s.heap [] := va_S.rf
  have hl : lv_has ls 1 [(0, .ref (ad 0))] := hl
  refine lv_aload_n hx hb dX12_here_0 rfl (lv_at hl 0 rfl) ?_
  refine z_get (T := TX12) (N := 96) (ci := 12) (i := 0) (v := .int 0) hx hb hts zi_X12_here_X12 hown hK hW rfl rfl 34 (by decide) (hts (.fieldLink RX12 256 "PetrolBoardModel" "point" "I") (List.mem_of_getElem? (i := 1) rfl)) (fun _ h => h) rfl dX12_here_1 ?_
  refine lv_aload_n hx hb dX12_here_4 rfl (lv_at hl 0 rfl) ?_
  refine z_get (T := TX12) (N := 96) (ci := 12) (i := 0) (v := .int 0) hx hb hts zi_X12_here_X12 hown hK hW rfl rfl 33 (by decide) (hts (.fieldLink RX12 259 "PetrolBoardModel" "limit" "I") (List.mem_of_getElem? (i := 2) rfl)) (fun _ h => h) rfl dX12_here_5 ?_
  refine lv_icmp_ge (tgt := 27) hx hb dX12_here_8 (by decide) (fun c1 => ?_) (fun c1 => absurd (by decide) c1)
  refine lv_iconst (v := (-1)) hx hb dX12_here_27 (by decide) ?_
  exact z_iret hx hb hr hK hS (Nat.le_of_ble_eq_true rfl) (Nat.le_of_ble_eq_true rfl) hlocks dX12_here_28 (shM, ad, IM, JM, PM ad) hW ⟨rfl, rfl⟩
theorem zi_X12_next_X12 : ∀ w ∈ wsX120, w ∈ wsX12_next := fun w h => (List.mem_cons_of_mem _ (List.mem_append_right _ h))
set_option maxHeartbeats 4000000 in
set_option maxRecDepth 100000 in
theorem ct_X12_next (l : Launch) (G : z_G) (ad : Nat → Nat) : z_Mv l yX12_next wsX12_next { frames := 2, cells := 0, slots := 0, locals := 34 } [.ref (ad 0)] G (shM, ad, IM, JM, PM ad) (fun u1 => u1 = (shM, ad, IM, (z_up JM 0 41 (-1)), PM ad)) 0 0 := by
  intro sz
  refine z_headQ (cc := cX12_next) (maxL := 2) (ret := none) (by decide) rfl (Nat.le_of_ble_eq_true rfl) ?_
  intro p e s m below meth c ls hIn hK hsz hW hl
  obtain ⟨hx, hb, hr, hml, hown, hts, hlocks, hname⟩ := hIn
  subst hsz
  have hown : s.vm.findClass RX12 = some m.cls := hown
  have hA : ∀ q : Nat, s.heap.size ≤ q → z_A (shM, ad, IM, JM, PM ad) s.heap.size q := fun q h => Or.inr h
  generalize hAe : z_A (shM, ad, IM, JM, PM ad) s.heap.size = A at *
  have hS : va_S A s.heap s.heap [] := va_S.rf
  have hl : lv_has ls 2 [(0, .ref (ad 0))] := hl
  refine lv_aload_n hx hb dX12_next_0 rfl (lv_at hl 0 rfl) ?_
  refine z_ci hW hS hA (va_runV (As := []) (rest := []) ⟨hx, hb, hml, hown, hts⟩ (ct_X12_here l G ad  _) (cwV 0 hts gX12_next_X12_here rfl rfl rfl (by decide +kernel) ⟨Nat.le_of_ble_eq_true rfl, Nat.le_of_ble_eq_true rfl⟩) (z_preV hK hW rfl rfl) rfl rfl hl.1 rfl (lv_room (Nat.le_of_ble_eq_true rfl)) dX12_next_1 ⟨Nat.le_of_ble_eq_true rfl, Nat.le_of_ble_eq_true rfl⟩) (fun r u1 H locs hp hW hS => ?_)
  obtain ⟨e9, rfl⟩ := hp
  rw [e9] at hW
  refine lv_bipush (v := 32) hx hb dX12_next_4 (by decide) ?_
  refine lv_icmp_eq (tgt := 18) hx hb dX12_next_6 (by decide) (fun c1 => absurd c1 (by decide)) (fun c1 => ?_)
  refine lv_aload_n hx hb dX12_next_9 rfl (lv_at hl 0 rfl) ?_
  refine z_ci hW hS hA (va_runV (As := []) (rest := []) ⟨hx, hb, hml, hown, hts⟩ (ct_X12_here l G ad  _) (cwV 0 hts gX12_next_X12_here rfl rfl rfl (by decide +kernel) ⟨Nat.le_of_ble_eq_true rfl, Nat.le_of_ble_eq_true rfl⟩) (z_preV hK hW rfl rfl) rfl rfl hl.1 rfl (lv_room (Nat.le_of_ble_eq_true rfl)) dX12_next_10 ⟨Nat.le_of_ble_eq_true rfl, Nat.le_of_ble_eq_true rfl⟩) (fun r u1 H locs hp hW hS => ?_)
  obtain ⟨e9, rfl⟩ := hp
  rw [e9] at hW
  refine lv_bipush (v := 10) hx hb dX12_next_13 (by decide) ?_
  refine lv_icmp_ne (tgt := 31) hx hb dX12_next_15 (by decide) (fun c2 => ?_) (fun c2 => absurd c2 (by decide))
  refine lv_aload_n hx hb dX12_next_31 rfl (lv_at hl 0 rfl) ?_
  refine lv_aload_n hx hb dX12_next_32 rfl (lv_at hl 0 rfl) ?_
  refine z_get (T := TX12) (N := 96) (ci := 12) (i := 0) (v := .int 0) hx hb hts zi_X12_next_X12 hown hK hW rfl rfl 34 (by decide) (hts (.fieldLink RX12 256 "PetrolBoardModel" "point" "I") (List.mem_of_getElem? (i := 1) rfl)) (fun _ h => h) rfl dX12_next_33 ?_
  refine z_put (T := TX12) (N := 96) (ci := 12) (i := 0) (v := .int 0) (I1 := (z_up IM 0 35 0)) (J1 := JM) (P1 := PM ad) hx hb hts zi_X12_next_X12 tyX12 tyX12_ok nmX12 hown hK hW hS rfl rfl 35 (by decide) (hts (.fieldLink RX12 266 "PetrolBoardModel" "from" "I") (List.mem_of_getElem? (i := 2) rfl)) (fun _ h => h) rfl rfl rfl (by first | rfl | exact congrArg _ z_up_s) (fun a b h ty => z_vI h ty) dX12_next_36 (fun H locs hz1 hW hS => ?_)
  rw [show (z_up IM 0 35 0) = IM from z_up_id rfl] at hW
  refine lv_aload_n hx hb dX12_next_39 rfl (lv_at hl 0 rfl) ?_
  refine z_ci hW hS hA (va_runV (As := []) (rest := []) ⟨hx, hb, hml, hown, hts⟩ (ct_X12_here l G ad  _) (cwV 0 hts gX12_next_X12_here rfl rfl rfl (by decide +kernel) ⟨Nat.le_of_ble_eq_true rfl, Nat.le_of_ble_eq_true rfl⟩) (z_preV hK hW rfl rfl) rfl rfl hl.1 rfl (lv_room (Nat.le_of_ble_eq_true rfl)) dX12_next_40 ⟨Nat.le_of_ble_eq_true rfl, Nat.le_of_ble_eq_true rfl⟩) (fun r u1 H locs hp hW hS => ?_)
  obtain ⟨e9, rfl⟩ := hp
  rw [e9] at hW
  refine lv_istore_n (lv' := [(1, .int (-1)), (0, .ref (ad 0))]) hx hb dX12_next_43 rfl hl (by decide) rfl (fun ls hl => ?_)
  refine lv_aload_n hx hb dX12_next_44 rfl (lv_at hl 1 rfl) ?_
  refine lv_ldc2 (v := (-1)) hx hb hown (hts (.constantLong RX12 269 (-1)) (List.mem_of_getElem? (i := 3) rfl)) dX12_next_45 ?_
  refine z_put (T := TX12) (N := 96) (ci := 12) (i := 0) (v := .long (-1)) (I1 := IM) (J1 := (z_up JM 0 41 (-1))) (P1 := PM ad) hx hb hts zi_X12_next_X12 tyX12 tyX12_ok nmX12 hown hK hW hS rfl rfl 41 (by decide) (hts (.fieldLink RX12 271 "PetrolBoardModel" "word" "J") (List.mem_of_getElem? (i := 4) rfl)) (fun _ h => h) rfl rfl rfl (by first | rfl | exact congrArg _ z_up_s) (fun a b h ty => z_vJ h ty) dX12_next_48 (fun H locs hz1 hW hS => ?_)
  refine lv_aload_n hx hb dX12_next_51 rfl (lv_at hl 1 rfl) ?_
  refine lv_iconst (v := 0) hx hb dX12_next_52 (by decide) ?_
  refine z_put (T := TX12) (N := 96) (ci := 12) (i := 0) (v := .int 0) (I1 := (z_up IM 0 37 0)) (J1 := (z_up JM 0 41 (-1))) (P1 := PM ad) hx hb hts zi_X12_next_X12 tyX12 tyX12_ok nmX12 hown hK hW hS rfl rfl 37 (by decide) (hts (.fieldLink RX12 275 "PetrolBoardModel" "sign" "I") (List.mem_of_getElem? (i := 5) rfl)) (fun _ h => h) rfl rfl rfl (by first | rfl | exact congrArg _ z_up_s) (fun a b h ty => z_vI h ty) dX12_next_53 (fun H locs hz1 hW hS => ?_)
  rw [show (z_up IM 0 37 0) = IM from z_up_id rfl] at hW
  refine lv_aload_n hx hb dX12_next_56 rfl (lv_at hl 1 rfl) ?_
  refine lv_iconst (v := 0) hx hb dX12_next_57 (by decide) ?_
  refine z_put (T := TX12) (N := 96) (ci := 12) (i := 0) (v := .int 0) (I1 := (z_up IM 0 38 0)) (J1 := (z_up JM 0 41 (-1))) (P1 := PM ad) hx hb hts zi_X12_next_X12 tyX12 tyX12_ok nmX12 hown hK hW hS rfl rfl 38 (by decide) (hts (.fieldLink RX12 278 "PetrolBoardModel" "value" "I") (List.mem_of_getElem? (i := 6) rfl)) (fun _ h => h) rfl rfl rfl (by first | rfl | exact congrArg _ z_up_s) (fun a b h ty => z_vI h ty) dX12_next_58 (fun H locs hz1 hW hS => ?_)
  rw [show (z_up IM 0 38 0) = IM from z_up_id rfl] at hW
  refine lv_iload_n hx hb dX12_next_61 rfl (lv_at hl 0 rfl) ?_
  refine lv_if_ge (tgt := 73) hx hb dX12_next_62 (by decide) (fun c3 => absurd c3 (by decide)) (fun c3 => ?_)
  refine lv_aload_n hx hb dX12_next_65 rfl (lv_at hl 1 rfl) ?_
  refine lv_iconst (v := 0) hx hb dX12_next_66 (by decide) ?_
  refine z_put (T := TX12) (N := 96) (ci := 12) (i := 0) (v := .int 0) (I1 := (z_up IM 0 36 0)) (J1 := (z_up JM 0 41 (-1))) (P1 := PM ad) hx hb hts zi_X12_next_X12 tyX12 tyX12_ok nmX12 hown hK hW hS rfl rfl 36 (by decide) (hts (.fieldLink RX12 281 "PetrolBoardModel" "token" "I") (List.mem_of_getElem? (i := 7) rfl)) (fun _ h => h) rfl rfl rfl (by first | rfl | exact congrArg _ z_up_s) (fun a b h ty => z_vI h ty) dX12_next_67 (fun H locs hz1 hW hS => ?_)
  rw [show (z_up IM 0 36 0) = IM from z_up_id rfl] at hW
  refine lv_goto (tgt := 282) hx hb dX12_next_70 (by decide) ?_
  exact z_vret hx hb hr hK hS (Nat.le_of_ble_eq_true rfl) (Nat.le_of_ble_eq_true rfl) hlocks dX12_next_282 (shM, ad, IM, (z_up JM 0 41 (-1)), PM ad) hW rfl
theorem zi_X12_orders_X12 : ∀ w ∈ wsX120, w ∈ wsX12_orders := fun w h => (List.mem_cons_of_mem _ (List.mem_append_right _ h))
set_option maxHeartbeats 4000000 in
set_option maxRecDepth 100000 in
theorem ct_X12_orders (l : Launch) (G : z_G) (ad : Nat → Nat) (a1 : Int32) (a2 : Int32) : z_M l yX12_orders wsX12_orders { frames := 3, cells := 0, slots := 0, locals := 55 } [.ref (ad 0), .int a1, .int a2] G (shM, ad, IM, JM, PM ad) (fun r u1 => r = fr_orders a1 a2) 0 0 := by
  intro sz
  refine z_headQ (cc := cX12_orders) (maxL := 5) (ret := (some .int)) (by decide) rfl (Nat.le_of_ble_eq_true rfl) ?_
  intro p e s m below meth c ls hIn hK hsz hW hl
  obtain ⟨hx, hb, hr, hml, hown, hts, hlocks, hname⟩ := hIn
  subst hsz
  have hown : s.vm.findClass RX12 = some m.cls := hown
  have hA : ∀ q : Nat, s.heap.size ≤ q → z_A (shM, ad, IM, JM, PM ad) s.heap.size q := fun q h => Or.inr h
  generalize hAe : z_A (shM, ad, IM, JM, PM ad) s.heap.size = A at *
  have hS : va_S A s.heap s.heap [] := va_S.rf
  have hl : lv_has ls 5 [(0, .ref (ad 0)), (1, .int a1), (2, .int a2)] := hl
  refine lv_iload_n hx hb dX12_orders_0 rfl (lv_at hl 1 rfl) ?_
  refine lv_if_lt (tgt := 19) hx hb dX12_orders_1 (by decide) (fun c1 => ?_) (fun c1 => ?_)
  · refine lv_bipush (v := (-2)) hx hb dX12_orders_19 (by decide) ?_
    exact z_iret hx hb hr hK hS (Nat.le_of_ble_eq_true rfl) (Nat.le_of_ble_eq_true rfl) hlocks dX12_orders_21 (shM, ad, IM, JM, PM ad) hW (by unfold fr_orders; split <;> first | rfl | decide | (rename_i q; exfalso; simp only [Int32.lt_iff_toInt_lt, Int32.le_iff_toInt_le, ← Int32.toInt_inj, z_l0, z_l1, z_l23, true_and, and_true] at q c1; omega))
  · refine lv_iload_n hx hb dX12_orders_4 rfl (lv_at hl 1 rfl) ?_
    refine lv_aload_n hx hb dX12_orders_5 rfl (lv_at hl 0 rfl) ?_
    refine z_get (T := TX12) (N := 96) (ci := 12) (i := 0) (v := .int 0) hx hb hts zi_X12_orders_X12 hown hK hW rfl rfl 31 (by decide) (hts (.fieldLink RX12 253 "PetrolBoardModel" "taped" "I") (List.mem_of_getElem? (i := 1) rfl)) (fun _ h => h) rfl dX12_orders_6 ?_
    refine lv_icmp_gt (tgt := 19) hx hb dX12_orders_9 (by decide) (fun c2 => ?_) (fun c2 => ?_)
    · refine lv_bipush (v := (-2)) hx hb dX12_orders_19 (by decide) ?_
      exact z_iret hx hb hr hK hS (Nat.le_of_ble_eq_true rfl) (Nat.le_of_ble_eq_true rfl) hlocks dX12_orders_21 (shM, ad, IM, JM, PM ad) hW (by unfold fr_orders; split <;> first | rfl | decide | (rename_i q; exfalso; simp only [Int32.lt_iff_toInt_lt, Int32.le_iff_toInt_le, ← Int32.toInt_inj, z_l0, z_l1, z_l23, true_and, and_true] at q c1 c2; omega))
    · refine lv_iload_n hx hb dX12_orders_12 rfl (lv_at hl 2 rfl) ?_
      refine z_ci hW hS hA (va_runS (As := [.int a2]) (rest := []) ⟨hx, hb, hml, hown, hts⟩ (ct_X12_isMonth l G (shM, ad, IM, JM, PM ad) a2 _) (va_cwS 1 hts gX12_orders_X12_isMonth rfl rfl rfl (by decide +kernel) ⟨Nat.le_of_ble_eq_true rfl, Nat.le_of_ble_eq_true rfl⟩) (z_preS hK hW) rfl rfl hl.1 rfl (lv_room (Nat.le_of_ble_eq_true rfl)) dX12_orders_13 ⟨Nat.le_of_ble_eq_true rfl, Nat.le_of_ble_eq_true rfl⟩) (fun r u1 H locs hp hW hS => ?_)
      obtain ⟨e9, hp⟩ := hp
      rw [e9] at hW
      rcases hp with ⟨rfl, h3, h4⟩ | ⟨rfl, h5⟩
      · refine lv_if_ne (tgt := 22) hx hb dX12_orders_16 (by decide) (fun c6 => ?_) (fun c6 => absurd c6 (by decide))
        have e6 : a1 = 0 := (by simp only [Int32.lt_iff_toInt_lt, Int32.le_iff_toInt_le, ← Int32.toInt_inj, z_l0, z_l23] at c1 c2 ⊢; omega)
        subst e6
        refine lv_aload_n hx hb dX12_orders_22 rfl (lv_at hl 0 rfl) ?_
        refine z_get (T := TX12) (N := 96) (ci := 12) (i := 0) (v := .int 0) hx hb hts zi_X12_orders_X12 hown hK hW rfl rfl 13 (by decide) (hts (.fieldLink RX12 408 "PetrolBoardModel" "texts" "I") (List.mem_of_getElem? (i := 2) rfl)) (fun _ h => h) rfl dX12_orders_23 ?_
        refine lv_bipush (v := 12) hx hb dX12_orders_26 (by decide) ?_
        refine lv_icmp_ne (tgt := 34) hx hb dX12_orders_28 (by decide) (fun c7 => ?_) (fun c7 => absurd c7 (by decide))
        refine lv_aload_n hx hb dX12_orders_34 rfl (lv_at hl 0 rfl) ?_
        refine lv_iload_n hx hb dX12_orders_35 rfl (lv_at hl 1 rfl) ?_
        refine z_put (T := TX12) (N := 96) (ci := 12) (i := 0) (v := .int 0) (I1 := (z_up IM 0 33 0)) (J1 := JM) (P1 := PM ad) hx hb hts zi_X12_orders_X12 tyX12 tyX12_ok nmX12 hown hK hW hS rfl rfl 33 (by decide) (hts (.fieldLink RX12 259 "PetrolBoardModel" "limit" "I") (List.mem_of_getElem? (i := 3) rfl)) (fun _ h => h) rfl rfl rfl (by first | rfl | exact congrArg _ z_up_s) (fun a b h ty => z_vI h ty) dX12_orders_36 (fun H locs hz1 hW hS => ?_)
        rw [show (z_up IM 0 33 0) = IM from z_up_id rfl] at hW
        refine lv_aload_n hx hb dX12_orders_39 rfl (lv_at hl 0 rfl) ?_
        refine lv_iconst (v := 0) hx hb dX12_orders_40 (by decide) ?_
        refine z_put (T := TX12) (N := 96) (ci := 12) (i := 0) (v := .int 0) (I1 := (z_up IM 0 31 0)) (J1 := JM) (P1 := PM ad) hx hb hts zi_X12_orders_X12 tyX12 tyX12_ok nmX12 hown hK hW hS rfl rfl 31 (by decide) (hts (.fieldLink RX12 253 "PetrolBoardModel" "taped" "I") (List.mem_of_getElem? (i := 1) rfl)) (fun _ h => h) rfl rfl rfl (by first | rfl | exact congrArg _ z_up_s) (fun a b h ty => z_vI h ty) dX12_orders_41 (fun H locs hz1 hW hS => ?_)
        rw [show (z_up IM 0 31 0) = IM from z_up_id rfl] at hW
        refine lv_aload_n hx hb dX12_orders_44 rfl (lv_at hl 0 rfl) ?_
        refine lv_iconst (v := 0) hx hb dX12_orders_45 (by decide) ?_
        refine z_put (T := TX12) (N := 96) (ci := 12) (i := 0) (v := .int 0) (I1 := (z_up IM 0 34 0)) (J1 := JM) (P1 := PM ad) hx hb hts zi_X12_orders_X12 tyX12 tyX12_ok nmX12 hown hK hW hS rfl rfl 34 (by decide) (hts (.fieldLink RX12 256 "PetrolBoardModel" "point" "I") (List.mem_of_getElem? (i := 4) rfl)) (fun _ h => h) rfl rfl rfl (by first | rfl | exact congrArg _ z_up_s) (fun a b h ty => z_vI h ty) dX12_orders_46 (fun H locs hz1 hW hS => ?_)
        rw [show (z_up IM 0 34 0) = IM from z_up_id rfl] at hW
        refine lv_aload_n hx hb dX12_orders_49 rfl (lv_at hl 0 rfl) ?_
        refine lv_iconst (v := (-1)) hx hb dX12_orders_50 (by decide) ?_
        refine z_put (T := TX12) (N := 96) (ci := 12) (i := 0) (v := .int (-1)) (I1 := (z_up IM 0 32 (-1))) (J1 := JM) (P1 := PM ad) hx hb hts zi_X12_orders_X12 tyX12 tyX12_ok nmX12 hown hK hW hS rfl rfl 32 (by decide) (hts (.fieldLink RX12 87 "PetrolBoardModel" "faultAt" "I") (List.mem_of_getElem? (i := 5) rfl)) (fun _ h => h) rfl rfl rfl (by first | rfl | exact congrArg _ z_up_s) (fun a b h ty => z_vI h ty) dX12_orders_51 (fun H locs hz1 hW hS => ?_)
        rw [show (z_up IM 0 32 (-1)) = IM from z_up_id rfl] at hW
        refine lv_aload_n hx hb dX12_orders_54 rfl (lv_at hl 0 rfl) ?_
        refine lv_iconst (v := 0) hx hb dX12_orders_55 (by decide) ?_
        refine z_put (T := TX12) (N := 96) (ci := 12) (i := 0) (v := .int 0) (I1 := (z_up IM 0 42 0)) (J1 := JM) (P1 := PM ad) hx hb hts zi_X12_orders_X12 tyX12 tyX12_ok nmX12 hown hK hW hS rfl rfl 42 (by decide) (hts (.fieldLink RX12 294 "PetrolBoardModel" "isWrong" "Z") (List.mem_of_getElem? (i := 6) rfl)) (fun _ h => h) rfl (by decide) rfl (by first | rfl | exact congrArg _ z_up_s) (fun a b h ty => z_vI h ty) dX12_orders_56 (fun H locs hz1 hW hS => ?_)
        rw [show (z_up IM 0 42 0) = IM from z_up_id rfl] at hW
        refine lv_aload_n hx hb dX12_orders_59 rfl (lv_at hl 0 rfl) ?_
        refine z_get (T := TX12) (N := 96) (ci := 12) (i := 0) (v := .int 0) hx hb hts zi_X12_orders_X12 hown hK hW rfl rfl 14 (by decide) (hts (.fieldLink RX12 411 "PetrolBoardModel" "statements" "I") (List.mem_of_getElem? (i := 7) rfl)) (fun _ h => h) rfl dX12_orders_60 ?_
        refine lv_istore_n (lv' := [(3, .int 0), (0, .ref (ad 0)), (1, .int 0), (2, .int a2)]) hx hb dX12_orders_63 rfl hl (by decide) rfl (fun ls hl => ?_)
        refine lv_aload_n hx hb dX12_orders_64 rfl (lv_at hl 1 rfl) ?_
        refine z_get (T := TX12) (N := 96) (ci := 12) (i := 0) (v := .int 0) hx hb hts zi_X12_orders_X12 hown hK hW rfl rfl 15 (by decide) (hts (.fieldLink RX12 337 "PetrolBoardModel" "nodes" "I") (List.mem_of_getElem? (i := 8) rfl)) (fun _ h => h) rfl dX12_orders_65 ?_
        refine lv_istore (lv' := [(4, .int 0), (3, .int 0), (0, .ref (ad 0)), (1, .int 0), (2, .int a2)]) hx hb dX12_orders_68 hl (by decide) rfl (fun ls hl => ?_)
        refine lv_aload_n hx hb dX12_orders_70 rfl (lv_at hl 2 rfl) ?_
        refine z_cv hW hS hA (va_runV (As := []) (rest := []) ⟨hx, hb, hml, hown, hts⟩ (ct_X12_next l G ad _) (cwV 0 hts gX12_orders_X12_next rfl rfl rfl (by decide +kernel) ⟨Nat.le_of_ble_eq_true rfl, Nat.le_of_ble_eq_true rfl⟩) (z_preV hK hW rfl rfl) rfl rfl hl.1 rfl (lv_room (Nat.le_of_ble_eq_true rfl)) dX12_orders_71 ⟨Nat.le_of_ble_eq_true rfl, Nat.le_of_ble_eq_true rfl⟩) (fun u1 H locs hp hW hS => ?_)
        rw [hp] at hW
        refine lv_aload_n hx hb dX12_orders_74 rfl (lv_at hl 2 rfl) ?_
        refine z_get (T := TX12) (N := 96) (ci := 12) (i := 0) (v := .int 0) hx hb hts zi_X12_orders_X12 hown hK hW rfl rfl 36 (by decide) (hts (.fieldLink RX12 281 "PetrolBoardModel" "token" "I") (List.mem_of_getElem? (i := 9) rfl)) (fun _ h => h) rfl dX12_orders_75 ?_
        refine lv_if_eq (tgt := 134) hx hb dX12_orders_78 (by decide) (fun c8 => ?_) (fun c8 => absurd (by decide) c8)
        refine lv_aload_n hx hb dX12_orders_134 rfl (lv_at hl 2 rfl) ?_
        refine z_get (T := TX12) (N := 96) (ci := 12) (i := 0) (v := .int 0) hx hb hts zi_X12_orders_X12 hown hK hW rfl rfl 42 (by decide) (hts (.fieldLink RX12 294 "PetrolBoardModel" "isWrong" "Z") (List.mem_of_getElem? (i := 6) rfl)) (fun _ h => h) rfl dX12_orders_135 ?_
        refine lv_if_eq (tgt := 154) hx hb dX12_orders_138 (by decide) (fun c9 => ?_) (fun c9 => absurd (by decide) c9)
        refine lv_aload_n hx hb dX12_orders_154 rfl (lv_at hl 2 rfl) ?_
        refine z_get (T := TX12) (N := 96) (ci := 12) (i := 0) (v := .ref (ad 11)) hx hb hts zi_X12_orders_X12 hown hK hW rfl rfl 16 (by decide) (hts (.fieldLink RX12 40 "PetrolBoardModel" "textFirst" "[I") (List.mem_of_getElem? (i := 10) rfl)) (fun _ h => h) rfl dX12_orders_155 ?_
        refine lv_aload_n hx hb dX12_orders_158 rfl (lv_at hl 2 rfl) ?_
        refine z_get (T := TX12) (N := 96) (ci := 12) (i := 0) (v := .int 0) hx hb hts zi_X12_orders_X12 hown hK hW rfl rfl 13 (by decide) (hts (.fieldLink RX12 408 "PetrolBoardModel" "texts" "I") (List.mem_of_getElem? (i := 2) rfl)) (fun _ h => h) rfl dX12_orders_159 ?_
        refine lv_iload_n hx hb dX12_orders_162 rfl (lv_at hl 1 rfl) ?_
        refine z_iast (i := 11) hx hb hK hW hS rfl (z_inl (by decide)) dX12_orders_163 (fun H locs hz1 hW hS => ?_)
        rw [show (z_up IM 11 (0 : Int32).toNatClampNeg 0) = IM from z_up_id rfl] at hW
        refine lv_aload_n hx hb dX12_orders_164 rfl (lv_at hl 2 rfl) ?_
        refine z_get (T := TX12) (N := 96) (ci := 12) (i := 0) (v := .ref (ad 12)) hx hb hts zi_X12_orders_X12 hown hK hW rfl rfl 17 (by decide) (hts (.fieldLink RX12 43 "PetrolBoardModel" "textMany" "[I") (List.mem_of_getElem? (i := 11) rfl)) (fun _ h => h) rfl dX12_orders_165 ?_
        refine lv_aload_n hx hb dX12_orders_168 rfl (lv_at hl 2 rfl) ?_
        refine z_get (T := TX12) (N := 96) (ci := 12) (i := 0) (v := .int 0) hx hb hts zi_X12_orders_X12 hown hK hW rfl rfl 13 (by decide) (hts (.fieldLink RX12 408 "PetrolBoardModel" "texts" "I") (List.mem_of_getElem? (i := 2) rfl)) (fun _ h => h) rfl dX12_orders_169 ?_
        refine lv_aload_n hx hb dX12_orders_172 rfl (lv_at hl 2 rfl) ?_
        refine z_get (T := TX12) (N := 96) (ci := 12) (i := 0) (v := .int 0) hx hb hts zi_X12_orders_X12 hown hK hW rfl rfl 14 (by decide) (hts (.fieldLink RX12 411 "PetrolBoardModel" "statements" "I") (List.mem_of_getElem? (i := 7) rfl)) (fun _ h => h) rfl dX12_orders_173 ?_
        refine lv_iload_n hx hb dX12_orders_176 rfl (lv_at hl 1 rfl) ?_
        refine lv_isub hx hb dX12_orders_177 ?_
        refine z_topi (v := 0) (by decide) ?_
        refine z_iast (i := 12) hx hb hK hW hS rfl (z_inl (by decide)) dX12_orders_178 (fun H locs hz1 hW hS => ?_)
        rw [show (z_up IM 12 (0 : Int32).toNatClampNeg 0) = IM from z_up_id rfl] at hW
        refine lv_aload_n hx hb dX12_orders_179 rfl (lv_at hl 2 rfl) ?_
        refine z_get (T := TX12) (N := 96) (ci := 12) (i := 0) (v := .ref (ad 13)) hx hb hts zi_X12_orders_X12 hown hK hW rfl rfl 18 (by decide) (hts (.fieldLink RX12 46 "PetrolBoardModel" "textMonth" "[I") (List.mem_of_getElem? (i := 12) rfl)) (fun _ h => h) rfl dX12_orders_180 ?_
        refine lv_aload_n hx hb dX12_orders_183 rfl (lv_at hl 2 rfl) ?_
        refine z_get (T := TX12) (N := 96) (ci := 12) (i := 0) (v := .int 0) hx hb hts zi_X12_orders_X12 hown hK hW rfl rfl 13 (by decide) (hts (.fieldLink RX12 408 "PetrolBoardModel" "texts" "I") (List.mem_of_getElem? (i := 2) rfl)) (fun _ h => h) rfl dX12_orders_184 ?_
        refine lv_iload_n hx hb dX12_orders_187 rfl (lv_at hl 4 rfl) ?_
        refine z_iast (i := 13) hx hb hK hW hS rfl (z_inl (by decide)) dX12_orders_188 (fun H locs hz1 hW hS => ?_)
        refine lv_aload_n hx hb dX12_orders_189 rfl (lv_at hl 2 rfl) ?_
        refine z_get (T := TX12) (N := 96) (ci := 12) (i := 0) (v := .ref (ad 14)) hx hb hts zi_X12_orders_X12 hown hK hW rfl rfl 19 (by decide) (hts (.fieldLink RX12 49 "PetrolBoardModel" "textTold" "[I") (List.mem_of_getElem? (i := 13) rfl)) (fun _ h => h) rfl dX12_orders_190 ?_
        refine lv_aload_n hx hb dX12_orders_193 rfl (lv_at hl 2 rfl) ?_
        refine z_get (T := TX12) (N := 96) (ci := 12) (i := 0) (v := .int 0) hx hb hts zi_X12_orders_X12 hown hK hW rfl rfl 13 (by decide) (hts (.fieldLink RX12 408 "PetrolBoardModel" "texts" "I") (List.mem_of_getElem? (i := 2) rfl)) (fun _ h => h) rfl dX12_orders_194 ?_
        refine lv_aload_n hx hb dX12_orders_197 rfl (lv_at hl 2 rfl) ?_
        refine z_get (T := TX12) (N := 96) (ci := 12) (i := 0) (v := .int 0) hx hb hts zi_X12_orders_X12 hown hK hW rfl rfl 0 (by decide) (hts (.fieldLink RX12 232 "PetrolBoardModel" "today" "I") (List.mem_of_getElem? (i := 14) rfl)) (fun _ h => h) rfl dX12_orders_198 ?_
        refine z_iast (i := 14) hx hb hK hW hS rfl (z_inl (by decide)) dX12_orders_201 (fun H locs hz1 hW hS => ?_)
        rw [show (z_up (z_up IM 13 (0 : Int32).toNatClampNeg a2) 14 (0 : Int32).toNatClampNeg 0) = (z_up IM 13 (0 : Int32).toNatClampNeg a2) from z_up_id rfl] at hW
        refine lv_aload_n hx hb dX12_orders_202 rfl (lv_at hl 2 rfl) ?_
        refine lv_dup hx hb dX12_orders_203 rfl ?_
        refine z_get (T := TX12) (N := 96) (ci := 12) (i := 0) (v := .int 0) hx hb hts zi_X12_orders_X12 hown hK hW rfl rfl 13 (by decide) (hts (.fieldLink RX12 408 "PetrolBoardModel" "texts" "I") (List.mem_of_getElem? (i := 2) rfl)) (fun _ h => h) rfl dX12_orders_204 ?_
        refine lv_iconst (v := 1) hx hb dX12_orders_207 (by decide) ?_
        refine lv_iadd hx hb dX12_orders_208 ?_
        refine z_topi (v := 1) (by decide) ?_
        refine z_put (T := TX12) (N := 96) (ci := 12) (i := 0) (v := .int 1) (I1 := (z_up (z_up IM 13 (0 : Int32).toNatClampNeg a2) 0 13 1)) (J1 := (z_up JM 0 41 (-1))) (P1 := PM ad) hx hb hts zi_X12_orders_X12 tyX12 tyX12_ok nmX12 hown hK hW hS rfl rfl 13 (by decide) (hts (.fieldLink RX12 408 "PetrolBoardModel" "texts" "I") (List.mem_of_getElem? (i := 2) rfl)) (fun _ h => h) rfl rfl rfl (by first | rfl | exact congrArg _ z_up_s) (fun a b h ty => z_vI h ty) dX12_orders_209 (fun H locs hz1 hW hS => ?_)
        refine lv_aload_n hx hb dX12_orders_212 rfl (lv_at hl 2 rfl) ?_
        refine z_get (T := TX12) (N := 96) (ci := 12) (i := 0) (v := .int 1) hx hb hts zi_X12_orders_X12 hown hK hW rfl rfl 13 (by decide) (hts (.fieldLink RX12 408 "PetrolBoardModel" "texts" "I") (List.mem_of_getElem? (i := 2) rfl)) (fun _ h => h) rfl dX12_orders_213 ?_
        refine lv_iconst (v := 1) hx hb dX12_orders_216 (by decide) ?_
        refine lv_isub hx hb dX12_orders_217 ?_
        refine z_topi (v := 0) (by decide) ?_
        exact z_iret hx hb hr hK hS (Nat.le_of_ble_eq_true rfl) (Nat.le_of_ble_eq_true rfl) hlocks dX12_orders_218 (shM, ad, (z_up (z_up IM 13 (0 : Int32).toNatClampNeg a2) 0 13 1), (z_up JM 0 41 (-1)), PM ad) hW (by unfold fr_orders; split <;> first | rfl | decide | (rename_i q; exfalso; simp only [Int32.lt_iff_toInt_lt, Int32.le_iff_toInt_le, ← Int32.toInt_inj, z_l0, z_l1, z_l23, true_and, and_true] at q h3 h4; omega))
      · refine lv_if_ne (tgt := 22) hx hb dX12_orders_16 (by decide) (fun c10 => absurd (by decide) c10) (fun c10 => ?_)
        refine lv_bipush (v := (-2)) hx hb dX12_orders_19 (by decide) ?_
        exact z_iret hx hb hr hK hS (Nat.le_of_ble_eq_true rfl) (Nat.le_of_ble_eq_true rfl) hlocks dX12_orders_21 (shM, ad, IM, JM, PM ad) hW (by unfold fr_orders; split <;> first | rfl | decide | (rename_i q; exfalso; simp only [Int32.lt_iff_toInt_lt, Int32.le_iff_toInt_le, ← Int32.toInt_inj, z_l0, z_l1, z_l23, true_and, and_true] at q c1 c2 h5; omega))
