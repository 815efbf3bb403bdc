theorem dX9_put_0 : decode cX9_put 0 = .ok (.bipush 24, 2) := by decide +kernel
theorem dX9_put_2 : decode cX9_put 2 = .ok (.istore_n 2, 1) := by decide +kernel
theorem dX9_put_3 : decode cX9_put 3 = .ok (.iload_n 2, 1) := by decide +kernel
theorem dX9_put_4 : decode cX9_put 4 = .ok (.ifCond .lt 47, 3) := by decide +kernel
theorem dX9_put_7 : decode cX9_put 7 = .ok (.aload_n 0, 1) := by decide +kernel
theorem dX9_put_8 : decode cX9_put 8 = .ok (.getfield 36, 3) := by decide +kernel
theorem dX9_put_11 : decode cX9_put 11 = .ok (.aload_n 0, 1) := by decide +kernel
theorem dX9_put_12 : decode cX9_put 12 = .ok (.getfield 9, 3) := by decide +kernel
theorem dX9_put_15 : decode cX9_put 15 = .ok (.arraylength, 1) := by decide +kernel
theorem dX9_put_16 : decode cX9_put 16 = .ok (.if_icmp .ge 35, 3) := by decide +kernel
theorem dX9_put_19 : decode cX9_put 19 = .ok (.aload_n 0, 1) := by decide +kernel
theorem dX9_put_20 : decode cX9_put 20 = .ok (.getfield 9, 3) := by decide +kernel
theorem dX9_put_23 : decode cX9_put 23 = .ok (.aload_n 0, 1) := by decide +kernel
theorem dX9_put_24 : decode cX9_put 24 = .ok (.getfield 36, 3) := by decide +kernel
theorem dX9_put_27 : decode cX9_put 27 = .ok (.iload_n 1, 1) := by decide +kernel
theorem dX9_put_28 : decode cX9_put 28 = .ok (.iload_n 2, 1) := by decide +kernel
theorem dX9_put_29 : decode cX9_put 29 = .ok (.iushr, 1) := by decide +kernel
theorem dX9_put_30 : decode cX9_put 30 = .ok (.sipush 255, 3) := by decide +kernel
theorem dX9_put_33 : decode cX9_put 33 = .ok (.iand, 1) := by decide +kernel
theorem dX9_put_34 : decode cX9_put 34 = .ok (.iastore, 1) := by decide +kernel
theorem dX9_put_35 : decode cX9_put 35 = .ok (.aload_n 0, 1) := by decide +kernel
theorem dX9_put_36 : decode cX9_put 36 = .ok (.dup, 1) := by decide +kernel
theorem dX9_put_37 : decode cX9_put 37 = .ok (.getfield 36, 3) := by decide +kernel
theorem dX9_put_40 : decode cX9_put 40 = .ok (.iconst 1, 1) := by decide +kernel
theorem dX9_put_41 : decode cX9_put 41 = .ok (.iadd, 1) := by decide +kernel
theorem dX9_put_42 : decode cX9_put 42 = .ok (.putfield 36, 3) := by decide +kernel
theorem dX9_put_45 : decode cX9_put 45 = .ok (.iinc 2 (-8), 3) := by decide +kernel
theorem dX9_put_48 : decode cX9_put 48 = .ok (.goto (-45), 3) := by decide +kernel
theorem dX9_put_51 : decode cX9_put 51 = .ok (.return_, 1) := by decide +kernel
theorem dX11_feed_0 : decode cX11_feed 0 = .ok (.aload_n 0, 1) := by decide +kernel
theorem dX11_feed_1 : decode cX11_feed 1 = .ok (.getfield 23, 3) := by decide +kernel
theorem dX11_feed_4 : decode cX11_feed 4 = .ok (.getfield 115, 3) := by decide +kernel
theorem dX11_feed_7 : decode cX11_feed 7 = .ok (.bipush 20, 2) := by decide +kernel
theorem dX11_feed_9 : decode cX11_feed 9 = .ok (.iadd, 1) := by decide +kernel
theorem dX11_feed_10 : decode cX11_feed 10 = .ok (.sipush 500, 3) := by decide +kernel
theorem dX11_feed_13 : decode cX11_feed 13 = .ok (.if_icmp .le 5, 3) := by decide +kernel
theorem dX11_feed_18 : decode cX11_feed 18 = .ok (.aload_n 0, 1) := by decide +kernel
theorem dX11_feed_19 : decode cX11_feed 19 = .ok (.getfield 23, 3) := by decide +kernel
theorem dX11_feed_22 : decode cX11_feed 22 = .ok (.iload_n 1, 1) := by decide +kernel
set_option maxRecDepth 20000 in
theorem ggX11_feed_X9_put : GoodIn wsX11_feed wsX9_put := goodIn_r _ [7, 8, 9, 23, 24, 25, 26, 27, 28, 29, 30, 31, 32, 33, 34, 35, 36] (by decide +kernel) (by decide +kernel)
set_option maxRecDepth 20000 in
theorem gX11_feed_X9_put : GoodIn wsX11_feed (wsV RX11 118 RX9 yX9_put wsX9_put) := goodIn_app (goodIn_of _ (by decide +kernel)) ggX11_feed_X9_put
theorem dX11_feed_23 : decode cX11_feed 23 = .ok (.invokevirtual 118, 3) := by decide +kernel
theorem dX11_feed_26 : decode cX11_feed 26 = .ok (.aload_n 0, 1) := by decide +kernel
theorem dX11_feed_27 : decode cX11_feed 27 = .ok (.getfield 23, 3) := by decide +kernel
theorem dX11_feed_30 : decode cX11_feed 30 = .ok (.iload_n 2, 1) := by decide +kernel
theorem dX11_feed_31 : decode cX11_feed 31 = .ok (.invokevirtual 118, 3) := by decide +kernel
theorem dX11_feed_34 : decode cX11_feed 34 = .ok (.aload_n 0, 1) := by decide +kernel
theorem dX11_feed_35 : decode cX11_feed 35 = .ok (.getfield 23, 3) := by decide +kernel
theorem dX11_feed_38 : decode cX11_feed 38 = .ok (.iload_n 3, 1) := by decide +kernel
theorem dX11_feed_39 : decode cX11_feed 39 = .ok (.invokevirtual 118, 3) := by decide +kernel
theorem dX11_feed_42 : decode cX11_feed 42 = .ok (.aload_n 0, 1) := by decide +kernel
theorem dX11_feed_43 : decode cX11_feed 43 = .ok (.getfield 23, 3) := by decide +kernel
theorem dX11_feed_46 : decode cX11_feed 46 = .ok (.iload 4, 2) := by decide +kernel
theorem dX11_feed_48 : decode cX11_feed 48 = .ok (.invokevirtual 118, 3) := by decide +kernel
theorem dX11_feed_51 : decode cX11_feed 51 = .ok (.aload_n 0, 1) := by decide +kernel
theorem dX11_feed_52 : decode cX11_feed 52 = .ok (.getfield 23, 3) := by decide +kernel
theorem dX11_feed_55 : decode cX11_feed 55 = .ok (.iload 5, 2) := by decide +kernel
theorem dX11_feed_57 : decode cX11_feed 57 = .ok (.invokevirtual 118, 3) := by decide +kernel
theorem dX11_feed_60 : decode cX11_feed 60 = .ok (.aload_n 0, 1) := by decide +kernel
theorem dX11_feed_61 : decode cX11_feed 61 = .ok (.getfield 23, 3) := by decide +kernel
theorem dX11_feed_64 : decode cX11_feed 64 = .ok (.getfield 115, 3) := by decide +kernel
theorem dX11_feed_67 : decode cX11_feed 67 = .ok (.ireturn, 1) := by decide +kernel
theorem dX4_shorten_0 : decode cX4_shorten 0 = .ok (.iconst 0, 1) := by decide +kernel
theorem dX4_shorten_1 : decode cX4_shorten 1 = .ok (.istore_n 1, 1) := by decide +kernel
theorem dX4_shorten_2 : decode cX4_shorten 2 = .ok (.iconst 0, 1) := by decide +kernel
theorem dX4_shorten_3 : decode cX4_shorten 3 = .ok (.istore_n 2, 1) := by decide +kernel
theorem dX4_shorten_4 : decode cX4_shorten 4 = .ok (.iload_n 2, 1) := by decide +kernel
theorem dX4_shorten_5 : decode cX4_shorten 5 = .ok (.iconst 4, 1) := by decide +kernel
theorem dX4_shorten_6 : decode cX4_shorten 6 = .ok (.if_icmp .ge 155, 3) := by decide +kernel
theorem dX4_shorten_9 : decode cX4_shorten 9 = .ok (.iconst 0, 1) := by decide +kernel
theorem dX4_shorten_10 : decode cX4_shorten 10 = .ok (.istore_n 3, 1) := by decide +kernel
theorem dX4_shorten_11 : decode cX4_shorten 11 = .ok (.iload_n 3, 1) := by decide +kernel
theorem dX4_shorten_12 : decode cX4_shorten 12 = .ok (.bipush 10, 2) := by decide +kernel
theorem dX4_shorten_14 : decode cX4_shorten 14 = .ok (.if_icmp .ge 141, 3) := by decide +kernel
theorem dX4_shorten_155 : decode cX4_shorten 155 = .ok (.iinc 2 1, 3) := by decide +kernel
theorem dX4_shorten_158 : decode cX4_shorten 158 = .ok (.goto (-154), 3) := by decide +kernel
theorem dX4_shorten_161 : decode cX4_shorten 161 = .ok (.iload_n 1, 1) := by decide +kernel
theorem dX4_shorten_162 : decode cX4_shorten 162 = .ok (.ireturn, 1) := by decide +kernel
theorem dX4_shorten_17 : decode cX4_shorten 17 = .ok (.aload_n 0, 1) := by decide +kernel
theorem dX4_shorten_18 : decode cX4_shorten 18 = .ok (.getfield 20, 3) := by decide +kernel
theorem dX4_shorten_21 : decode cX4_shorten 21 = .ok (.iload_n 2, 1) := by decide +kernel
theorem dX4_shorten_22 : decode cX4_shorten 22 = .ok (.aaload, 1) := by decide +kernel
theorem dX4_shorten_23 : decode cX4_shorten 23 = .ok (.iload_n 3, 1) := by decide +kernel
theorem dX4_shorten_24 : decode cX4_shorten 24 = .ok (.iaload, 1) := by decide +kernel
theorem dX4_shorten_25 : decode cX4_shorten 25 = .ok (.istore 4, 2) := by decide +kernel
theorem dX4_shorten_27 : decode cX4_shorten 27 = .ok (.iload 4, 2) := by decide +kernel
theorem dX4_shorten_29 : decode cX4_shorten 29 = .ok (.ifCond .le 56, 3) := by decide +kernel
theorem dX4_shorten_85 : decode cX4_shorten 85 = .ok (.aload_n 0, 1) := by decide +kernel
theorem dX4_shorten_86 : decode cX4_shorten 86 = .ok (.getfield 23, 3) := by decide +kernel
theorem dX4_shorten_89 : decode cX4_shorten 89 = .ok (.iload_n 2, 1) := by decide +kernel
theorem dX4_shorten_90 : decode cX4_shorten 90 = .ok (.aaload, 1) := by decide +kernel
theorem dX4_shorten_91 : decode cX4_shorten 91 = .ok (.iload_n 3, 1) := by decide +kernel
theorem dX4_shorten_92 : decode cX4_shorten 92 = .ok (.iaload, 1) := by decide +kernel
theorem dX4_shorten_93 : decode cX4_shorten 93 = .ok (.ifCond .le 56, 3) := by decide +kernel
theorem dX4_shorten_149 : decode cX4_shorten 149 = .ok (.iinc 3 1, 3) := by decide +kernel
theorem dX4_shorten_152 : decode cX4_shorten 152 = .ok (.goto (-141), 3) := by decide +kernel
theorem dX4_cheapestEnd_0 : decode cX4_cheapestEnd 0 = .ok (.iconst 0, 1) := by decide +kernel
theorem dX4_cheapestEnd_1 : decode cX4_cheapestEnd 1 = .ok (.istore_n 1, 1) := by decide +kernel
theorem dX4_cheapestEnd_2 : decode cX4_cheapestEnd 2 = .ok (.iload_n 1, 1) := by decide +kernel
theorem dX4_cheapestEnd_3 : decode cX4_cheapestEnd 3 = .ok (.iconst 4, 1) := by decide +kernel
theorem dX4_cheapestEnd_4 : decode cX4_cheapestEnd 4 = .ok (.if_icmp .ge 37, 3) := by decide +kernel
theorem dX4_cheapestEnd_7 : decode cX4_cheapestEnd 7 = .ok (.aload_n 0, 1) := by decide +kernel
theorem dX4_cheapestEnd_8 : decode cX4_cheapestEnd 8 = .ok (.getfield 32, 3) := by decide +kernel
theorem dX4_cheapestEnd_11 : decode cX4_cheapestEnd 11 = .ok (.iload_n 1, 1) := by decide +kernel
theorem dX4_cheapestEnd_12 : decode cX4_cheapestEnd 12 = .ok (.aload_n 0, 1) := by decide +kernel
theorem dX4_cheapestEnd_13 : decode cX4_cheapestEnd 13 = .ok (.getfield 26, 3) := by decide +kernel
theorem dX4_cheapestEnd_16 : decode cX4_cheapestEnd 16 = .ok (.iload_n 1, 1) := by decide +kernel
theorem dX4_cheapestEnd_17 : decode cX4_cheapestEnd 17 = .ok (.iaload, 1) := by decide +kernel
theorem dX4_cheapestEnd_18 : decode cX4_cheapestEnd 18 = .ok (.ifCond .le 7, 3) := by decide +kernel
theorem dX4_cheapestEnd_25 : decode cX4_cheapestEnd 25 = .ok (.ldc 72, 2) := by decide +kernel
theorem dX4_cheapestEnd_27 : decode cX4_cheapestEnd 27 = .ok (.iastore, 1) := by decide +kernel
theorem dX4_cheapestEnd_28 : decode cX4_cheapestEnd 28 = .ok (.aload_n 0, 1) := by decide +kernel
theorem dX4_cheapestEnd_29 : decode cX4_cheapestEnd 29 = .ok (.getfield 41, 3) := by decide +kernel
theorem dX4_cheapestEnd_32 : decode cX4_cheapestEnd 32 = .ok (.iload_n 1, 1) := by decide +kernel
theorem dX4_cheapestEnd_33 : decode cX4_cheapestEnd 33 = .ok (.iconst (-1), 1) := by decide +kernel
theorem dX4_cheapestEnd_34 : decode cX4_cheapestEnd 34 = .ok (.iastore, 1) := by decide +kernel
theorem dX4_cheapestEnd_35 : decode cX4_cheapestEnd 35 = .ok (.iinc 1 1, 3) := by decide +kernel
theorem dX4_cheapestEnd_38 : decode cX4_cheapestEnd 38 = .ok (.goto (-36), 3) := by decide +kernel
theorem dX4_cheapestEnd_41 : decode cX4_cheapestEnd 41 = .ok (.aload_n 0, 1) := by decide +kernel
theorem dX4_cheapestEnd_42 : decode cX4_cheapestEnd 42 = .ok (.getfield 35, 3) := by decide +kernel
theorem dX4_cheapestEnd_45 : decode cX4_cheapestEnd 45 = .ok (.ldc 72, 2) := by decide +kernel
set_option maxRecDepth 20000 in
theorem ggX4_cheapestEnd_J7_fill_53178 : GoodIn wsX4_cheapestEnd wsJ7_fill_53178 := goodIn_r _ [11] (by decide +kernel) (by decide +kernel)
set_option maxRecDepth 20000 in
theorem gX4_cheapestEnd_J7_fill_53178 : GoodIn wsX4_cheapestEnd (va_wsS RX4 58 yJ7_fill_53178 wsJ7_fill_53178) := goodIn_app (goodIn_of _ (by decide +kernel)) ggX4_cheapestEnd_J7_fill_53178
theorem dX4_cheapestEnd_47 : decode cX4_cheapestEnd 47 = .ok (.invokestatic 58, 3) := by decide +kernel
theorem dX4_cheapestEnd_50 : decode cX4_cheapestEnd 50 = .ok (.aload_n 0, 1) := by decide +kernel
theorem dX4_cheapestEnd_51 : decode cX4_cheapestEnd 51 = .ok (.getfield 38, 3) := by decide +kernel
theorem dX4_cheapestEnd_54 : decode cX4_cheapestEnd 54 = .ok (.iconst (-1), 1) := by decide +kernel
theorem dX4_cheapestEnd_55 : decode cX4_cheapestEnd 55 = .ok (.invokestatic 58, 3) := by decide +kernel
theorem dX4_cheapestEnd_58 : decode cX4_cheapestEnd 58 = .ok (.iconst 1, 1) := by decide +kernel
theorem dX4_cheapestEnd_59 : decode cX4_cheapestEnd 59 = .ok (.istore_n 1, 1) := by decide +kernel
theorem dX4_cheapestEnd_60 : decode cX4_cheapestEnd 60 = .ok (.iconst 0, 1) := by decide +kernel
theorem dX4_cheapestEnd_61 : decode cX4_cheapestEnd 61 = .ok (.istore_n 2, 1) := by decide +kernel
theorem dX4_cheapestEnd_62 : decode cX4_cheapestEnd 62 = .ok (.iload_n 2, 1) := by decide +kernel
theorem dX4_cheapestEnd_63 : decode cX4_cheapestEnd 63 = .ok (.bipush 14, 2) := by decide +kernel
theorem dX4_cheapestEnd_65 : decode cX4_cheapestEnd 65 = .ok (.if_icmp .gt 18, 3) := by decide +kernel
theorem dX4_cheapestEnd_68 : decode cX4_cheapestEnd 68 = .ok (.iload_n 1, 1) := by decide +kernel
theorem dX4_cheapestEnd_69 : decode cX4_cheapestEnd 69 = .ok (.ifCond .eq 14, 3) := by decide +kernel
theorem dX4_cheapestEnd_72 : decode cX4_cheapestEnd 72 = .ok (.aload_n 0, 1) := by decide +kernel
set_option maxRecDepth 20000 in
theorem ggX4_cheapestEnd_X4_shorten : GoodIn wsX4_cheapestEnd wsX4_shorten := goodIn_r _ [16, 17, 1, 3, 5, 6, 18, 4, 19, 20, 21, 22, 23, 24, 25, 26, 27, 28, 29, 30, 31] (by decide +kernel) (by decide +kernel)
set_option maxRecDepth 20000 in
theorem gX4_cheapestEnd_X4_shorten : GoodIn wsX4_cheapestEnd (wsV RX4 73 RX4 yX4_shorten wsX4_shorten) := goodIn_app (goodIn_of _ (by decide +kernel)) ggX4_cheapestEnd_X4_shorten
theorem dX4_cheapestEnd_73 : decode cX4_cheapestEnd 73 = .ok (.invokevirtual 73, 3) := by decide +kernel
theorem dX4_cheapestEnd_76 : decode cX4_cheapestEnd 76 = .ok (.istore_n 1, 1) := by decide +kernel
theorem dX4_cheapestEnd_77 : decode cX4_cheapestEnd 77 = .ok (.iinc 2 1, 3) := by decide +kernel
theorem dX4_cheapestEnd_80 : decode cX4_cheapestEnd 80 = .ok (.goto (-18), 3) := by decide +kernel
theorem dX4_cheapestEnd_83 : decode cX4_cheapestEnd 83 = .ok (.iconst (-1), 1) := by decide +kernel
theorem dX4_cheapestEnd_84 : decode cX4_cheapestEnd 84 = .ok (.istore_n 2, 1) := by decide +kernel
theorem dX4_cheapestEnd_85 : decode cX4_cheapestEnd 85 = .ok (.iconst 0, 1) := by decide +kernel
theorem dX4_cheapestEnd_86 : decode cX4_cheapestEnd 86 = .ok (.istore_n 3, 1) := by decide +kernel
theorem dX4_cheapestEnd_87 : decode cX4_cheapestEnd 87 = .ok (.iload_n 3, 1) := by decide +kernel
theorem dX4_cheapestEnd_88 : decode cX4_cheapestEnd 88 = .ok (.bipush 10, 2) := by decide +kernel
theorem dX4_cheapestEnd_90 : decode cX4_cheapestEnd 90 = .ok (.if_icmp .ge 63, 3) := by decide +kernel
theorem dX4_cheapestEnd_153 : decode cX4_cheapestEnd 153 = .ok (.iload_n 2, 1) := by decide +kernel
theorem dX4_cheapestEnd_154 : decode cX4_cheapestEnd 154 = .ok (.ireturn, 1) := by decide +kernel
theorem dX4_cheapestEnd_93 : decode cX4_cheapestEnd 93 = .ok (.aload_n 0, 1) := by decide +kernel
theorem dX4_cheapestEnd_94 : decode cX4_cheapestEnd 94 = .ok (.getfield 29, 3) := by decide +kernel
theorem dX4_cheapestEnd_97 : decode cX4_cheapestEnd 97 = .ok (.iload_n 3, 1) := by decide +kernel
theorem dX4_cheapestEnd_98 : decode cX4_cheapestEnd 98 = .ok (.iaload, 1) := by decide +kernel
theorem dX4_cheapestEnd_99 : decode cX4_cheapestEnd 99 = .ok (.ifCond .le 18, 3) := by decide +kernel
theorem dX4_cheapestEnd_117 : decode cX4_cheapestEnd 117 = .ok (.iconst 0, 1) := by decide +kernel
theorem dX4_cheapestEnd_118 : decode cX4_cheapestEnd 118 = .ok (.istore 4, 2) := by decide +kernel
theorem dX4_cheapestEnd_120 : decode cX4_cheapestEnd 120 = .ok (.iload 4, 2) := by decide +kernel
theorem dX4_cheapestEnd_122 : decode cX4_cheapestEnd 122 = .ok (.ifCond .eq 25, 3) := by decide +kernel
theorem dX4_cheapestEnd_147 : decode cX4_cheapestEnd 147 = .ok (.iinc 3 1, 3) := by decide +kernel
theorem dX4_cheapestEnd_150 : decode cX4_cheapestEnd 150 = .ok (.goto (-63), 3) := by decide +kernel
theorem dX4_send_0 : decode cX4_send 0 = .ok (.aload_n 0, 1) := by decide +kernel
theorem dX4_send_1 : decode cX4_send 1 = .ok (.iconst 0, 1) := by decide +kernel
theorem dX4_send_2 : decode cX4_send 2 = .ok (.putfield 52, 3) := by decide +kernel
theorem dX4_send_5 : decode cX4_send 5 = .ok (.aload_n 0, 1) := by decide +kernel
theorem dX4_send_6 : decode cX4_send 6 = .ok (.iconst 0, 1) := by decide +kernel
theorem dX4_send_7 : decode cX4_send 7 = .ok (.putfield 55, 3) := by decide +kernel
theorem dX4_send_10 : decode cX4_send 10 = .ok (.iconst 0, 1) := by decide +kernel
theorem dX4_send_11 : decode cX4_send 11 = .ok (.istore_n 2, 1) := by decide +kernel
theorem dX4_send_12 : decode cX4_send 12 = .ok (.iload_n 2, 1) := by decide +kernel
theorem dX4_send_13 : decode cX4_send 13 = .ok (.iconst 4, 1) := by decide +kernel
theorem dX4_send_14 : decode cX4_send 14 = .ok (.if_icmp .ge 40, 3) := by decide +kernel
theorem dX4_send_17 : decode cX4_send 17 = .ok (.aload_n 0, 1) := by decide +kernel
theorem dX4_send_18 : decode cX4_send 18 = .ok (.getfield 26, 3) := by decide +kernel
theorem dX4_send_21 : decode cX4_send 21 = .ok (.iload_n 2, 1) := by decide +kernel
theorem dX4_send_22 : decode cX4_send 22 = .ok (.iload_n 2, 1) := by decide +kernel
theorem dX4_send_23 : decode cX4_send 23 = .ok (.iload_n 1, 1) := by decide +kernel
theorem dX4_send_24 : decode cX4_send 24 = .ok (.if_icmp .ne 7, 3) := by decide +kernel
theorem dX4_send_31 : decode cX4_send 31 = .ok (.aload_n 0, 1) := by decide +kernel
theorem dX4_send_32 : decode cX4_send 32 = .ok (.getfield 9, 3) := by decide +kernel
theorem dX4_send_35 : decode cX4_send 35 = .ok (.iload_n 2, 1) := by decide +kernel
theorem dX4_send_36 : decode cX4_send 36 = .ok (.iaload, 1) := by decide +kernel
theorem dX4_send_37 : decode cX4_send 37 = .ok (.iastore, 1) := by decide +kernel
theorem dX4_send_38 : decode cX4_send 38 = .ok (.aload_n 0, 1) := by decide +kernel
theorem dX4_send_39 : decode cX4_send 39 = .ok (.getfield 23, 3) := by decide +kernel
theorem dX4_send_42 : decode cX4_send 42 = .ok (.iload_n 2, 1) := by decide +kernel
theorem dX4_send_43 : decode cX4_send 43 = .ok (.aaload, 1) := by decide +kernel
theorem dX4_send_44 : decode cX4_send 44 = .ok (.iconst 0, 1) := by decide +kernel
set_option maxRecDepth 20000 in
theorem ggX4_send_J7_fill_53178 : GoodIn wsX4_send wsJ7_fill_53178 := goodIn_r _ [11] (by decide +kernel) (by decide +kernel)
set_option maxRecDepth 20000 in
theorem gX4_send_J7_fill_53178 : GoodIn wsX4_send (va_wsS RX4 58 yJ7_fill_53178 wsJ7_fill_53178) := goodIn_app (goodIn_of _ (by decide +kernel)) ggX4_send_J7_fill_53178
theorem dX4_send_45 : decode cX4_send 45 = .ok (.invokestatic 58, 3) := by decide +kernel
theorem dX4_send_48 : decode cX4_send 48 = .ok (.iinc 2 1, 3) := by decide +kernel
theorem dX4_send_51 : decode cX4_send 51 = .ok (.goto (-39), 3) := by decide +kernel
theorem dX4_send_54 : decode cX4_send 54 = .ok (.iconst 0, 1) := by decide +kernel
theorem dX4_send_55 : decode cX4_send 55 = .ok (.istore_n 2, 1) := by decide +kernel
theorem dX4_send_56 : decode cX4_send 56 = .ok (.iload_n 2, 1) := by decide +kernel
theorem dX4_send_57 : decode cX4_send 57 = .ok (.bipush 10, 2) := by decide +kernel
theorem dX4_send_59 : decode cX4_send 59 = .ok (.if_icmp .ge 21, 3) := by decide +kernel
theorem dX4_send_80 : decode cX4_send 80 = .ok (.aload_n 0, 1) := by decide +kernel
set_option maxRecDepth 20000 in
theorem ggX4_send_X4_cheapestEnd : GoodIn wsX4_send wsX4_cheapestEnd := goodIn_r _ [16, 17, 3, 18, 19, 20, 21, 6, 8, 9, 10, 11, 22, 23, 24, 15, 25, 26, 5, 45, 46, 47, 48, 49, 50, 51, 52, 53, 54, 55, 56, 57] (by decide +kernel) (by decide +kernel)
set_option maxRecDepth 20000 in
theorem gX4_send_X4_cheapestEnd : GoodIn wsX4_send (wsV RX4 64 RX4 yX4_cheapestEnd wsX4_cheapestEnd) := goodIn_app (goodIn_of _ (by decide +kernel)) ggX4_send_X4_cheapestEnd
theorem dX4_send_81 : decode cX4_send 81 = .ok (.invokevirtual 64, 3) := by decide +kernel
theorem dX4_send_84 : decode cX4_send 84 = .ok (.istore_n 2, 1) := by decide +kernel
theorem dX4_send_85 : decode cX4_send 85 = .ok (.iconst 0, 1) := by decide +kernel
theorem dX4_send_86 : decode cX4_send 86 = .ok (.istore_n 3, 1) := by decide +kernel
theorem dX4_send_87 : decode cX4_send 87 = .ok (.iload_n 3, 1) := by decide +kernel
theorem dX4_send_88 : decode cX4_send 88 = .ok (.sipush 1000, 3) := by decide +kernel
theorem dX4_send_91 : decode cX4_send 91 = .ok (.if_icmp .ge 24, 3) := by decide +kernel
theorem dX4_send_94 : decode cX4_send 94 = .ok (.iload_n 2, 1) := by decide +kernel
theorem dX4_send_95 : decode cX4_send 95 = .ok (.iconst (-1), 1) := by decide +kernel
theorem dX4_send_96 : decode cX4_send 96 = .ok (.if_icmp .eq 19, 3) := by decide +kernel
theorem dX4_send_115 : decode cX4_send 115 = .ok (.return_, 1) := by decide +kernel
theorem dX4_send_62 : decode cX4_send 62 = .ok (.aload_n 0, 1) := by decide +kernel
theorem dX4_send_63 : decode cX4_send 63 = .ok (.getfield 29, 3) := by decide +kernel
theorem dX4_send_66 : decode cX4_send 66 = .ok (.iload_n 2, 1) := by decide +kernel
theorem dX4_send_67 : decode cX4_send 67 = .ok (.aload_n 0, 1) := by decide +kernel
theorem dX4_send_68 : decode cX4_send 68 = .ok (.getfield 15, 3) := by decide +kernel
theorem dX4_send_71 : decode cX4_send 71 = .ok (.iload_n 2, 1) := by decide +kernel
theorem dX4_send_72 : decode cX4_send 72 = .ok (.iaload, 1) := by decide +kernel
theorem dX4_send_73 : decode cX4_send 73 = .ok (.iastore, 1) := by decide +kernel
theorem dX4_send_74 : decode cX4_send 74 = .ok (.iinc 2 1, 3) := by decide +kernel
theorem dX4_send_77 : decode cX4_send 77 = .ok (.goto (-21), 3) := by decide +kernel
theorem dX11_flow_0 : decode cX11_flow 0 = .ok (.iload_n 2, 1) := by decide +kernel
theorem dX11_flow_1 : decode cX11_flow 1 = .ok (.iconst 0, 1) := by decide +kernel
theorem dX11_flow_2 : decode cX11_flow 2 = .ok (.iconst 1, 1) := by decide +kernel
set_option maxRecDepth 20000 in
theorem ggX11_flow_X11_within : GoodIn wsX11_flow wsX11_within := goodIn_r _ [7] (by decide +kernel) (by decide +kernel)
set_option maxRecDepth 20000 in
theorem gX11_flow_X11_within : GoodIn wsX11_flow (va_wsS RX11 88 yX11_within wsX11_within) := goodIn_app (goodIn_of _ (by decide +kernel)) ggX11_flow_X11_within
theorem dX11_flow_3 : decode cX11_flow 3 = .ok (.invokestatic 88, 3) := by decide +kernel
theorem dX11_flow_6 : decode cX11_flow 6 = .ok (.ifCond .eq 19, 3) := by decide +kernel
theorem dX11_flow_9 : decode cX11_flow 9 = .ok (.iload_n 1, 1) := by decide +kernel
theorem dX11_flow_10 : decode cX11_flow 10 = .ok (.iconst (-1), 1) := by decide +kernel
theorem dX11_flow_11 : decode cX11_flow 11 = .ok (.if_icmp .eq 16, 3) := by decide +kernel
theorem dX11_flow_27 : decode cX11_flow 27 = .ok (.aload_n 0, 1) := by decide +kernel
theorem dX11_flow_28 : decode cX11_flow 28 = .ok (.getfield 61, 3) := by decide +kernel
theorem dX11_flow_31 : decode cX11_flow 31 = .ok (.iload_n 1, 1) := by decide +kernel
set_option maxRecDepth 20000 in
theorem ggX11_flow_X4_send : GoodIn wsX11_flow wsX4_send := goodIn_r _ [17, 18, 19, 20, 21, 22, 23, 24, 25, 26, 27, 28, 29, 30, 31, 11, 32, 33, 34, 35, 36, 37, 38, 39, 40, 41, 42, 43, 44, 45, 46, 47, 48, 49, 50, 51, 52, 53, 54, 55, 56, 57, 58, 59, 60, 74, 75, 76, 77, 78, 79, 80, 81, 82, 83, 84, 85, 86] (by decide +kernel) (by decide +kernel)
set_option maxRecDepth 20000 in
theorem gX11_flow_X4_send : GoodIn wsX11_flow (wsV RX11 310 RX4 yX4_send wsX4_send) := goodIn_app (goodIn_of _ (by decide +kernel)) ggX11_flow_X4_send
theorem dX11_flow_32 : decode cX11_flow 32 = .ok (.invokevirtual 310, 3) := by decide +kernel
theorem dX11_flow_35 : decode cX11_flow 35 = .ok (.iload_n 2, 1) := by decide +kernel
theorem dX11_flow_36 : decode cX11_flow 36 = .ok (.ifCond .ne 13, 3) := by decide +kernel
theorem dX11_flow_49 : decode cX11_flow 49 = .ok (.aload_n 0, 1) := by decide +kernel
theorem dX11_flow_50 : decode cX11_flow 50 = .ok (.getfield 61, 3) := by decide +kernel
theorem dX11_flow_53 : decode cX11_flow 53 = .ok (.getfield 316, 3) := by decide +kernel
theorem dX11_flow_56 : decode cX11_flow 56 = .ok (.ireturn, 1) := by decide +kernel
theorem dX11_flow_39 : decode cX11_flow 39 = .ok (.aload_n 0, 1) := by decide +kernel
theorem dX11_flow_40 : decode cX11_flow 40 = .ok (.getfield 61, 3) := by decide +kernel
theorem dX11_flow_43 : decode cX11_flow 43 = .ok (.getfield 313, 3) := by decide +kernel
theorem dX11_flow_46 : decode cX11_flow 46 = .ok (.goto 10, 3) := by decide +kernel
theorem dX11_flow_14 : decode cX11_flow 14 = .ok (.aload_n 0, 1) := by decide +kernel
theorem dX11_flow_15 : decode cX11_flow 15 = .ok (.getfield 61, 3) := by decide +kernel
theorem dX11_flow_18 : decode cX11_flow 18 = .ok (.iload_n 1, 1) := by decide +kernel
set_option maxRecDepth 20000 in
theorem ggX11_flow_X4_hasPort : GoodIn wsX11_flow wsX4_hasPort := goodIn_r _ [12, 13, 74, 75, 76, 77, 78, 79, 80, 81, 82, 83, 84, 85, 86] (by decide +kernel) (by decide +kernel)
set_option maxRecDepth 20000 in
theorem gX11_flow_X4_hasPort : GoodIn wsX11_flow (wsV RX11 303 RX4 yX4_hasPort wsX4_hasPort) := goodIn_app (goodIn_of _ (by decide +kernel)) ggX11_flow_X4_hasPort
theorem dX11_flow_19 : decode cX11_flow 19 = .ok (.invokevirtual 303, 3) := by decide +kernel
theorem dX11_flow_22 : decode cX11_flow 22 = .ok (.ifCond .ne 5, 3) := by decide +kernel
theorem dX11_flow_25 : decode cX11_flow 25 = .ok (.iconst (-1), 1) := by decide +kernel
theorem dX11_flow_26 : decode cX11_flow 26 = .ok (.ireturn, 1) := by decide +kernel

theorem zi_X9_put_X9 : ∀ w ∈ wsX90, w ∈ wsX9_put := fun w h => (List.mem_cons_of_mem _ (List.mem_append_right _ h))
set_option maxHeartbeats 4000000 in
set_option maxRecDepth 100000 in
theorem ct_X9_put_0 (l : Launch) (G : z_G) (ad : Nat → Nat) (I : z_I) (a1 : Int32) (hI : I 12 1 = 0) : z_Mv l yX9_put wsX9_put { frames := 1, cells := 0, slots := 0, locals := 12 } [.ref (ad 12), .int a1] G (shX, ad, I, JX, PX ad) (fun u1 => ∃ I1 : z_I, u1 = (shX, ad, I1, JX, PX ad) ∧ I1 12 1 = 4) 0 0 := by
  intro sz
  refine z_headQ (cc := cX9_put) (maxL := 3) (ret := none) (by decide) rfl (Nat.le_of_ble_eq_true rfl) ?_
  intro p e s m below meth c ls hIn hK hsz hW hl
  obtain ⟨hx, hb, hr, hml, hown, hts, hlocks, hname⟩ := hIn
  subst hsz
  have hown : s.vm.findClass RX9 = some m.cls := hown
  have hA : ∀ q : Nat, s.heap.size ≤ q → z_A (shX, ad, I, JX, PX ad) s.heap.size q := fun q h => Or.inr h
  generalize hAe : z_A (shX, ad, I, JX, PX ad) s.heap.size = A at *
  have hS : va_S A s.heap s.heap [] := va_S.rf
  have hl : lv_has ls 3 [(0, .ref (ad 12)), (1, .int a1)] := hl
  refine lv_bipush (v := 24) hx hb dX9_put_0 (by decide) ?_
  refine lv_istore_n (lv' := [(2, .int 24), (0, .ref (ad 12)), (1, .int a1)]) hx hb dX9_put_2 rfl hl (by decide) rfl (fun ls hl => ?_)
  refine lv_iload_n hx hb dX9_put_3 rfl (lv_at hl 0 rfl) ?_
  refine lv_if_lt (tgt := 51) hx hb dX9_put_4 (by decide) (fun c1 => absurd c1 (by decide)) (fun c1 => ?_)
  refine lv_aload_n hx hb dX9_put_7 rfl (lv_at hl 1 rfl) ?_
  refine z_get (T := TX9) (N := 14) (ci := 9) (i := 12) (v := .int 0) hx hb hts zi_X9_put_X9 hown hK hW rfl rfl 1 (by decide) (hts (.fieldLink RX9 36 "PetrolBoard$Reader" "taped" "I") (List.mem_of_getElem? (i := 1) rfl)) (fun _ h => h) (congrArg Value.int hI) dX9_put_8 ?_
  refine lv_aload_n hx hb dX9_put_11 rfl (lv_at hl 1 rfl) ?_
  refine z_get (T := TX9) (N := 14) (ci := 9) (i := 12) (v := .ref (ad 13)) hx hb hts zi_X9_put_X9 hown hK hW rfl rfl 0 (by decide) (hts (.fieldLink RX9 9 "PetrolBoard$Reader" "text" "[I") (List.mem_of_getElem? (i := 2) rfl)) (fun _ h => h) rfl dX9_put_12 ?_
  refine z_alen (i := 13) (v := 500) hx hb hK hW rfl (by simp [z_tys]) (by rfl) dX9_put_15 ?_
  refine lv_icmp_ge (tgt := 51) hx hb dX9_put_16 (by decide) (fun c2 => absurd c2 (by decide)) (fun c2 => ?_)
  refine lv_aload_n hx hb dX9_put_19 rfl (lv_at hl 1 rfl) ?_
  refine z_get (T := TX9) (N := 14) (ci := 9) (i := 12) (v := .ref (ad 13)) hx hb hts zi_X9_put_X9 hown hK hW rfl rfl 0 (by decide) (hts (.fieldLink RX9 9 "PetrolBoard$Reader" "text" "[I") (List.mem_of_getElem? (i := 2) rfl)) (fun _ h => h) rfl dX9_put_20 ?_
  refine lv_aload_n hx hb dX9_put_23 rfl (lv_at hl 1 rfl) ?_
  refine z_get (T := TX9) (N := 14) (ci := 9) (i := 12) (v := .int 0) hx hb hts zi_X9_put_X9 hown hK hW rfl rfl 1 (by decide) (hts (.fieldLink RX9 36 "PetrolBoard$Reader" "taped" "I") (List.mem_of_getElem? (i := 1) rfl)) (fun _ h => h) (congrArg Value.int hI) dX9_put_24 ?_
  refine lv_iload_n hx hb dX9_put_27 rfl (lv_at hl 2 rfl) ?_
  refine lv_iload_n hx hb dX9_put_28 rfl (lv_at hl 0 rfl) ?_
  refine lv_iushr hx hb dX9_put_29 rfl ?_
  refine lv_topi (fun x3 ex3 => ?_)
  refine lv_sipush (v := 255) hx hb dX9_put_30 (by decide) ?_
  refine lv_iand hx hb dX9_put_33 ?_
  refine z_iast (i := 13) hx hb hK hW hS rfl (z_inl (by decide)) dX9_put_34 (fun H locs hz1 hW hS => ?_)
  obtain ⟨I4, eI4⟩ : ∃ J : z_I, J = (z_up I 13 (0 : Int32).toNatClampNeg (x3 &&& 255)) := ⟨_, rfl⟩
  rw [← eI4] at hW
  have I4_12_1 : I4 12 1 = 0 := by rw [eI4, z_up_n (by decide)]; exact hI
  refine lv_aload_n hx hb dX9_put_35 rfl (lv_at hl 1 rfl) ?_
  refine lv_dup hx hb dX9_put_36 rfl ?_
  refine z_get (T := TX9) (N := 14) (ci := 9) (i := 12) (v := .int 0) hx hb hts zi_X9_put_X9 hown hK hW rfl rfl 1 (by decide) (hts (.fieldLink RX9 36 "PetrolBoard$Reader" "taped" "I") (List.mem_of_getElem? (i := 1) rfl)) (fun _ h => h) (congrArg Value.int I4_12_1) dX9_put_37 ?_
  refine lv_iconst (v := 1) hx hb dX9_put_40 (by decide) ?_
  refine lv_iadd hx hb dX9_put_41 ?_
  refine z_topi (v := 1) (by decide) ?_
  refine z_put (T := TX9) (N := 14) (ci := 9) (i := 12) (v := .int 1) (I1 := (z_up I4 12 1 1)) (J1 := JX) (P1 := PX ad) hx hb hts zi_X9_put_X9 tyX9 tyX9_ok nmX9 hown hK hW hS rfl rfl 1 (by decide) (hts (.fieldLink RX9 36 "PetrolBoard$Reader" "taped" "I") (List.mem_of_getElem? (i := 1) rfl)) (fun _ h => h) rfl rfl rfl (by first | rfl | exact congrArg _ z_up_s) (fun a b h ty => z_vI h ty) dX9_put_42 (fun H locs hz1 hW hS => ?_)
  obtain ⟨I5, eI5⟩ : ∃ J : z_I, J = (z_up I4 12 1 1) := ⟨_, rfl⟩
  rw [← eI5] at hW
  have I5_12_1 : I5 12 1 = 1 := by rw [eI5]; exact z_up_s
  refine lv_iinc (v := 16) (lv' := [(2, .int 16), (0, .ref (ad 12)), (1, .int a1)]) hx hb dX9_put_45 hl (k := 0) rfl (by decide) (by decide) rfl (fun ls hl => ?_)
  refine lv_goto (tgt := 3) hx hb dX9_put_48 (by decide) ?_
  refine lv_iload_n hx hb dX9_put_3 rfl (lv_at hl 0 rfl) ?_
  refine lv_if_lt (tgt := 51) hx hb dX9_put_4 (by decide) (fun c6 => absurd c6 (by decide)) (fun c6 => ?_)
  refine lv_aload_n hx hb dX9_put_7 rfl (lv_at hl 1 rfl) ?_
  refine z_get (T := TX9) (N := 14) (ci := 9) (i := 12) (v := .int 1) hx hb hts zi_X9_put_X9 hown hK hW rfl rfl 1 (by decide) (hts (.fieldLink RX9 36 "PetrolBoard$Reader" "taped" "I") (List.mem_of_getElem? (i := 1) rfl)) (fun _ h => h) (congrArg Value.int I5_12_1) dX9_put_8 ?_
  refine lv_aload_n hx hb dX9_put_11 rfl (lv_at hl 1 rfl) ?_
  refine z_get (T := TX9) (N := 14) (ci := 9) (i := 12) (v := .ref (ad 13)) hx hb hts zi_X9_put_X9 hown hK hW rfl rfl 0 (by decide) (hts (.fieldLink RX9 9 "PetrolBoard$Reader" "text" "[I") (List.mem_of_getElem? (i := 2) rfl)) (fun _ h => h) rfl dX9_put_12 ?_
  refine z_alen (i := 13) (v := 500) hx hb hK hW rfl (by simp [z_tys]) (by rfl) dX9_put_15 ?_
  refine lv_icmp_ge (tgt := 51) hx hb dX9_put_16 (by decide) (fun c7 => absurd c7 (by decide)) (fun c7 => ?_)
  refine lv_aload_n hx hb dX9_put_19 rfl (lv_at hl 1 rfl) ?_
  refine z_get (T := TX9) (N := 14) (ci := 9) (i := 12) (v := .ref (ad 13)) hx hb hts zi_X9_put_X9 hown hK hW rfl rfl 0 (by decide) (hts (.fieldLink RX9 9 "PetrolBoard$Reader" "text" "[I") (List.mem_of_getElem? (i := 2) rfl)) (fun _ h => h) rfl dX9_put_20 ?_
  refine lv_aload_n hx hb dX9_put_23 rfl (lv_at hl 1 rfl) ?_
  refine z_get (T := TX9) (N := 14) (ci := 9) (i := 12) (v := .int 1) hx hb hts zi_X9_put_X9 hown hK hW rfl rfl 1 (by decide) (hts (.fieldLink RX9 36 "PetrolBoard$Reader" "taped" "I") (List.mem_of_getElem? (i := 1) rfl)) (fun _ h => h) (congrArg Value.int I5_12_1) dX9_put_24 ?_
  refine lv_iload_n hx hb dX9_put_27 rfl (lv_at hl 2 rfl) ?_
  refine lv_iload_n hx hb dX9_put_28 rfl (lv_at hl 0 rfl) ?_
  refine lv_iushr hx hb dX9_put_29 rfl ?_
  refine lv_topi (fun x8 ex8 => ?_)
  refine lv_sipush (v := 255) hx hb dX9_put_30 (by decide) ?_
  refine lv_iand hx hb dX9_put_33 ?_
  refine z_iast (i := 13) hx hb hK hW hS rfl (z_inl (by decide)) dX9_put_34 (fun H locs hz1 hW hS => ?_)
  obtain ⟨I9, eI9⟩ : ∃ J : z_I, J = (z_up I5 13 (1 : Int32).toNatClampNeg (x8 &&& 255)) := ⟨_, rfl⟩
  rw [← eI9] at hW
  have I9_12_1 : I9 12 1 = 1 := by rw [eI9, z_up_n (by decide)]; exact I5_12_1
  refine lv_aload_n hx hb dX9_put_35 rfl (lv_at hl 1 rfl) ?_
  refine lv_dup hx hb dX9_put_36 rfl ?_
  refine z_get (T := TX9) (N := 14) (ci := 9) (i := 12) (v := .int 1) hx hb hts zi_X9_put_X9 hown hK hW rfl rfl 1 (by decide) (hts (.fieldLink RX9 36 "PetrolBoard$Reader" "taped" "I") (List.mem_of_getElem? (i := 1) rfl)) (fun _ h => h) (congrArg Value.int I9_12_1) dX9_put_37 ?_
  refine lv_iconst (v := 1) hx hb dX9_put_40 (by decide) ?_
  refine lv_iadd hx hb dX9_put_41 ?_
  refine z_topi (v := 2) (by decide) ?_
  refine z_put (T := TX9) (N := 14) (ci := 9) (i := 12) (v := .int 2) (I1 := (z_up I9 12 1 2)) (J1 := JX) (P1 := PX ad) hx hb hts zi_X9_put_X9 tyX9 tyX9_ok nmX9 hown hK hW hS rfl rfl 1 (by decide) (hts (.fieldLink RX9 36 "PetrolBoard$Reader" "taped" "I") (List.mem_of_getElem? (i := 1) rfl)) (fun _ h => h) rfl rfl rfl (by first | rfl | exact congrArg _ z_up_s) (fun a b h ty => z_vI h ty) dX9_put_42 (fun H locs hz1 hW hS => ?_)
  obtain ⟨I10, eI10⟩ : ∃ J : z_I, J = (z_up I9 12 1 2) := ⟨_, rfl⟩
  rw [← eI10] at hW
  have I10_12_1 : I10 12 1 = 2 := by rw [eI10]; exact z_up_s
  refine lv_iinc (v := 8) (lv' := [(2, .int 8), (0, .ref (ad 12)), (1, .int a1)]) hx hb dX9_put_45 hl (k := 0) rfl (by decide) (by decide) rfl (fun ls hl => ?_)
  refine lv_goto (tgt := 3) hx hb dX9_put_48 (by decide) ?_
  refine lv_iload_n hx hb dX9_put_3 rfl (lv_at hl 0 rfl) ?_
  refine lv_if_lt (tgt := 51) hx hb dX9_put_4 (by decide) (fun c11 => absurd c11 (by decide)) (fun c11 => ?_)
  refine lv_aload_n hx hb dX9_put_7 rfl (lv_at hl 1 rfl) ?_
  refine z_get (T := TX9) (N := 14) (ci := 9) (i := 12) (v := .int 2) hx hb hts zi_X9_put_X9 hown hK hW rfl rfl 1 (by decide) (hts (.fieldLink RX9 36 "PetrolBoard$Reader" "taped" "I") (List.mem_of_getElem? (i := 1) rfl)) (fun _ h => h) (congrArg Value.int I10_12_1) dX9_put_8 ?_
  refine lv_aload_n hx hb dX9_put_11 rfl (lv_at hl 1 rfl) ?_
  refine z_get (T := TX9) (N := 14) (ci := 9) (i := 12) (v := .ref (ad 13)) hx hb hts zi_X9_put_X9 hown hK hW rfl rfl 0 (by decide) (hts (.fieldLink RX9 9 "PetrolBoard$Reader" "text" "[I") (List.mem_of_getElem? (i := 2) rfl)) (fun _ h => h) rfl dX9_put_12 ?_
  refine z_alen (i := 13) (v := 500) hx hb hK hW rfl (by simp [z_tys]) (by rfl) dX9_put_15 ?_
  refine lv_icmp_ge (tgt := 51) hx hb dX9_put_16 (by decide) (fun c12 => absurd c12 (by decide)) (fun c12 => ?_)
  refine lv_aload_n hx hb dX9_put_19 rfl (lv_at hl 1 rfl) ?_
  refine z_get (T := TX9) (N := 14) (ci := 9) (i := 12) (v := .ref (ad 13)) hx hb hts zi_X9_put_X9 hown hK hW rfl rfl 0 (by decide) (hts (.fieldLink RX9 9 "PetrolBoard$Reader" "text" "[I") (List.mem_of_getElem? (i := 2) rfl)) (fun _ h => h) rfl dX9_put_20 ?_
  refine lv_aload_n hx hb dX9_put_23 rfl (lv_at hl 1 rfl) ?_
  refine z_get (T := TX9) (N := 14) (ci := 9) (i := 12) (v := .int 2) hx hb hts zi_X9_put_X9 hown hK hW rfl rfl 1 (by decide) (hts (.fieldLink RX9 36 "PetrolBoard$Reader" "taped" "I") (List.mem_of_getElem? (i := 1) rfl)) (fun _ h => h) (congrArg Value.int I10_12_1) dX9_put_24 ?_
  refine lv_iload_n hx hb dX9_put_27 rfl (lv_at hl 2 rfl) ?_
  refine lv_iload_n hx hb dX9_put_28 rfl (lv_at hl 0 rfl) ?_
  refine lv_iushr hx hb dX9_put_29 rfl ?_
  refine lv_topi (fun x13 ex13 => ?_)
  refine lv_sipush (v := 255) hx hb dX9_put_30 (by decide) ?_
  refine lv_iand hx hb dX9_put_33 ?_
  refine z_iast (i := 13) hx hb hK hW hS rfl (z_inl (by decide)) dX9_put_34 (fun H locs hz1 hW hS => ?_)
  obtain ⟨I14, eI14⟩ : ∃ J : z_I, J = (z_up I10 13 (2 : Int32).toNatClampNeg (x13 &&& 255)) := ⟨_, rfl⟩
  rw [← eI14] at hW
  have I14_12_1 : I14 12 1 = 2 := by rw [eI14, z_up_n (by decide)]; exact I10_12_1
  refine lv_aload_n hx hb dX9_put_35 rfl (lv_at hl 1 rfl) ?_
  refine lv_dup hx hb dX9_put_36 rfl ?_
  refine z_get (T := TX9) (N := 14) (ci := 9) (i := 12) (v := .int 2) hx hb hts zi_X9_put_X9 hown hK hW rfl rfl 1 (by decide) (hts (.fieldLink RX9 36 "PetrolBoard$Reader" "taped" "I") (List.mem_of_getElem? (i := 1) rfl)) (fun _ h => h) (congrArg Value.int I14_12_1) dX9_put_37 ?_
  refine lv_iconst (v := 1) hx hb dX9_put_40 (by decide) ?_
  refine lv_iadd hx hb dX9_put_41 ?_
  refine z_topi (v := 3) (by decide) ?_
  refine z_put (T := TX9) (N := 14) (ci := 9) (i := 12) (v := .int 3) (I1 := (z_up I14 12 1 3)) (J1 := JX) (P1 := PX ad) hx hb hts zi_X9_put_X9 tyX9 tyX9_ok nmX9 hown hK hW hS rfl rfl 1 (by decide) (hts (.fieldLink RX9 36 "PetrolBoard$Reader" "taped" "I") (List.mem_of_getElem? (i := 1) rfl)) (fun _ h => h) rfl rfl rfl (by first | rfl | exact congrArg _ z_up_s) (fun a b h ty => z_vI h ty) dX9_put_42 (fun H locs hz1 hW hS => ?_)
  obtain ⟨I15, eI15⟩ : ∃ J : z_I, J = (z_up I14 12 1 3) := ⟨_, rfl⟩
  rw [← eI15] at hW
  have I15_12_1 : I15 12 1 = 3 := by rw [eI15]; exact z_up_s
  refine lv_iinc (v := 0) (lv' := [(2, .int 0), (0, .ref (ad 12)), (1, .int a1)]) hx hb dX9_put_45 hl (k := 0) rfl (by decide) (by decide) rfl (fun ls hl => ?_)
  refine lv_goto (tgt := 3) hx hb dX9_put_48 (by decide) ?_
  refine lv_iload_n hx hb dX9_put_3 rfl (lv_at hl 0 rfl) ?_
  refine lv_if_lt (tgt := 51) hx hb dX9_put_4 (by decide) (fun c16 => absurd c16 (by decide)) (fun c16 => ?_)
  refine lv_aload_n hx hb dX9_put_7 rfl (lv_at hl 1 rfl) ?_
  refine z_get (T := TX9) (N := 14) (ci := 9) (i := 12) (v := .int 3) hx hb hts zi_X9_put_X9 hown hK hW rfl rfl 1 (by decide) (hts (.fieldLink RX9 36 "PetrolBoard$Reader" "taped" "I") (List.mem_of_getElem? (i := 1) rfl)) (fun _ h => h) (congrArg Value.int I15_12_1) dX9_put_8 ?_
  refine lv_aload_n hx hb dX9_put_11 rfl (lv_at hl 1 rfl) ?_
  refine z_get (T := TX9) (N := 14) (ci := 9) (i := 12) (v := .ref (ad 13)) hx hb hts zi_X9_put_X9 hown hK hW rfl rfl 0 (by decide) (hts (.fieldLink RX9 9 "PetrolBoard$Reader" "text" "[I") (List.mem_of_getElem? (i := 2) rfl)) (fun _ h => h) rfl dX9_put_12 ?_
  refine z_alen (i := 13) (v := 500) hx hb hK hW rfl (by simp [z_tys]) (by rfl) dX9_put_15 ?_
  refine lv_icmp_ge (tgt := 51) hx hb dX9_put_16 (by decide) (fun c17 => absurd c17 (by decide)) (fun c17 => ?_)
  refine lv_aload_n hx hb dX9_put_19 rfl (lv_at hl 1 rfl) ?_
  refine z_get (T := TX9) (N := 14) (ci := 9) (i := 12) (v := .ref (ad 13)) hx hb hts zi_X9_put_X9 hown hK hW rfl rfl 0 (by decide) (hts (.fieldLink RX9 9 "PetrolBoard$Reader" "text" "[I") (List.mem_of_getElem? (i := 2) rfl)) (fun _ h => h) rfl dX9_put_20 ?_
  refine lv_aload_n hx hb dX9_put_23 rfl (lv_at hl 1 rfl) ?_
  refine z_get (T := TX9) (N := 14) (ci := 9) (i := 12) (v := .int 3) hx hb hts zi_X9_put_X9 hown hK hW rfl rfl 1 (by decide) (hts (.fieldLink RX9 36 "PetrolBoard$Reader" "taped" "I") (List.mem_of_getElem? (i := 1) rfl)) (fun _ h => h) (congrArg Value.int I15_12_1) dX9_put_24 ?_
  refine lv_iload_n hx hb dX9_put_27 rfl (lv_at hl 2 rfl) ?_
  refine lv_iload_n hx hb dX9_put_28 rfl (lv_at hl 0 rfl) ?_
  refine lv_iushr hx hb dX9_put_29 rfl ?_
  refine lv_topi (fun x18 ex18 => ?_)
  refine lv_sipush (v := 255) hx hb dX9_put_30 (by decide) ?_
  refine lv_iand hx hb dX9_put_33 ?_
  refine z_iast (i := 13) hx hb hK hW hS rfl (z_inl (by decide)) dX9_put_34 (fun H locs hz1 hW hS => ?_)
  obtain ⟨I19, eI19⟩ : ∃ J : z_I, J = (z_up I15 13 (3 : Int32).toNatClampNeg (x18 &&& 255)) := ⟨_, rfl⟩
  rw [← eI19] at hW
  have I19_12_1 : I19 12 1 = 3 := by rw [eI19, z_up_n (by decide)]; exact I15_12_1
  refine lv_aload_n hx hb dX9_put_35 rfl (lv_at hl 1 rfl) ?_
  refine lv_dup hx hb dX9_put_36 rfl ?_
  refine z_get (T := TX9) (N := 14) (ci := 9) (i := 12) (v := .int 3) hx hb hts zi_X9_put_X9 hown hK hW rfl rfl 1 (by decide) (hts (.fieldLink RX9 36 "PetrolBoard$Reader" "taped" "I") (List.mem_of_getElem? (i := 1) rfl)) (fun _ h => h) (congrArg Value.int I19_12_1) dX9_put_37 ?_
  refine lv_iconst (v := 1) hx hb dX9_put_40 (by decide) ?_
  refine lv_iadd hx hb dX9_put_41 ?_
  refine z_topi (v := 4) (by decide) ?_
  refine z_put (T := TX9) (N := 14) (ci := 9) (i := 12) (v := .int 4) (I1 := (z_up I19 12 1 4)) (J1 := JX) (P1 := PX ad) hx hb hts zi_X9_put_X9 tyX9 tyX9_ok nmX9 hown hK hW hS rfl rfl 1 (by decide) (hts (.fieldLink RX9 36 "PetrolBoard$Reader" "taped" "I") (List.mem_of_getElem? (i := 1) rfl)) (fun _ h => h) rfl rfl rfl (by first | rfl | exact congrArg _ z_up_s) (fun a b h ty => z_vI h ty) dX9_put_42 (fun H locs hz1 hW hS => ?_)
  obtain ⟨I20, eI20⟩ : ∃ J : z_I, J = (z_up I19 12 1 4) := ⟨_, rfl⟩
  rw [← eI20] at hW
  have I20_12_1 : I20 12 1 = 4 := by rw [eI20]; exact z_up_s
  refine lv_iinc (v := (-8)) (lv' := [(2, .int (-8)), (0, .ref (ad 12)), (1, .int a1)]) hx hb dX9_put_45 hl (k := 0) rfl (by decide) (by decide) rfl (fun ls hl => ?_)
  refine lv_goto (tgt := 3) hx hb dX9_put_48 (by decide) ?_
  refine lv_iload_n hx hb dX9_put_3 rfl (lv_at hl 0 rfl) ?_
  refine lv_if_lt (tgt := 51) hx hb dX9_put_4 (by decide) (fun c21 => ?_) (fun c21 => absurd (by decide) c21)
  exact z_vret hx hb hr hK hS (Nat.le_of_ble_eq_true rfl) (Nat.le_of_ble_eq_true rfl) hlocks dX9_put_51 (shX, ad, I20, JX, PX ad) hW ⟨_, rfl, I20_12_1⟩
set_option maxHeartbeats 4000000 in
set_option maxRecDepth 100000 in
theorem ct_X9_put_4 (l : Launch) (G : z_G) (ad : Nat → Nat) (I : z_I) (a1 : Int32) (hI : I 12 1 = 4) : z_Mv l yX9_put wsX9_put { frames := 1, cells := 0, slots := 0, locals := 12 } [.ref (ad 12), .int a1] G (shX, ad, I, JX, PX ad) (fun u1 => ∃ I1 : z_I, u1 = (shX, ad, I1, JX, PX ad) ∧ I1 12 1 = 8) 0 0 := by
  intro sz
  refine z_headQ (cc := cX9_put) (maxL := 3) (ret := none) (by decide) rfl (Nat.le_of_ble_eq_true rfl) ?_
  intro p e s m below meth c ls hIn hK hsz hW hl
  obtain ⟨hx, hb, hr, hml, hown, hts, hlocks, hname⟩ := hIn
  subst hsz
  have hown : s.vm.findClass RX9 = some m.cls := hown
  have hA : ∀ q : Nat, s.heap.size ≤ q → z_A (shX, ad, I, JX, PX ad) s.heap.size q := fun q h => Or.inr h
  generalize hAe : z_A (shX, ad, I, JX, PX ad) s.heap.size = A at *
  have hS : va_S A s.heap s.heap [] := va_S.rf
  have hl : lv_has ls 3 [(0, .ref (ad 12)), (1, .int a1)] := hl
  refine lv_bipush (v := 24) hx hb dX9_put_0 (by decide) ?_
  refine lv_istore_n (lv' := [(2, .int 24), (0, .ref (ad 12)), (1, .int a1)]) hx hb dX9_put_2 rfl hl (by decide) rfl (fun ls hl => ?_)
  refine lv_iload_n hx hb dX9_put_3 rfl (lv_at hl 0 rfl) ?_
  refine lv_if_lt (tgt := 51) hx hb dX9_put_4 (by decide) (fun c1 => absurd c1 (by decide)) (fun c1 => ?_)
  refine lv_aload_n hx hb dX9_put_7 rfl (lv_at hl 1 rfl) ?_
  refine z_get (T := TX9) (N := 14) (ci := 9) (i := 12) (v := .int 4) hx hb hts zi_X9_put_X9 hown hK hW rfl rfl 1 (by decide) (hts (.fieldLink RX9 36 "PetrolBoard$Reader" "taped" "I") (List.mem_of_getElem? (i := 1) rfl)) (fun _ h => h) (congrArg Value.int hI) dX9_put_8 ?_
  refine lv_aload_n hx hb dX9_put_11 rfl (lv_at hl 1 rfl) ?_
  refine z_get (T := TX9) (N := 14) (ci := 9) (i := 12) (v := .ref (ad 13)) hx hb hts zi_X9_put_X9 hown hK hW rfl rfl 0 (by decide) (hts (.fieldLink RX9 9 "PetrolBoard$Reader" "text" "[I") (List.mem_of_getElem? (i := 2) rfl)) (fun _ h => h) rfl dX9_put_12 ?_
  refine z_alen (i := 13) (v := 500) hx hb hK hW rfl (by simp [z_tys]) (by rfl) dX9_put_15 ?_
  refine lv_icmp_ge (tgt := 51) hx hb dX9_put_16 (by decide) (fun c2 => absurd c2 (by decide)) (fun c2 => ?_)
  refine lv_aload_n hx hb dX9_put_19 rfl (lv_at hl 1 rfl) ?_
  refine z_get (T := TX9) (N := 14) (ci := 9) (i := 12) (v := .ref (ad 13)) hx hb hts zi_X9_put_X9 hown hK hW rfl rfl 0 (by decide) (hts (.fieldLink RX9 9 "PetrolBoard$Reader" "text" "[I") (List.mem_of_getElem? (i := 2) rfl)) (fun _ h => h) rfl dX9_put_20 ?_
  refine lv_aload_n hx hb dX9_put_23 rfl (lv_at hl 1 rfl) ?_
  refine z_get (T := TX9) (N := 14) (ci := 9) (i := 12) (v := .int 4) hx hb hts zi_X9_put_X9 hown hK hW rfl rfl 1 (by decide) (hts (.fieldLink RX9 36 "PetrolBoard$Reader" "taped" "I") (List.mem_of_getElem? (i := 1) rfl)) (fun _ h => h) (congrArg Value.int hI) dX9_put_24 ?_
  refine lv_iload_n hx hb dX9_put_27 rfl (lv_at hl 2 rfl) ?_
  refine lv_iload_n hx hb dX9_put_28 rfl (lv_at hl 0 rfl) ?_
  refine lv_iushr hx hb dX9_put_29 rfl ?_
  refine lv_topi (fun x3 ex3 => ?_)
  refine lv_sipush (v := 255) hx hb dX9_put_30 (by decide) ?_
  refine lv_iand hx hb dX9_put_33 ?_
  refine z_iast (i := 13) hx hb hK hW hS rfl (z_inl (by decide)) dX9_put_34 (fun H locs hz1 hW hS => ?_)
  obtain ⟨I4, eI4⟩ : ∃ J : z_I, J = (z_up I 13 (4 : Int32).toNatClampNeg (x3 &&& 255)) := ⟨_, rfl⟩
  rw [← eI4] at hW
  have I4_12_1 : I4 12 1 = 4 := by rw [eI4, z_up_n (by decide)]; exact hI
  refine lv_aload_n hx hb dX9_put_35 rfl (lv_at hl 1 rfl) ?_
  refine lv_dup hx hb dX9_put_36 rfl ?_
  refine z_get (T := TX9) (N := 14) (ci := 9) (i := 12) (v := .int 4) hx hb hts zi_X9_put_X9 hown hK hW rfl rfl 1 (by decide) (hts (.fieldLink RX9 36 "PetrolBoard$Reader" "taped" "I") (List.mem_of_getElem? (i := 1) rfl)) (fun _ h => h) (congrArg Value.int I4_12_1) dX9_put_37 ?_
  refine lv_iconst (v := 1) hx hb dX9_put_40 (by decide) ?_
  refine lv_iadd hx hb dX9_put_41 ?_
  refine z_topi (v := 5) (by decide) ?_
  refine z_put (T := TX9) (N := 14) (ci := 9) (i := 12) (v := .int 5) (I1 := (z_up I4 12 1 5)) (J1 := JX) (P1 := PX ad) hx hb hts zi_X9_put_X9 tyX9 tyX9_ok nmX9 hown hK hW hS rfl rfl 1 (by decide) (hts (.fieldLink RX9 36 "PetrolBoard$Reader" "taped" "I") (List.mem_of_getElem? (i := 1) rfl)) (fun _ h => h) rfl rfl rfl (by first | rfl | exact congrArg _ z_up_s) (fun a b h ty => z_vI h ty) dX9_put_42 (fun H locs hz1 hW hS => ?_)
  obtain ⟨I5, eI5⟩ : ∃ J : z_I, J = (z_up I4 12 1 5) := ⟨_, rfl⟩
  rw [← eI5] at hW
  have I5_12_1 : I5 12 1 = 5 := by rw [eI5]; exact z_up_s
  refine lv_iinc (v := 16) (lv' := [(2, .int 16), (0, .ref (ad 12)), (1, .int a1)]) hx hb dX9_put_45 hl (k := 0) rfl (by decide) (by decide) rfl (fun ls hl => ?_)
  refine lv_goto (tgt := 3) hx hb dX9_put_48 (by decide) ?_
  refine lv_iload_n hx hb dX9_put_3 rfl (lv_at hl 0 rfl) ?_
  refine lv_if_lt (tgt := 51) hx hb dX9_put_4 (by decide) (fun c6 => absurd c6 (by decide)) (fun c6 => ?_)
  refine lv_aload_n hx hb dX9_put_7 rfl (lv_at hl 1 rfl) ?_
  refine z_get (T := TX9) (N := 14) (ci := 9) (i := 12) (v := .int 5) hx hb hts zi_X9_put_X9 hown hK hW rfl rfl 1 (by decide) (hts (.fieldLink RX9 36 "PetrolBoard$Reader" "taped" "I") (List.mem_of_getElem? (i := 1) rfl)) (fun _ h => h) (congrArg Value.int I5_12_1) dX9_put_8 ?_
  refine lv_aload_n hx hb dX9_put_11 rfl (lv_at hl 1 rfl) ?_
  refine z_get (T := TX9) (N := 14) (ci := 9) (i := 12) (v := .ref (ad 13)) hx hb hts zi_X9_put_X9 hown hK hW rfl rfl 0 (by decide) (hts (.fieldLink RX9 9 "PetrolBoard$Reader" "text" "[I") (List.mem_of_getElem? (i := 2) rfl)) (fun _ h => h) rfl dX9_put_12 ?_
  refine z_alen (i := 13) (v := 500) hx hb hK hW rfl (by simp [z_tys]) (by rfl) dX9_put_15 ?_
  refine lv_icmp_ge (tgt := 51) hx hb dX9_put_16 (by decide) (fun c7 => absurd c7 (by decide)) (fun c7 => ?_)
  refine lv_aload_n hx hb dX9_put_19 rfl (lv_at hl 1 rfl) ?_
  refine z_get (T := TX9) (N := 14) (ci := 9) (i := 12) (v := .ref (ad 13)) hx hb hts zi_X9_put_X9 hown hK hW rfl rfl 0 (by decide) (hts (.fieldLink RX9 9 "PetrolBoard$Reader" "text" "[I") (List.mem_of_getElem? (i := 2) rfl)) (fun _ h => h) rfl dX9_put_20 ?_
  refine lv_aload_n hx hb dX9_put_23 rfl (lv_at hl 1 rfl) ?_
  refine z_get (T := TX9) (N := 14) (ci := 9) (i := 12) (v := .int 5) hx hb hts zi_X9_put_X9 hown hK hW rfl rfl 1 (by decide) (hts (.fieldLink RX9 36 "PetrolBoard$Reader" "taped" "I") (List.mem_of_getElem? (i := 1) rfl)) (fun _ h => h) (congrArg Value.int I5_12_1) dX9_put_24 ?_
  refine lv_iload_n hx hb dX9_put_27 rfl (lv_at hl 2 rfl) ?_
  refine lv_iload_n hx hb dX9_put_28 rfl (lv_at hl 0 rfl) ?_
  refine lv_iushr hx hb dX9_put_29 rfl ?_
  refine lv_topi (fun x8 ex8 => ?_)
  refine lv_sipush (v := 255) hx hb dX9_put_30 (by decide) ?_
  refine lv_iand hx hb dX9_put_33 ?_
  refine z_iast (i := 13) hx hb hK hW hS rfl (z_inl (by decide)) dX9_put_34 (fun H locs hz1 hW hS => ?_)
  obtain ⟨I9, eI9⟩ : ∃ J : z_I, J = (z_up I5 13 (5 : Int32).toNatClampNeg (x8 &&& 255)) := ⟨_, rfl⟩
  rw [← eI9] at hW
  have I9_12_1 : I9 12 1 = 5 := by rw [eI9, z_up_n (by decide)]; exact I5_12_1
  refine lv_aload_n hx hb dX9_put_35 rfl (lv_at hl 1 rfl) ?_
  refine lv_dup hx hb dX9_put_36 rfl ?_
  refine z_get (T := TX9) (N := 14) (ci := 9) (i := 12) (v := .int 5) hx hb hts zi_X9_put_X9 hown hK hW rfl rfl 1 (by decide) (hts (.fieldLink RX9 36 "PetrolBoard$Reader" "taped" "I") (List.mem_of_getElem? (i := 1) rfl)) (fun _ h => h) (congrArg Value.int I9_12_1) dX9_put_37 ?_
  refine lv_iconst (v := 1) hx hb dX9_put_40 (by decide) ?_
  refine lv_iadd hx hb dX9_put_41 ?_
  refine z_topi (v := 6) (by decide) ?_
  refine z_put (T := TX9) (N := 14) (ci := 9) (i := 12) (v := .int 6) (I1 := (z_up I9 12 1 6)) (J1 := JX) (P1 := PX ad) hx hb hts zi_X9_put_X9 tyX9 tyX9_ok nmX9 hown hK hW hS rfl rfl 1 (by decide) (hts (.fieldLink RX9 36 "PetrolBoard$Reader" "taped" "I") (List.mem_of_getElem? (i := 1) rfl)) (fun _ h => h) rfl rfl rfl (by first | rfl | exact congrArg _ z_up_s) (fun a b h ty => z_vI h ty) dX9_put_42 (fun H locs hz1 hW hS => ?_)
  obtain ⟨I10, eI10⟩ : ∃ J : z_I, J = (z_up I9 12 1 6) := ⟨_, rfl⟩
  rw [← eI10] at hW
  have I10_12_1 : I10 12 1 = 6 := by rw [eI10]; exact z_up_s
  refine lv_iinc (v := 8) (lv' := [(2, .int 8), (0, .ref (ad 12)), (1, .int a1)]) hx hb dX9_put_45 hl (k := 0) rfl (by decide) (by decide) rfl (fun ls hl => ?_)
  refine lv_goto (tgt := 3) hx hb dX9_put_48 (by decide) ?_
  refine lv_iload_n hx hb dX9_put_3 rfl (lv_at hl 0 rfl) ?_
  refine lv_if_lt (tgt := 51) hx hb dX9_put_4 (by decide) (fun c11 => absurd c11 (by decide)) (fun c11 => ?_)
  refine lv_aload_n hx hb dX9_put_7 rfl (lv_at hl 1 rfl) ?_
  refine z_get (T := TX9) (N := 14) (ci := 9) (i := 12) (v := .int 6) hx hb hts zi_X9_put_X9 hown hK hW rfl rfl 1 (by decide) (hts (.fieldLink RX9 36 "PetrolBoard$Reader" "taped" "I") (List.mem_of_getElem? (i := 1) rfl)) (fun _ h => h) (congrArg Value.int I10_12_1) dX9_put_8 ?_
  refine lv_aload_n hx hb dX9_put_11 rfl (lv_at hl 1 rfl) ?_
  refine z_get (T := TX9) (N := 14) (ci := 9) (i := 12) (v := .ref (ad 13)) hx hb hts zi_X9_put_X9 hown hK hW rfl rfl 0 (by decide) (hts (.fieldLink RX9 9 "PetrolBoard$Reader" "text" "[I") (List.mem_of_getElem? (i := 2) rfl)) (fun _ h => h) rfl dX9_put_12 ?_
  refine z_alen (i := 13) (v := 500) hx hb hK hW rfl (by simp [z_tys]) (by rfl) dX9_put_15 ?_
  refine lv_icmp_ge (tgt := 51) hx hb dX9_put_16 (by decide) (fun c12 => absurd c12 (by decide)) (fun c12 => ?_)
  refine lv_aload_n hx hb dX9_put_19 rfl (lv_at hl 1 rfl) ?_
  refine z_get (T := TX9) (N := 14) (ci := 9) (i := 12) (v := .ref (ad 13)) hx hb hts zi_X9_put_X9 hown hK hW rfl rfl 0 (by decide) (hts (.fieldLink RX9 9 "PetrolBoard$Reader" "text" "[I") (List.mem_of_getElem? (i := 2) rfl)) (fun _ h => h) rfl dX9_put_20 ?_
  refine lv_aload_n hx hb dX9_put_23 rfl (lv_at hl 1 rfl) ?_
  refine z_get (T := TX9) (N := 14) (ci := 9) (i := 12) (v := .int 6) hx hb hts zi_X9_put_X9 hown hK hW rfl rfl 1 (by decide) (hts (.fieldLink RX9 36 "PetrolBoard$Reader" "taped" "I") (List.mem_of_getElem? (i := 1) rfl)) (fun _ h => h) (congrArg Value.int I10_12_1) dX9_put_24 ?_
  refine lv_iload_n hx hb dX9_put_27 rfl (lv_at hl 2 rfl) ?_
  refine lv_iload_n hx hb dX9_put_28 rfl (lv_at hl 0 rfl) ?_
  refine lv_iushr hx hb dX9_put_29 rfl ?_
  refine lv_topi (fun x13 ex13 => ?_)
  refine lv_sipush (v := 255) hx hb dX9_put_30 (by decide) ?_
  refine lv_iand hx hb dX9_put_33 ?_
  refine z_iast (i := 13) hx hb hK hW hS rfl (z_inl (by decide)) dX9_put_34 (fun H locs hz1 hW hS => ?_)
  obtain ⟨I14, eI14⟩ : ∃ J : z_I, J = (z_up I10 13 (6 : Int32).toNatClampNeg (x13 &&& 255)) := ⟨_, rfl⟩
  rw [← eI14] at hW
  have I14_12_1 : I14 12 1 = 6 := by rw [eI14, z_up_n (by decide)]; exact I10_12_1
  refine lv_aload_n hx hb dX9_put_35 rfl (lv_at hl 1 rfl) ?_
  refine lv_dup hx hb dX9_put_36 rfl ?_
  refine z_get (T := TX9) (N := 14) (ci := 9) (i := 12) (v := .int 6) hx hb hts zi_X9_put_X9 hown hK hW rfl rfl 1 (by decide) (hts (.fieldLink RX9 36 "PetrolBoard$Reader" "taped" "I") (List.mem_of_getElem? (i := 1) rfl)) (fun _ h => h) (congrArg Value.int I14_12_1) dX9_put_37 ?_
  refine lv_iconst (v := 1) hx hb dX9_put_40 (by decide) ?_
  refine lv_iadd hx hb dX9_put_41 ?_
  refine z_topi (v := 7) (by decide) ?_
  refine z_put (T := TX9) (N := 14) (ci := 9) (i := 12) (v := .int 7) (I1 := (z_up I14 12 1 7)) (J1 := JX) (P1 := PX ad) hx hb hts zi_X9_put_X9 tyX9 tyX9_ok nmX9 hown hK hW hS rfl rfl 1 (by decide) (hts (.fieldLink RX9 36 "PetrolBoard$Reader" "taped" "I") (List.mem_of_getElem? (i := 1) rfl)) (fun _ h => h) rfl rfl rfl (by first | rfl | exact congrArg _ z_up_s) (fun a b h ty => z_vI h ty) dX9_put_42 (fun H locs hz1 hW hS => ?_)
  obtain ⟨I15, eI15⟩ : ∃ J : z_I, J = (z_up I14 12 1 7) := ⟨_, rfl⟩
  rw [← eI15] at hW
  have I15_12_1 : I15 12 1 = 7 := by rw [eI15]; exact z_up_s
  refine lv_iinc (v := 0) (lv' := [(2, .int 0), (0, .ref (ad 12)), (1, .int a1)]) hx hb dX9_put_45 hl (k := 0) rfl (by decide) (by decide) rfl (fun ls hl => ?_)
  refine lv_goto (tgt := 3) hx hb dX9_put_48 (by decide) ?_
  refine lv_iload_n hx hb dX9_put_3 rfl (lv_at hl 0 rfl) ?_
  refine lv_if_lt (tgt := 51) hx hb dX9_put_4 (by decide) (fun c16 => absurd c16 (by decide)) (fun c16 => ?_)
  refine lv_aload_n hx hb dX9_put_7 rfl (lv_at hl 1 rfl) ?_
  refine z_get (T := TX9) (N := 14) (ci := 9) (i := 12) (v := .int 7) hx hb hts zi_X9_put_X9 hown hK hW rfl rfl 1 (by decide) (hts (.fieldLink RX9 36 "PetrolBoard$Reader" "taped" "I") (List.mem_of_getElem? (i := 1) rfl)) (fun _ h => h) (congrArg Value.int I15_12_1) dX9_put_8 ?_
  refine lv_aload_n hx hb dX9_put_11 rfl (lv_at hl 1 rfl) ?_
  refine z_get (T := TX9) (N := 14) (ci := 9) (i := 12) (v := .ref (ad 13)) hx hb hts zi_X9_put_X9 hown hK hW rfl rfl 0 (by decide) (hts (.fieldLink RX9 9 "PetrolBoard$Reader" "text" "[I") (List.mem_of_getElem? (i := 2) rfl)) (fun _ h => h) rfl dX9_put_12 ?_
  refine z_alen (i := 13) (v := 500) hx hb hK hW rfl (by simp [z_tys]) (by rfl) dX9_put_15 ?_
  refine lv_icmp_ge (tgt := 51) hx hb dX9_put_16 (by decide) (fun c17 => absurd c17 (by decide)) (fun c17 => ?_)
  refine lv_aload_n hx hb dX9_put_19 rfl (lv_at hl 1 rfl) ?_
  refine z_get (T := TX9) (N := 14) (ci := 9) (i := 12) (v := .ref (ad 13)) hx hb hts zi_X9_put_X9 hown hK hW rfl rfl 0 (by decide) (hts (.fieldLink RX9 9 "PetrolBoard$Reader" "text" "[I") (List.mem_of_getElem? (i := 2) rfl)) (fun _ h => h) rfl dX9_put_20 ?_
  refine lv_aload_n hx hb dX9_put_23 rfl (lv_at hl 1 rfl) ?_
  refine z_get (T := TX9) (N := 14) (ci := 9) (i := 12) (v := .int 7) hx hb hts zi_X9_put_X9 hown hK hW rfl rfl 1 (by decide) (hts (.fieldLink RX9 36 "PetrolBoard$Reader" "taped" "I") (List.mem_of_getElem? (i := 1) rfl)) (fun _ h => h) (congrArg Value.int I15_12_1) dX9_put_24 ?_
  refine lv_iload_n hx hb dX9_put_27 rfl (lv_at hl 2 rfl) ?_
  refine lv_iload_n hx hb dX9_put_28 rfl (lv_at hl 0 rfl) ?_
  refine lv_iushr hx hb dX9_put_29 rfl ?_
  refine lv_topi (fun x18 ex18 => ?_)
  refine lv_sipush (v := 255) hx hb dX9_put_30 (by decide) ?_
  refine lv_iand hx hb dX9_put_33 ?_
  refine z_iast (i := 13) hx hb hK hW hS rfl (z_inl (by decide)) dX9_put_34 (fun H locs hz1 hW hS => ?_)
  obtain ⟨I19, eI19⟩ : ∃ J : z_I, J = (z_up I15 13 (7 : Int32).toNatClampNeg (x18 &&& 255)) := ⟨_, rfl⟩
  rw [← eI19] at hW
  have I19_12_1 : I19 12 1 = 7 := by rw [eI19, z_up_n (by decide)]; exact I15_12_1
  refine lv_aload_n hx hb dX9_put_35 rfl (lv_at hl 1 rfl) ?_
  refine lv_dup hx hb dX9_put_36 rfl ?_
  refine z_get (T := TX9) (N := 14) (ci := 9) (i := 12) (v := .int 7) hx hb hts zi_X9_put_X9 hown hK hW rfl rfl 1 (by decide) (hts (.fieldLink RX9 36 "PetrolBoard$Reader" "taped" "I") (List.mem_of_getElem? (i := 1) rfl)) (fun _ h => h) (congrArg Value.int I19_12_1) dX9_put_37 ?_
  refine lv_iconst (v := 1) hx hb dX9_put_40 (by decide) ?_
  refine lv_iadd hx hb dX9_put_41 ?_
  refine z_topi (v := 8) (by decide) ?_
  refine z_put (T := TX9) (N := 14) (ci := 9) (i := 12) (v := .int 8) (I1 := (z_up I19 12 1 8)) (J1 := JX) (P1 := PX ad) hx hb hts zi_X9_put_X9 tyX9 tyX9_ok nmX9 hown hK hW hS rfl rfl 1 (by decide) (hts (.fieldLink RX9 36 "PetrolBoard$Reader" "taped" "I") (List.mem_of_getElem? (i := 1) rfl)) (fun _ h => h) rfl rfl rfl (by first | rfl | exact congrArg _ z_up_s) (fun a b h ty => z_vI h ty) dX9_put_42 (fun H locs hz1 hW hS => ?_)
  obtain ⟨I20, eI20⟩ : ∃ J : z_I, J = (z_up I19 12 1 8) := ⟨_, rfl⟩
  rw [← eI20] at hW
  have I20_12_1 : I20 12 1 = 8 := by rw [eI20]; exact z_up_s
  refine lv_iinc (v := (-8)) (lv' := [(2, .int (-8)), (0, .ref (ad 12)), (1, .int a1)]) hx hb dX9_put_45 hl (k := 0) rfl (by decide) (by decide) rfl (fun ls hl => ?_)
  refine lv_goto (tgt := 3) hx hb dX9_put_48 (by decide) ?_
  refine lv_iload_n hx hb dX9_put_3 rfl (lv_at hl 0 rfl) ?_
  refine lv_if_lt (tgt := 51) hx hb dX9_put_4 (by decide) (fun c21 => ?_) (fun c21 => absurd (by decide) c21)
  exact z_vret hx hb hr hK hS (Nat.le_of_ble_eq_true rfl) (Nat.le_of_ble_eq_true rfl) hlocks dX9_put_51 (shX, ad, I20, JX, PX ad) hW ⟨_, rfl, I20_12_1⟩
set_option maxHeartbeats 4000000 in
set_option maxRecDepth 100000 in
theorem ct_X9_put_8 (l : Launch) (G : z_G) (ad : Nat → Nat) (I : z_I) (a1 : Int32) (hI : I 12 1 = 8) : z_Mv l yX9_put wsX9_put { frames := 1, cells := 0, slots := 0, locals := 12 } [.ref (ad 12), .int a1] G (shX, ad, I, JX, PX ad) (fun u1 => ∃ I1 : z_I, u1 = (shX, ad, I1, JX, PX ad) ∧ I1 12 1 = 12) 0 0 := by
  intro sz
  refine z_headQ (cc := cX9_put) (maxL := 3) (ret := none) (by decide) rfl (Nat.le_of_ble_eq_true rfl) ?_
  intro p e s m below meth c ls hIn hK hsz hW hl
  obtain ⟨hx, hb, hr, hml, hown, hts, hlocks, hname⟩ := hIn
  subst hsz
  have hown : s.vm.findClass RX9 = some m.cls := hown
  have hA : ∀ q : Nat, s.heap.size ≤ q → z_A (shX, ad, I, JX, PX ad) s.heap.size q := fun q h => Or.inr h
  generalize hAe : z_A (shX, ad, I, JX, PX ad) s.heap.size = A at *
  have hS : va_S A s.heap s.heap [] := va_S.rf
  have hl : lv_has ls 3 [(0, .ref (ad 12)), (1, .int a1)] := hl
  refine lv_bipush (v := 24) hx hb dX9_put_0 (by decide) ?_
  refine lv_istore_n (lv' := [(2, .int 24), (0, .ref (ad 12)), (1, .int a1)]) hx hb dX9_put_2 rfl hl (by decide) rfl (fun ls hl => ?_)
  refine lv_iload_n hx hb dX9_put_3 rfl (lv_at hl 0 rfl) ?_
  refine lv_if_lt (tgt := 51) hx hb dX9_put_4 (by decide) (fun c1 => absurd c1 (by decide)) (fun c1 => ?_)
  refine lv_aload_n hx hb dX9_put_7 rfl (lv_at hl 1 rfl) ?_
  refine z_get (T := TX9) (N := 14) (ci := 9) (i := 12) (v := .int 8) hx hb hts zi_X9_put_X9 hown hK hW rfl rfl 1 (by decide) (hts (.fieldLink RX9 36 "PetrolBoard$Reader" "taped" "I") (List.mem_of_getElem? (i := 1) rfl)) (fun _ h => h) (congrArg Value.int hI) dX9_put_8 ?_
  refine lv_aload_n hx hb dX9_put_11 rfl (lv_at hl 1 rfl) ?_
  refine z_get (T := TX9) (N := 14) (ci := 9) (i := 12) (v := .ref (ad 13)) hx hb hts zi_X9_put_X9 hown hK hW rfl rfl 0 (by decide) (hts (.fieldLink RX9 9 "PetrolBoard$Reader" "text" "[I") (List.mem_of_getElem? (i := 2) rfl)) (fun _ h => h) rfl dX9_put_12 ?_
  refine z_alen (i := 13) (v := 500) hx hb hK hW rfl (by simp [z_tys]) (by rfl) dX9_put_15 ?_
  refine lv_icmp_ge (tgt := 51) hx hb dX9_put_16 (by decide) (fun c2 => absurd c2 (by decide)) (fun c2 => ?_)
  refine lv_aload_n hx hb dX9_put_19 rfl (lv_at hl 1 rfl) ?_
  refine z_get (T := TX9) (N := 14) (ci := 9) (i := 12) (v := .ref (ad 13)) hx hb hts zi_X9_put_X9 hown hK hW rfl rfl 0 (by decide) (hts (.fieldLink RX9 9 "PetrolBoard$Reader" "text" "[I") (List.mem_of_getElem? (i := 2) rfl)) (fun _ h => h) rfl dX9_put_20 ?_
  refine lv_aload_n hx hb dX9_put_23 rfl (lv_at hl 1 rfl) ?_
  refine z_get (T := TX9) (N := 14) (ci := 9) (i := 12) (v := .int 8) hx hb hts zi_X9_put_X9 hown hK hW rfl rfl 1 (by decide) (hts (.fieldLink RX9 36 "PetrolBoard$Reader" "taped" "I") (List.mem_of_getElem? (i := 1) rfl)) (fun _ h => h) (congrArg Value.int hI) dX9_put_24 ?_
  refine lv_iload_n hx hb dX9_put_27 rfl (lv_at hl 2 rfl) ?_
  refine lv_iload_n hx hb dX9_put_28 rfl (lv_at hl 0 rfl) ?_
  refine lv_iushr hx hb dX9_put_29 rfl ?_
  refine lv_topi (fun x3 ex3 => ?_)
  refine lv_sipush (v := 255) hx hb dX9_put_30 (by decide) ?_
  refine lv_iand hx hb dX9_put_33 ?_
  refine z_iast (i := 13) hx hb hK hW hS rfl (z_inl (by decide)) dX9_put_34 (fun H locs hz1 hW hS => ?_)
  obtain ⟨I4, eI4⟩ : ∃ J : z_I, J = (z_up I 13 (8 : Int32).toNatClampNeg (x3 &&& 255)) := ⟨_, rfl⟩
  rw [← eI4] at hW
  have I4_12_1 : I4 12 1 = 8 := by rw [eI4, z_up_n (by decide)]; exact hI
  refine lv_aload_n hx hb dX9_put_35 rfl (lv_at hl 1 rfl) ?_
  refine lv_dup hx hb dX9_put_36 rfl ?_
  refine z_get (T := TX9) (N := 14) (ci := 9) (i := 12) (v := .int 8) hx hb hts zi_X9_put_X9 hown hK hW rfl rfl 1 (by decide) (hts (.fieldLink RX9 36 "PetrolBoard$Reader" "taped" "I") (List.mem_of_getElem? (i := 1) rfl)) (fun _ h => h) (congrArg Value.int I4_12_1) dX9_put_37 ?_
  refine lv_iconst (v := 1) hx hb dX9_put_40 (by decide) ?_
  refine lv_iadd hx hb dX9_put_41 ?_
  refine z_topi (v := 9) (by decide) ?_
  refine z_put (T := TX9) (N := 14) (ci := 9) (i := 12) (v := .int 9) (I1 := (z_up I4 12 1 9)) (J1 := JX) (P1 := PX ad) hx hb hts zi_X9_put_X9 tyX9 tyX9_ok nmX9 hown hK hW hS rfl rfl 1 (by decide) (hts (.fieldLink RX9 36 "PetrolBoard$Reader" "taped" "I") (List.mem_of_getElem? (i := 1) rfl)) (fun _ h => h) rfl rfl rfl (by first | rfl | exact congrArg _ z_up_s) (fun a b h ty => z_vI h ty) dX9_put_42 (fun H locs hz1 hW hS => ?_)
  obtain ⟨I5, eI5⟩ : ∃ J : z_I, J = (z_up I4 12 1 9) := ⟨_, rfl⟩
  rw [← eI5] at hW
  have I5_12_1 : I5 12 1 = 9 := by rw [eI5]; exact z_up_s
  refine lv_iinc (v := 16) (lv' := [(2, .int 16), (0, .ref (ad 12)), (1, .int a1)]) hx hb dX9_put_45 hl (k := 0) rfl (by decide) (by decide) rfl (fun ls hl => ?_)
  refine lv_goto (tgt := 3) hx hb dX9_put_48 (by decide) ?_
  refine lv_iload_n hx hb dX9_put_3 rfl (lv_at hl 0 rfl) ?_
  refine lv_if_lt (tgt := 51) hx hb dX9_put_4 (by decide) (fun c6 => absurd c6 (by decide)) (fun c6 => ?_)
  refine lv_aload_n hx hb dX9_put_7 rfl (lv_at hl 1 rfl) ?_
  refine z_get (T := TX9) (N := 14) (ci := 9) (i := 12) (v := .int 9) hx hb hts zi_X9_put_X9 hown hK hW rfl rfl 1 (by decide) (hts (.fieldLink RX9 36 "PetrolBoard$Reader" "taped" "I") (List.mem_of_getElem? (i := 1) rfl)) (fun _ h => h) (congrArg Value.int I5_12_1) dX9_put_8 ?_
  refine lv_aload_n hx hb dX9_put_11 rfl (lv_at hl 1 rfl) ?_
  refine z_get (T := TX9) (N := 14) (ci := 9) (i := 12) (v := .ref (ad 13)) hx hb hts zi_X9_put_X9 hown hK hW rfl rfl 0 (by decide) (hts (.fieldLink RX9 9 "PetrolBoard$Reader" "text" "[I") (List.mem_of_getElem? (i := 2) rfl)) (fun _ h => h) rfl dX9_put_12 ?_
  refine z_alen (i := 13) (v := 500) hx hb hK hW rfl (by simp [z_tys]) (by rfl) dX9_put_15 ?_
  refine lv_icmp_ge (tgt := 51) hx hb dX9_put_16 (by decide) (fun c7 => absurd c7 (by decide)) (fun c7 => ?_)
  refine lv_aload_n hx hb dX9_put_19 rfl (lv_at hl 1 rfl) ?_
  refine z_get (T := TX9) (N := 14) (ci := 9) (i := 12) (v := .ref (ad 13)) hx hb hts zi_X9_put_X9 hown hK hW rfl rfl 0 (by decide) (hts (.fieldLink RX9 9 "PetrolBoard$Reader" "text" "[I") (List.mem_of_getElem? (i := 2) rfl)) (fun _ h => h) rfl dX9_put_20 ?_
  refine lv_aload_n hx hb dX9_put_23 rfl (lv_at hl 1 rfl) ?_
  refine z_get (T := TX9) (N := 14) (ci := 9) (i := 12) (v := .int 9) hx hb hts zi_X9_put_X9 hown hK hW rfl rfl 1 (by decide) (hts (.fieldLink RX9 36 "PetrolBoard$Reader" "taped" "I") (List.mem_of_getElem? (i := 1) rfl)) (fun _ h => h) (congrArg Value.int I5_12_1) dX9_put_24 ?_
  refine lv_iload_n hx hb dX9_put_27 rfl (lv_at hl 2 rfl) ?_
  refine lv_iload_n hx hb dX9_put_28 rfl (lv_at hl 0 rfl) ?_
  refine lv_iushr hx hb dX9_put_29 rfl ?_
  refine lv_topi (fun x8 ex8 => ?_)
  refine lv_sipush (v := 255) hx hb dX9_put_30 (by decide) ?_
  refine lv_iand hx hb dX9_put_33 ?_
  refine z_iast (i := 13) hx hb hK hW hS rfl (z_inl (by decide)) dX9_put_34 (fun H locs hz1 hW hS => ?_)
  obtain ⟨I9, eI9⟩ : ∃ J : z_I, J = (z_up I5 13 (9 : Int32).toNatClampNeg (x8 &&& 255)) := ⟨_, rfl⟩
  rw [← eI9] at hW
  have I9_12_1 : I9 12 1 = 9 := by rw [eI9, z_up_n (by decide)]; exact I5_12_1
  refine lv_aload_n hx hb dX9_put_35 rfl (lv_at hl 1 rfl) ?_
  refine lv_dup hx hb dX9_put_36 rfl ?_
  refine z_get (T := TX9) (N := 14) (ci := 9) (i := 12) (v := .int 9) hx hb hts zi_X9_put_X9 hown hK hW rfl rfl 1 (by decide) (hts (.fieldLink RX9 36 "PetrolBoard$Reader" "taped" "I") (List.mem_of_getElem? (i := 1) rfl)) (fun _ h => h) (congrArg Value.int I9_12_1) dX9_put_37 ?_
  refine lv_iconst (v := 1) hx hb dX9_put_40 (by decide) ?_
  refine lv_iadd hx hb dX9_put_41 ?_
  refine z_topi (v := 10) (by decide) ?_
  refine z_put (T := TX9) (N := 14) (ci := 9) (i := 12) (v := .int 10) (I1 := (z_up I9 12 1 10)) (J1 := JX) (P1 := PX ad) hx hb hts zi_X9_put_X9 tyX9 tyX9_ok nmX9 hown hK hW hS rfl rfl 1 (by decide) (hts (.fieldLink RX9 36 "PetrolBoard$Reader" "taped" "I") (List.mem_of_getElem? (i := 1) rfl)) (fun _ h => h) rfl rfl rfl (by first | rfl | exact congrArg _ z_up_s) (fun a b h ty => z_vI h ty) dX9_put_42 (fun H locs hz1 hW hS => ?_)
  obtain ⟨I10, eI10⟩ : ∃ J : z_I, J = (z_up I9 12 1 10) := ⟨_, rfl⟩
  rw [← eI10] at hW
  have I10_12_1 : I10 12 1 = 10 := by rw [eI10]; exact z_up_s
  refine lv_iinc (v := 8) (lv' := [(2, .int 8), (0, .ref (ad 12)), (1, .int a1)]) hx hb dX9_put_45 hl (k := 0) rfl (by decide) (by decide) rfl (fun ls hl => ?_)
  refine lv_goto (tgt := 3) hx hb dX9_put_48 (by decide) ?_
  refine lv_iload_n hx hb dX9_put_3 rfl (lv_at hl 0 rfl) ?_
  refine lv_if_lt (tgt := 51) hx hb dX9_put_4 (by decide) (fun c11 => absurd c11 (by decide)) (fun c11 => ?_)
  refine lv_aload_n hx hb dX9_put_7 rfl (lv_at hl 1 rfl) ?_
  refine z_get (T := TX9) (N := 14) (ci := 9) (i := 12) (v := .int 10) hx hb hts zi_X9_put_X9 hown hK hW rfl rfl 1 (by decide) (hts (.fieldLink RX9 36 "PetrolBoard$Reader" "taped" "I") (List.mem_of_getElem? (i := 1) rfl)) (fun _ h => h) (congrArg Value.int I10_12_1) dX9_put_8 ?_
  refine lv_aload_n hx hb dX9_put_11 rfl (lv_at hl 1 rfl) ?_
  refine z_get (T := TX9) (N := 14) (ci := 9) (i := 12) (v := .ref (ad 13)) hx hb hts zi_X9_put_X9 hown hK hW rfl rfl 0 (by decide) (hts (.fieldLink RX9 9 "PetrolBoard$Reader" "text" "[I") (List.mem_of_getElem? (i := 2) rfl)) (fun _ h => h) rfl dX9_put_12 ?_
  refine z_alen (i := 13) (v := 500) hx hb hK hW rfl (by simp [z_tys]) (by rfl) dX9_put_15 ?_
  refine lv_icmp_ge (tgt := 51) hx hb dX9_put_16 (by decide) (fun c12 => absurd c12 (by decide)) (fun c12 => ?_)
  refine lv_aload_n hx hb dX9_put_19 rfl (lv_at hl 1 rfl) ?_
  refine z_get (T := TX9) (N := 14) (ci := 9) (i := 12) (v := .ref (ad 13)) hx hb hts zi_X9_put_X9 hown hK hW rfl rfl 0 (by decide) (hts (.fieldLink RX9 9 "PetrolBoard$Reader" "text" "[I") (List.mem_of_getElem? (i := 2) rfl)) (fun _ h => h) rfl dX9_put_20 ?_
  refine lv_aload_n hx hb dX9_put_23 rfl (lv_at hl 1 rfl) ?_
  refine z_get (T := TX9) (N := 14) (ci := 9) (i := 12) (v := .int 10) hx hb hts zi_X9_put_X9 hown hK hW rfl rfl 1 (by decide) (hts (.fieldLink RX9 36 "PetrolBoard$Reader" "taped" "I") (List.mem_of_getElem? (i := 1) rfl)) (fun _ h => h) (congrArg Value.int I10_12_1) dX9_put_24 ?_
  refine lv_iload_n hx hb dX9_put_27 rfl (lv_at hl 2 rfl) ?_
  refine lv_iload_n hx hb dX9_put_28 rfl (lv_at hl 0 rfl) ?_
  refine lv_iushr hx hb dX9_put_29 rfl ?_
  refine lv_topi (fun x13 ex13 => ?_)
  refine lv_sipush (v := 255) hx hb dX9_put_30 (by decide) ?_
  refine lv_iand hx hb dX9_put_33 ?_
  refine z_iast (i := 13) hx hb hK hW hS rfl (z_inl (by decide)) dX9_put_34 (fun H locs hz1 hW hS => ?_)
  obtain ⟨I14, eI14⟩ : ∃ J : z_I, J = (z_up I10 13 (10 : Int32).toNatClampNeg (x13 &&& 255)) := ⟨_, rfl⟩
  rw [← eI14] at hW
  have I14_12_1 : I14 12 1 = 10 := by rw [eI14, z_up_n (by decide)]; exact I10_12_1
  refine lv_aload_n hx hb dX9_put_35 rfl (lv_at hl 1 rfl) ?_
  refine lv_dup hx hb dX9_put_36 rfl ?_
  refine z_get (T := TX9) (N := 14) (ci := 9) (i := 12) (v := .int 10) hx hb hts zi_X9_put_X9 hown hK hW rfl rfl 1 (by decide) (hts (.fieldLink RX9 36 "PetrolBoard$Reader" "taped" "I") (List.mem_of_getElem? (i := 1) rfl)) (fun _ h => h) (congrArg Value.int I14_12_1) dX9_put_37 ?_
  refine lv_iconst (v := 1) hx hb dX9_put_40 (by decide) ?_
  refine lv_iadd hx hb dX9_put_41 ?_
  refine z_topi (v := 11) (by decide) ?_
  refine z_put (T := TX9) (N := 14) (ci := 9) (i := 12) (v := .int 11) (I1 := (z_up I14 12 1 11)) (J1 := JX) (P1 := PX ad) hx hb hts zi_X9_put_X9 tyX9 tyX9_ok nmX9 hown hK hW hS rfl rfl 1 (by decide) (hts (.fieldLink RX9 36 "PetrolBoard$Reader" "taped" "I") (List.mem_of_getElem? (i := 1) rfl)) (fun _ h => h) rfl rfl rfl (by first | rfl | exact congrArg _ z_up_s) (fun a b h ty => z_vI h ty) dX9_put_42 (fun H locs hz1 hW hS => ?_)
  obtain ⟨I15, eI15⟩ : ∃ J : z_I, J = (z_up I14 12 1 11) := ⟨_, rfl⟩
  rw [← eI15] at hW
  have I15_12_1 : I15 12 1 = 11 := by rw [eI15]; exact z_up_s
  refine lv_iinc (v := 0) (lv' := [(2, .int 0), (0, .ref (ad 12)), (1, .int a1)]) hx hb dX9_put_45 hl (k := 0) rfl (by decide) (by decide) rfl (fun ls hl => ?_)
  refine lv_goto (tgt := 3) hx hb dX9_put_48 (by decide) ?_
  refine lv_iload_n hx hb dX9_put_3 rfl (lv_at hl 0 rfl) ?_
  refine lv_if_lt (tgt := 51) hx hb dX9_put_4 (by decide) (fun c16 => absurd c16 (by decide)) (fun c16 => ?_)
  refine lv_aload_n hx hb dX9_put_7 rfl (lv_at hl 1 rfl) ?_
  refine z_get (T := TX9) (N := 14) (ci := 9) (i := 12) (v := .int 11) hx hb hts zi_X9_put_X9 hown hK hW rfl rfl 1 (by decide) (hts (.fieldLink RX9 36 "PetrolBoard$Reader" "taped" "I") (List.mem_of_getElem? (i := 1) rfl)) (fun _ h => h) (congrArg Value.int I15_12_1) dX9_put_8 ?_
  refine lv_aload_n hx hb dX9_put_11 rfl (lv_at hl 1 rfl) ?_
  refine z_get (T := TX9) (N := 14) (ci := 9) (i := 12) (v := .ref (ad 13)) hx hb hts zi_X9_put_X9 hown hK hW rfl rfl 0 (by decide) (hts (.fieldLink RX9 9 "PetrolBoard$Reader" "text" "[I") (List.mem_of_getElem? (i := 2) rfl)) (fun _ h => h) rfl dX9_put_12 ?_
  refine z_alen (i := 13) (v := 500) hx hb hK hW rfl (by simp [z_tys]) (by rfl) dX9_put_15 ?_
  refine lv_icmp_ge (tgt := 51) hx hb dX9_put_16 (by decide) (fun c17 => absurd c17 (by decide)) (fun c17 => ?_)
  refine lv_aload_n hx hb dX9_put_19 rfl (lv_at hl 1 rfl) ?_
  refine z_get (T := TX9) (N := 14) (ci := 9) (i := 12) (v := .ref (ad 13)) hx hb hts zi_X9_put_X9 hown hK hW rfl rfl 0 (by decide) (hts (.fieldLink RX9 9 "PetrolBoard$Reader" "text" "[I") (List.mem_of_getElem? (i := 2) rfl)) (fun _ h => h) rfl dX9_put_20 ?_
  refine lv_aload_n hx hb dX9_put_23 rfl (lv_at hl 1 rfl) ?_
  refine z_get (T := TX9) (N := 14) (ci := 9) (i := 12) (v := .int 11) hx hb hts zi_X9_put_X9 hown hK hW rfl rfl 1 (by decide) (hts (.fieldLink RX9 36 "PetrolBoard$Reader" "taped" "I") (List.mem_of_getElem? (i := 1) rfl)) (fun _ h => h) (congrArg Value.int I15_12_1) dX9_put_24 ?_
  refine lv_iload_n hx hb dX9_put_27 rfl (lv_at hl 2 rfl) ?_
  refine lv_iload_n hx hb dX9_put_28 rfl (lv_at hl 0 rfl) ?_
  refine lv_iushr hx hb dX9_put_29 rfl ?_
  refine lv_topi (fun x18 ex18 => ?_)
  refine lv_sipush (v := 255) hx hb dX9_put_30 (by decide) ?_
  refine lv_iand hx hb dX9_put_33 ?_
  refine z_iast (i := 13) hx hb hK hW hS rfl (z_inl (by decide)) dX9_put_34 (fun H locs hz1 hW hS => ?_)
  obtain ⟨I19, eI19⟩ : ∃ J : z_I, J = (z_up I15 13 (11 : Int32).toNatClampNeg (x18 &&& 255)) := ⟨_, rfl⟩
  rw [← eI19] at hW
  have I19_12_1 : I19 12 1 = 11 := by rw [eI19, z_up_n (by decide)]; exact I15_12_1
  refine lv_aload_n hx hb dX9_put_35 rfl (lv_at hl 1 rfl) ?_
  refine lv_dup hx hb dX9_put_36 rfl ?_
  refine z_get (T := TX9) (N := 14) (ci := 9) (i := 12) (v := .int 11) hx hb hts zi_X9_put_X9 hown hK hW rfl rfl 1 (by decide) (hts (.fieldLink RX9 36 "PetrolBoard$Reader" "taped" "I") (List.mem_of_getElem? (i := 1) rfl)) (fun _ h => h) (congrArg Value.int I19_12_1) dX9_put_37 ?_
  refine lv_iconst (v := 1) hx hb dX9_put_40 (by decide) ?_
  refine lv_iadd hx hb dX9_put_41 ?_
  refine z_topi (v := 12) (by decide) ?_
  refine z_put (T := TX9) (N := 14) (ci := 9) (i := 12) (v := .int 12) (I1 := (z_up I19 12 1 12)) (J1 := JX) (P1 := PX ad) hx hb hts zi_X9_put_X9 tyX9 tyX9_ok nmX9 hown hK hW hS rfl rfl 1 (by decide) (hts (.fieldLink RX9 36 "PetrolBoard$Reader" "taped" "I") (List.mem_of_getElem? (i := 1) rfl)) (fun _ h => h) rfl rfl rfl (by first | rfl | exact congrArg _ z_up_s) (fun a b h ty => z_vI h ty) dX9_put_42 (fun H locs hz1 hW hS => ?_)
  obtain ⟨I20, eI20⟩ : ∃ J : z_I, J = (z_up I19 12 1 12) := ⟨_, rfl⟩
  rw [← eI20] at hW
  have I20_12_1 : I20 12 1 = 12 := by rw [eI20]; exact z_up_s
  refine lv_iinc (v := (-8)) (lv' := [(2, .int (-8)), (0, .ref (ad 12)), (1, .int a1)]) hx hb dX9_put_45 hl (k := 0) rfl (by decide) (by decide) rfl (fun ls hl => ?_)
  refine lv_goto (tgt := 3) hx hb dX9_put_48 (by decide) ?_
  refine lv_iload_n hx hb dX9_put_3 rfl (lv_at hl 0 rfl) ?_
  refine lv_if_lt (tgt := 51) hx hb dX9_put_4 (by decide) (fun c21 => ?_) (fun c21 => absurd (by decide) c21)
  exact z_vret hx hb hr hK hS (Nat.le_of_ble_eq_true rfl) (Nat.le_of_ble_eq_true rfl) hlocks dX9_put_51 (shX, ad, I20, JX, PX ad) hW ⟨_, rfl, I20_12_1⟩
set_option maxHeartbeats 4000000 in
set_option maxRecDepth 100000 in
theorem ct_X9_put_12 (l : Launch) (G : z_G) (ad : Nat → Nat) (I : z_I) (a1 : Int32) (hI : I 12 1 = 12) : z_Mv l yX9_put wsX9_put { frames := 1, cells := 0, slots := 0, locals := 12 } [.ref (ad 12), .int a1] G (shX, ad, I, JX, PX ad) (fun u1 => ∃ I1 : z_I, u1 = (shX, ad, I1, JX, PX ad) ∧ I1 12 1 = 16) 0 0 := by
  intro sz
  refine z_headQ (cc := cX9_put) (maxL := 3) (ret := none) (by decide) rfl (Nat.le_of_ble_eq_true rfl) ?_
  intro p e s m below meth c ls hIn hK hsz hW hl
  obtain ⟨hx, hb, hr, hml, hown, hts, hlocks, hname⟩ := hIn
  subst hsz
  have hown : s.vm.findClass RX9 = some m.cls := hown
  have hA : ∀ q : Nat, s.heap.size ≤ q → z_A (shX, ad, I, JX, PX ad) s.heap.size q := fun q h => Or.inr h
  generalize hAe : z_A (shX, ad, I, JX, PX ad) s.heap.size = A at *
  have hS : va_S A s.heap s.heap [] := va_S.rf
  have hl : lv_has ls 3 [(0, .ref (ad 12)), (1, .int a1)] := hl
  refine lv_bipush (v := 24) hx hb dX9_put_0 (by decide) ?_
  refine lv_istore_n (lv' := [(2, .int 24), (0, .ref (ad 12)), (1, .int a1)]) hx hb dX9_put_2 rfl hl (by decide) rfl (fun ls hl => ?_)
  refine lv_iload_n hx hb dX9_put_3 rfl (lv_at hl 0 rfl) ?_
  refine lv_if_lt (tgt := 51) hx hb dX9_put_4 (by decide) (fun c1 => absurd c1 (by decide)) (fun c1 => ?_)
  refine lv_aload_n hx hb dX9_put_7 rfl (lv_at hl 1 rfl) ?_
  refine z_get (T := TX9) (N := 14) (ci := 9) (i := 12) (v := .int 12) hx hb hts zi_X9_put_X9 hown hK hW rfl rfl 1 (by decide) (hts (.fieldLink RX9 36 "PetrolBoard$Reader" "taped" "I") (List.mem_of_getElem? (i := 1) rfl)) (fun _ h => h) (congrArg Value.int hI) dX9_put_8 ?_
  refine lv_aload_n hx hb dX9_put_11 rfl (lv_at hl 1 rfl) ?_
  refine z_get (T := TX9) (N := 14) (ci := 9) (i := 12) (v := .ref (ad 13)) hx hb hts zi_X9_put_X9 hown hK hW rfl rfl 0 (by decide) (hts (.fieldLink RX9 9 "PetrolBoard$Reader" "text" "[I") (List.mem_of_getElem? (i := 2) rfl)) (fun _ h => h) rfl dX9_put_12 ?_
  refine z_alen (i := 13) (v := 500) hx hb hK hW rfl (by simp [z_tys]) (by rfl) dX9_put_15 ?_
  refine lv_icmp_ge (tgt := 51) hx hb dX9_put_16 (by decide) (fun c2 => absurd c2 (by decide)) (fun c2 => ?_)
  refine lv_aload_n hx hb dX9_put_19 rfl (lv_at hl 1 rfl) ?_
  refine z_get (T := TX9) (N := 14) (ci := 9) (i := 12) (v := .ref (ad 13)) hx hb hts zi_X9_put_X9 hown hK hW rfl rfl 0 (by decide) (hts (.fieldLink RX9 9 "PetrolBoard$Reader" "text" "[I") (List.mem_of_getElem? (i := 2) rfl)) (fun _ h => h) rfl dX9_put_20 ?_
  refine lv_aload_n hx hb dX9_put_23 rfl (lv_at hl 1 rfl) ?_
  refine z_get (T := TX9) (N := 14) (ci := 9) (i := 12) (v := .int 12) hx hb hts zi_X9_put_X9 hown hK hW rfl rfl 1 (by decide) (hts (.fieldLink RX9 36 "PetrolBoard$Reader" "taped" "I") (List.mem_of_getElem? (i := 1) rfl)) (fun _ h => h) (congrArg Value.int hI) dX9_put_24 ?_
  refine lv_iload_n hx hb dX9_put_27 rfl (lv_at hl 2 rfl) ?_
  refine lv_iload_n hx hb dX9_put_28 rfl (lv_at hl 0 rfl) ?_
  refine lv_iushr hx hb dX9_put_29 rfl ?_
  refine lv_topi (fun x3 ex3 => ?_)
  refine lv_sipush (v := 255) hx hb dX9_put_30 (by decide) ?_
  refine lv_iand hx hb dX9_put_33 ?_
  refine z_iast (i := 13) hx hb hK hW hS rfl (z_inl (by decide)) dX9_put_34 (fun H locs hz1 hW hS => ?_)
  obtain ⟨I4, eI4⟩ : ∃ J : z_I, J = (z_up I 13 (12 : Int32).toNatClampNeg (x3 &&& 255)) := ⟨_, rfl⟩
  rw [← eI4] at hW
  have I4_12_1 : I4 12 1 = 12 := by rw [eI4, z_up_n (by decide)]; exact hI
  refine lv_aload_n hx hb dX9_put_35 rfl (lv_at hl 1 rfl) ?_
  refine lv_dup hx hb dX9_put_36 rfl ?_
  refine z_get (T := TX9) (N := 14) (ci := 9) (i := 12) (v := .int 12) hx hb hts zi_X9_put_X9 hown hK hW rfl rfl 1 (by decide) (hts (.fieldLink RX9 36 "PetrolBoard$Reader" "taped" "I") (List.mem_of_getElem? (i := 1) rfl)) (fun _ h => h) (congrArg Value.int I4_12_1) dX9_put_37 ?_
  refine lv_iconst (v := 1) hx hb dX9_put_40 (by decide) ?_
  refine lv_iadd hx hb dX9_put_41 ?_
  refine z_topi (v := 13) (by decide) ?_
  refine z_put (T := TX9) (N := 14) (ci := 9) (i := 12) (v := .int 13) (I1 := (z_up I4 12 1 13)) (J1 := JX) (P1 := PX ad) hx hb hts zi_X9_put_X9 tyX9 tyX9_ok nmX9 hown hK hW hS rfl rfl 1 (by decide) (hts (.fieldLink RX9 36 "PetrolBoard$Reader" "taped" "I") (List.mem_of_getElem? (i := 1) rfl)) (fun _ h => h) rfl rfl rfl (by first | rfl | exact congrArg _ z_up_s) (fun a b h ty => z_vI h ty) dX9_put_42 (fun H locs hz1 hW hS => ?_)
  obtain ⟨I5, eI5⟩ : ∃ J : z_I, J = (z_up I4 12 1 13) := ⟨_, rfl⟩
  rw [← eI5] at hW
  have I5_12_1 : I5 12 1 = 13 := by rw [eI5]; exact z_up_s
  refine lv_iinc (v := 16) (lv' := [(2, .int 16), (0, .ref (ad 12)), (1, .int a1)]) hx hb dX9_put_45 hl (k := 0) rfl (by decide) (by decide) rfl (fun ls hl => ?_)
  refine lv_goto (tgt := 3) hx hb dX9_put_48 (by decide) ?_
  refine lv_iload_n hx hb dX9_put_3 rfl (lv_at hl 0 rfl) ?_
  refine lv_if_lt (tgt := 51) hx hb dX9_put_4 (by decide) (fun c6 => absurd c6 (by decide)) (fun c6 => ?_)
  refine lv_aload_n hx hb dX9_put_7 rfl (lv_at hl 1 rfl) ?_
  refine z_get (T := TX9) (N := 14) (ci := 9) (i := 12) (v := .int 13) hx hb hts zi_X9_put_X9 hown hK hW rfl rfl 1 (by decide) (hts (.fieldLink RX9 36 "PetrolBoard$Reader" "taped" "I") (List.mem_of_getElem? (i := 1) rfl)) (fun _ h => h) (congrArg Value.int I5_12_1) dX9_put_8 ?_
  refine lv_aload_n hx hb dX9_put_11 rfl (lv_at hl 1 rfl) ?_
  refine z_get (T := TX9) (N := 14) (ci := 9) (i := 12) (v := .ref (ad 13)) hx hb hts zi_X9_put_X9 hown hK hW rfl rfl 0 (by decide) (hts (.fieldLink RX9 9 "PetrolBoard$Reader" "text" "[I") (List.mem_of_getElem? (i := 2) rfl)) (fun _ h => h) rfl dX9_put_12 ?_
  refine z_alen (i := 13) (v := 500) hx hb hK hW rfl (by simp [z_tys]) (by rfl) dX9_put_15 ?_
  refine lv_icmp_ge (tgt := 51) hx hb dX9_put_16 (by decide) (fun c7 => absurd c7 (by decide)) (fun c7 => ?_)
  refine lv_aload_n hx hb dX9_put_19 rfl (lv_at hl 1 rfl) ?_
  refine z_get (T := TX9) (N := 14) (ci := 9) (i := 12) (v := .ref (ad 13)) hx hb hts zi_X9_put_X9 hown hK hW rfl rfl 0 (by decide) (hts (.fieldLink RX9 9 "PetrolBoard$Reader" "text" "[I") (List.mem_of_getElem? (i := 2) rfl)) (fun _ h => h) rfl dX9_put_20 ?_
  refine lv_aload_n hx hb dX9_put_23 rfl (lv_at hl 1 rfl) ?_
  refine z_get (T := TX9) (N := 14) (ci := 9) (i := 12) (v := .int 13) hx hb hts zi_X9_put_X9 hown hK hW rfl rfl 1 (by decide) (hts (.fieldLink RX9 36 "PetrolBoard$Reader" "taped" "I") (List.mem_of_getElem? (i := 1) rfl)) (fun _ h => h) (congrArg Value.int I5_12_1) dX9_put_24 ?_
  refine lv_iload_n hx hb dX9_put_27 rfl (lv_at hl 2 rfl) ?_
  refine lv_iload_n hx hb dX9_put_28 rfl (lv_at hl 0 rfl) ?_
  refine lv_iushr hx hb dX9_put_29 rfl ?_
  refine lv_topi (fun x8 ex8 => ?_)
  refine lv_sipush (v := 255) hx hb dX9_put_30 (by decide) ?_
  refine lv_iand hx hb dX9_put_33 ?_
  refine z_iast (i := 13) hx hb hK hW hS rfl (z_inl (by decide)) dX9_put_34 (fun H locs hz1 hW hS => ?_)
  obtain ⟨I9, eI9⟩ : ∃ J : z_I, J = (z_up I5 13 (13 : Int32).toNatClampNeg (x8 &&& 255)) := ⟨_, rfl⟩
  rw [← eI9] at hW
  have I9_12_1 : I9 12 1 = 13 := by rw [eI9, z_up_n (by decide)]; exact I5_12_1
  refine lv_aload_n hx hb dX9_put_35 rfl (lv_at hl 1 rfl) ?_
  refine lv_dup hx hb dX9_put_36 rfl ?_
  refine z_get (T := TX9) (N := 14) (ci := 9) (i := 12) (v := .int 13) hx hb hts zi_X9_put_X9 hown hK hW rfl rfl 1 (by decide) (hts (.fieldLink RX9 36 "PetrolBoard$Reader" "taped" "I") (List.mem_of_getElem? (i := 1) rfl)) (fun _ h => h) (congrArg Value.int I9_12_1) dX9_put_37 ?_
  refine lv_iconst (v := 1) hx hb dX9_put_40 (by decide) ?_
  refine lv_iadd hx hb dX9_put_41 ?_
  refine z_topi (v := 14) (by decide) ?_
  refine z_put (T := TX9) (N := 14) (ci := 9) (i := 12) (v := .int 14) (I1 := (z_up I9 12 1 14)) (J1 := JX) (P1 := PX ad) hx hb hts zi_X9_put_X9 tyX9 tyX9_ok nmX9 hown hK hW hS rfl rfl 1 (by decide) (hts (.fieldLink RX9 36 "PetrolBoard$Reader" "taped" "I") (List.mem_of_getElem? (i := 1) rfl)) (fun _ h => h) rfl rfl rfl (by first | rfl | exact congrArg _ z_up_s) (fun a b h ty => z_vI h ty) dX9_put_42 (fun H locs hz1 hW hS => ?_)
  obtain ⟨I10, eI10⟩ : ∃ J : z_I, J = (z_up I9 12 1 14) := ⟨_, rfl⟩
  rw [← eI10] at hW
  have I10_12_1 : I10 12 1 = 14 := by rw [eI10]; exact z_up_s
  refine lv_iinc (v := 8) (lv' := [(2, .int 8), (0, .ref (ad 12)), (1, .int a1)]) hx hb dX9_put_45 hl (k := 0) rfl (by decide) (by decide) rfl (fun ls hl => ?_)
  refine lv_goto (tgt := 3) hx hb dX9_put_48 (by decide) ?_
  refine lv_iload_n hx hb dX9_put_3 rfl (lv_at hl 0 rfl) ?_
  refine lv_if_lt (tgt := 51) hx hb dX9_put_4 (by decide) (fun c11 => absurd c11 (by decide)) (fun c11 => ?_)
  refine lv_aload_n hx hb dX9_put_7 rfl (lv_at hl 1 rfl) ?_
  refine z_get (T := TX9) (N := 14) (ci := 9) (i := 12) (v := .int 14) hx hb hts zi_X9_put_X9 hown hK hW rfl rfl 1 (by decide) (hts (.fieldLink RX9 36 "PetrolBoard$Reader" "taped" "I") (List.mem_of_getElem? (i := 1) rfl)) (fun _ h => h) (congrArg Value.int I10_12_1) dX9_put_8 ?_
  refine lv_aload_n hx hb dX9_put_11 rfl (lv_at hl 1 rfl) ?_
  refine z_get (T := TX9) (N := 14) (ci := 9) (i := 12) (v := .ref (ad 13)) hx hb hts zi_X9_put_X9 hown hK hW rfl rfl 0 (by decide) (hts (.fieldLink RX9 9 "PetrolBoard$Reader" "text" "[I") (List.mem_of_getElem? (i := 2) rfl)) (fun _ h => h) rfl dX9_put_12 ?_
  refine z_alen (i := 13) (v := 500) hx hb hK hW rfl (by simp [z_tys]) (by rfl) dX9_put_15 ?_
  refine lv_icmp_ge (tgt := 51) hx hb dX9_put_16 (by decide) (fun c12 => absurd c12 (by decide)) (fun c12 => ?_)
  refine lv_aload_n hx hb dX9_put_19 rfl (lv_at hl 1 rfl) ?_
  refine z_get (T := TX9) (N := 14) (ci := 9) (i := 12) (v := .ref (ad 13)) hx hb hts zi_X9_put_X9 hown hK hW rfl rfl 0 (by decide) (hts (.fieldLink RX9 9 "PetrolBoard$Reader" "text" "[I") (List.mem_of_getElem? (i := 2) rfl)) (fun _ h => h) rfl dX9_put_20 ?_
  refine lv_aload_n hx hb dX9_put_23 rfl (lv_at hl 1 rfl) ?_
  refine z_get (T := TX9) (N := 14) (ci := 9) (i := 12) (v := .int 14) hx hb hts zi_X9_put_X9 hown hK hW rfl rfl 1 (by decide) (hts (.fieldLink RX9 36 "PetrolBoard$Reader" "taped" "I") (List.mem_of_getElem? (i := 1) rfl)) (fun _ h => h) (congrArg Value.int I10_12_1) dX9_put_24 ?_
  refine lv_iload_n hx hb dX9_put_27 rfl (lv_at hl 2 rfl) ?_
  refine lv_iload_n hx hb dX9_put_28 rfl (lv_at hl 0 rfl) ?_
  refine lv_iushr hx hb dX9_put_29 rfl ?_
  refine lv_topi (fun x13 ex13 => ?_)
  refine lv_sipush (v := 255) hx hb dX9_put_30 (by decide) ?_
  refine lv_iand hx hb dX9_put_33 ?_
  refine z_iast (i := 13) hx hb hK hW hS rfl (z_inl (by decide)) dX9_put_34 (fun H locs hz1 hW hS => ?_)
  obtain ⟨I14, eI14⟩ : ∃ J : z_I, J = (z_up I10 13 (14 : Int32).toNatClampNeg (x13 &&& 255)) := ⟨_, rfl⟩
  rw [← eI14] at hW
  have I14_12_1 : I14 12 1 = 14 := by rw [eI14, z_up_n (by decide)]; exact I10_12_1
  refine lv_aload_n hx hb dX9_put_35 rfl (lv_at hl 1 rfl) ?_
  refine lv_dup hx hb dX9_put_36 rfl ?_
  refine z_get (T := TX9) (N := 14) (ci := 9) (i := 12) (v := .int 14) hx hb hts zi_X9_put_X9 hown hK hW rfl rfl 1 (by decide) (hts (.fieldLink RX9 36 "PetrolBoard$Reader" "taped" "I") (List.mem_of_getElem? (i := 1) rfl)) (fun _ h => h) (congrArg Value.int I14_12_1) dX9_put_37 ?_
  refine lv_iconst (v := 1) hx hb dX9_put_40 (by decide) ?_
  refine lv_iadd hx hb dX9_put_41 ?_
  refine z_topi (v := 15) (by decide) ?_
  refine z_put (T := TX9) (N := 14) (ci := 9) (i := 12) (v := .int 15) (I1 := (z_up I14 12 1 15)) (J1 := JX) (P1 := PX ad) hx hb hts zi_X9_put_X9 tyX9 tyX9_ok nmX9 hown hK hW hS rfl rfl 1 (by decide) (hts (.fieldLink RX9 36 "PetrolBoard$Reader" "taped" "I") (List.mem_of_getElem? (i := 1) rfl)) (fun _ h => h) rfl rfl rfl (by first | rfl | exact congrArg _ z_up_s) (fun a b h ty => z_vI h ty) dX9_put_42 (fun H locs hz1 hW hS => ?_)
  obtain ⟨I15, eI15⟩ : ∃ J : z_I, J = (z_up I14 12 1 15) := ⟨_, rfl⟩
  rw [← eI15] at hW
  have I15_12_1 : I15 12 1 = 15 := by rw [eI15]; exact z_up_s
  refine lv_iinc (v := 0) (lv' := [(2, .int 0), (0, .ref (ad 12)), (1, .int a1)]) hx hb dX9_put_45 hl (k := 0) rfl (by decide) (by decide) rfl (fun ls hl => ?_)
  refine lv_goto (tgt := 3) hx hb dX9_put_48 (by decide) ?_
  refine lv_iload_n hx hb dX9_put_3 rfl (lv_at hl 0 rfl) ?_
  refine lv_if_lt (tgt := 51) hx hb dX9_put_4 (by decide) (fun c16 => absurd c16 (by decide)) (fun c16 => ?_)
  refine lv_aload_n hx hb dX9_put_7 rfl (lv_at hl 1 rfl) ?_
  refine z_get (T := TX9) (N := 14) (ci := 9) (i := 12) (v := .int 15) hx hb hts zi_X9_put_X9 hown hK hW rfl rfl 1 (by decide) (hts (.fieldLink RX9 36 "PetrolBoard$Reader" "taped" "I") (List.mem_of_getElem? (i := 1) rfl)) (fun _ h => h) (congrArg Value.int I15_12_1) dX9_put_8 ?_
  refine lv_aload_n hx hb dX9_put_11 rfl (lv_at hl 1 rfl) ?_
  refine z_get (T := TX9) (N := 14) (ci := 9) (i := 12) (v := .ref (ad 13)) hx hb hts zi_X9_put_X9 hown hK hW rfl rfl 0 (by decide) (hts (.fieldLink RX9 9 "PetrolBoard$Reader" "text" "[I") (List.mem_of_getElem? (i := 2) rfl)) (fun _ h => h) rfl dX9_put_12 ?_
  refine z_alen (i := 13) (v := 500) hx hb hK hW rfl (by simp [z_tys]) (by rfl) dX9_put_15 ?_
  refine lv_icmp_ge (tgt := 51) hx hb dX9_put_16 (by decide) (fun c17 => absurd c17 (by decide)) (fun c17 => ?_)
  refine lv_aload_n hx hb dX9_put_19 rfl (lv_at hl 1 rfl) ?_
  refine z_get (T := TX9) (N := 14) (ci := 9) (i := 12) (v := .ref (ad 13)) hx hb hts zi_X9_put_X9 hown hK hW rfl rfl 0 (by decide) (hts (.fieldLink RX9 9 "PetrolBoard$Reader" "text" "[I") (List.mem_of_getElem? (i := 2) rfl)) (fun _ h => h) rfl dX9_put_20 ?_
  refine lv_aload_n hx hb dX9_put_23 rfl (lv_at hl 1 rfl) ?_
  refine z_get (T := TX9) (N := 14) (ci := 9) (i := 12) (v := .int 15) hx hb hts zi_X9_put_X9 hown hK hW rfl rfl 1 (by decide) (hts (.fieldLink RX9 36 "PetrolBoard$Reader" "taped" "I") (List.mem_of_getElem? (i := 1) rfl)) (fun _ h => h) (congrArg Value.int I15_12_1) dX9_put_24 ?_
  refine lv_iload_n hx hb dX9_put_27 rfl (lv_at hl 2 rfl) ?_
  refine lv_iload_n hx hb dX9_put_28 rfl (lv_at hl 0 rfl) ?_
  refine lv_iushr hx hb dX9_put_29 rfl ?_
  refine lv_topi (fun x18 ex18 => ?_)
  refine lv_sipush (v := 255) hx hb dX9_put_30 (by decide) ?_
  refine lv_iand hx hb dX9_put_33 ?_
  refine z_iast (i := 13) hx hb hK hW hS rfl (z_inl (by decide)) dX9_put_34 (fun H locs hz1 hW hS => ?_)
  obtain ⟨I19, eI19⟩ : ∃ J : z_I, J = (z_up I15 13 (15 : Int32).toNatClampNeg (x18 &&& 255)) := ⟨_, rfl⟩
  rw [← eI19] at hW
  have I19_12_1 : I19 12 1 = 15 := by rw [eI19, z_up_n (by decide)]; exact I15_12_1
  refine lv_aload_n hx hb dX9_put_35 rfl (lv_at hl 1 rfl) ?_
  refine lv_dup hx hb dX9_put_36 rfl ?_
  refine z_get (T := TX9) (N := 14) (ci := 9) (i := 12) (v := .int 15) hx hb hts zi_X9_put_X9 hown hK hW rfl rfl 1 (by decide) (hts (.fieldLink RX9 36 "PetrolBoard$Reader" "taped" "I") (List.mem_of_getElem? (i := 1) rfl)) (fun _ h => h) (congrArg Value.int I19_12_1) dX9_put_37 ?_
  refine lv_iconst (v := 1) hx hb dX9_put_40 (by decide) ?_
  refine lv_iadd hx hb dX9_put_41 ?_
  refine z_topi (v := 16) (by decide) ?_
  refine z_put (T := TX9) (N := 14) (ci := 9) (i := 12) (v := .int 16) (I1 := (z_up I19 12 1 16)) (J1 := JX) (P1 := PX ad) hx hb hts zi_X9_put_X9 tyX9 tyX9_ok nmX9 hown hK hW hS rfl rfl 1 (by decide) (hts (.fieldLink RX9 36 "PetrolBoard$Reader" "taped" "I") (List.mem_of_getElem? (i := 1) rfl)) (fun _ h => h) rfl rfl rfl (by first | rfl | exact congrArg _ z_up_s) (fun a b h ty => z_vI h ty) dX9_put_42 (fun H locs hz1 hW hS => ?_)
  obtain ⟨I20, eI20⟩ : ∃ J : z_I, J = (z_up I19 12 1 16) := ⟨_, rfl⟩
  rw [← eI20] at hW
  have I20_12_1 : I20 12 1 = 16 := by rw [eI20]; exact z_up_s
  refine lv_iinc (v := (-8)) (lv' := [(2, .int (-8)), (0, .ref (ad 12)), (1, .int a1)]) hx hb dX9_put_45 hl (k := 0) rfl (by decide) (by decide) rfl (fun ls hl => ?_)
  refine lv_goto (tgt := 3) hx hb dX9_put_48 (by decide) ?_
  refine lv_iload_n hx hb dX9_put_3 rfl (lv_at hl 0 rfl) ?_
  refine lv_if_lt (tgt := 51) hx hb dX9_put_4 (by decide) (fun c21 => ?_) (fun c21 => absurd (by decide) c21)
  exact z_vret hx hb hr hK hS (Nat.le_of_ble_eq_true rfl) (Nat.le_of_ble_eq_true rfl) hlocks dX9_put_51 (shX, ad, I20, JX, PX ad) hW ⟨_, rfl, I20_12_1⟩
set_option maxHeartbeats 4000000 in
set_option maxRecDepth 100000 in
theorem ct_X9_put_16 (l : Launch) (G : z_G) (ad : Nat → Nat) (I : z_I) (a1 : Int32) (hI : I 12 1 = 16) : z_Mv l yX9_put wsX9_put { frames := 1, cells := 0, slots := 0, locals := 12 } [.ref (ad 12), .int a1] G (shX, ad, I, JX, PX ad) (fun u1 => ∃ I1 : z_I, u1 = (shX, ad, I1, JX, PX ad) ∧ I1 12 1 = 20) 0 0 := by
  intro sz
  refine z_headQ (cc := cX9_put) (maxL := 3) (ret := none) (by decide) rfl (Nat.le_of_ble_eq_true rfl) ?_
  intro p e s m below meth c ls hIn hK hsz hW hl
  obtain ⟨hx, hb, hr, hml, hown, hts, hlocks, hname⟩ := hIn
  subst hsz
  have hown : s.vm.findClass RX9 = some m.cls := hown
  have hA : ∀ q : Nat, s.heap.size ≤ q → z_A (shX, ad, I, JX, PX ad) s.heap.size q := fun q h => Or.inr h
  generalize hAe : z_A (shX, ad, I, JX, PX ad) s.heap.size = A at *
  have hS : va_S A s.heap s.heap [] := va_S.rf
  have hl : lv_has ls 3 [(0, .ref (ad 12)), (1, .int a1)] := hl
  refine lv_bipush (v := 24) hx hb dX9_put_0 (by decide) ?_
  refine lv_istore_n (lv' := [(2, .int 24), (0, .ref (ad 12)), (1, .int a1)]) hx hb dX9_put_2 rfl hl (by decide) rfl (fun ls hl => ?_)
  refine lv_iload_n hx hb dX9_put_3 rfl (lv_at hl 0 rfl) ?_
  refine lv_if_lt (tgt := 51) hx hb dX9_put_4 (by decide) (fun c1 => absurd c1 (by decide)) (fun c1 => ?_)
  refine lv_aload_n hx hb dX9_put_7 rfl (lv_at hl 1 rfl) ?_
  refine z_get (T := TX9) (N := 14) (ci := 9) (i := 12) (v := .int 16) hx hb hts zi_X9_put_X9 hown hK hW rfl rfl 1 (by decide) (hts (.fieldLink RX9 36 "PetrolBoard$Reader" "taped" "I") (List.mem_of_getElem? (i := 1) rfl)) (fun _ h => h) (congrArg Value.int hI) dX9_put_8 ?_
  refine lv_aload_n hx hb dX9_put_11 rfl (lv_at hl 1 rfl) ?_
  refine z_get (T := TX9) (N := 14) (ci := 9) (i := 12) (v := .ref (ad 13)) hx hb hts zi_X9_put_X9 hown hK hW rfl rfl 0 (by decide) (hts (.fieldLink RX9 9 "PetrolBoard$Reader" "text" "[I") (List.mem_of_getElem? (i := 2) rfl)) (fun _ h => h) rfl dX9_put_12 ?_
  refine z_alen (i := 13) (v := 500) hx hb hK hW rfl (by simp [z_tys]) (by rfl) dX9_put_15 ?_
  refine lv_icmp_ge (tgt := 51) hx hb dX9_put_16 (by decide) (fun c2 => absurd c2 (by decide)) (fun c2 => ?_)
  refine lv_aload_n hx hb dX9_put_19 rfl (lv_at hl 1 rfl) ?_
  refine z_get (T := TX9) (N := 14) (ci := 9) (i := 12) (v := .ref (ad 13)) hx hb hts zi_X9_put_X9 hown hK hW rfl rfl 0 (by decide) (hts (.fieldLink RX9 9 "PetrolBoard$Reader" "text" "[I") (List.mem_of_getElem? (i := 2) rfl)) (fun _ h => h) rfl dX9_put_20 ?_
  refine lv_aload_n hx hb dX9_put_23 rfl (lv_at hl 1 rfl) ?_
  refine z_get (T := TX9) (N := 14) (ci := 9) (i := 12) (v := .int 16) hx hb hts zi_X9_put_X9 hown hK hW rfl rfl 1 (by decide) (hts (.fieldLink RX9 36 "PetrolBoard$Reader" "taped" "I") (List.mem_of_getElem? (i := 1) rfl)) (fun _ h => h) (congrArg Value.int hI) dX9_put_24 ?_
  refine lv_iload_n hx hb dX9_put_27 rfl (lv_at hl 2 rfl) ?_
  refine lv_iload_n hx hb dX9_put_28 rfl (lv_at hl 0 rfl) ?_
  refine lv_iushr hx hb dX9_put_29 rfl ?_
  refine lv_topi (fun x3 ex3 => ?_)
  refine lv_sipush (v := 255) hx hb dX9_put_30 (by decide) ?_
  refine lv_iand hx hb dX9_put_33 ?_
  refine z_iast (i := 13) hx hb hK hW hS rfl (z_inl (by decide)) dX9_put_34 (fun H locs hz1 hW hS => ?_)
  obtain ⟨I4, eI4⟩ : ∃ J : z_I, J = (z_up I 13 (16 : Int32).toNatClampNeg (x3 &&& 255)) := ⟨_, rfl⟩
  rw [← eI4] at hW
  have I4_12_1 : I4 12 1 = 16 := by rw [eI4, z_up_n (by decide)]; exact hI
  refine lv_aload_n hx hb dX9_put_35 rfl (lv_at hl 1 rfl) ?_
  refine lv_dup hx hb dX9_put_36 rfl ?_
  refine z_get (T := TX9) (N := 14) (ci := 9) (i := 12) (v := .int 16) hx hb hts zi_X9_put_X9 hown hK hW rfl rfl 1 (by decide) (hts (.fieldLink RX9 36 "PetrolBoard$Reader" "taped" "I") (List.mem_of_getElem? (i := 1) rfl)) (fun _ h => h) (congrArg Value.int I4_12_1) dX9_put_37 ?_
  refine lv_iconst (v := 1) hx hb dX9_put_40 (by decide) ?_
  refine lv_iadd hx hb dX9_put_41 ?_
  refine z_topi (v := 17) (by decide) ?_
  refine z_put (T := TX9) (N := 14) (ci := 9) (i := 12) (v := .int 17) (I1 := (z_up I4 12 1 17)) (J1 := JX) (P1 := PX ad) hx hb hts zi_X9_put_X9 tyX9 tyX9_ok nmX9 hown hK hW hS rfl rfl 1 (by decide) (hts (.fieldLink RX9 36 "PetrolBoard$Reader" "taped" "I") (List.mem_of_getElem? (i := 1) rfl)) (fun _ h => h) rfl rfl rfl (by first | rfl | exact congrArg _ z_up_s) (fun a b h ty => z_vI h ty) dX9_put_42 (fun H locs hz1 hW hS => ?_)
  obtain ⟨I5, eI5⟩ : ∃ J : z_I, J = (z_up I4 12 1 17) := ⟨_, rfl⟩
  rw [← eI5] at hW
  have I5_12_1 : I5 12 1 = 17 := by rw [eI5]; exact z_up_s
  refine lv_iinc (v := 16) (lv' := [(2, .int 16), (0, .ref (ad 12)), (1, .int a1)]) hx hb dX9_put_45 hl (k := 0) rfl (by decide) (by decide) rfl (fun ls hl => ?_)
  refine lv_goto (tgt := 3) hx hb dX9_put_48 (by decide) ?_
  refine lv_iload_n hx hb dX9_put_3 rfl (lv_at hl 0 rfl) ?_
  refine lv_if_lt (tgt := 51) hx hb dX9_put_4 (by decide) (fun c6 => absurd c6 (by decide)) (fun c6 => ?_)
  refine lv_aload_n hx hb dX9_put_7 rfl (lv_at hl 1 rfl) ?_
  refine z_get (T := TX9) (N := 14) (ci := 9) (i := 12) (v := .int 17) hx hb hts zi_X9_put_X9 hown hK hW rfl rfl 1 (by decide) (hts (.fieldLink RX9 36 "PetrolBoard$Reader" "taped" "I") (List.mem_of_getElem? (i := 1) rfl)) (fun _ h => h) (congrArg Value.int I5_12_1) dX9_put_8 ?_
  refine lv_aload_n hx hb dX9_put_11 rfl (lv_at hl 1 rfl) ?_
  refine z_get (T := TX9) (N := 14) (ci := 9) (i := 12) (v := .ref (ad 13)) hx hb hts zi_X9_put_X9 hown hK hW rfl rfl 0 (by decide) (hts (.fieldLink RX9 9 "PetrolBoard$Reader" "text" "[I") (List.mem_of_getElem? (i := 2) rfl)) (fun _ h => h) rfl dX9_put_12 ?_
  refine z_alen (i := 13) (v := 500) hx hb hK hW rfl (by simp [z_tys]) (by rfl) dX9_put_15 ?_
  refine lv_icmp_ge (tgt := 51) hx hb dX9_put_16 (by decide) (fun c7 => absurd c7 (by decide)) (fun c7 => ?_)
  refine lv_aload_n hx hb dX9_put_19 rfl (lv_at hl 1 rfl) ?_
  refine z_get (T := TX9) (N := 14) (ci := 9) (i := 12) (v := .ref (ad 13)) hx hb hts zi_X9_put_X9 hown hK hW rfl rfl 0 (by decide) (hts (.fieldLink RX9 9 "PetrolBoard$Reader" "text" "[I") (List.mem_of_getElem? (i := 2) rfl)) (fun _ h => h) rfl dX9_put_20 ?_
  refine lv_aload_n hx hb dX9_put_23 rfl (lv_at hl 1 rfl) ?_
  refine z_get (T := TX9) (N := 14) (ci := 9) (i := 12) (v := .int 17) hx hb hts zi_X9_put_X9 hown hK hW rfl rfl 1 (by decide) (hts (.fieldLink RX9 36 "PetrolBoard$Reader" "taped" "I") (List.mem_of_getElem? (i := 1) rfl)) (fun _ h => h) (congrArg Value.int I5_12_1) dX9_put_24 ?_
  refine lv_iload_n hx hb dX9_put_27 rfl (lv_at hl 2 rfl) ?_
  refine lv_iload_n hx hb dX9_put_28 rfl (lv_at hl 0 rfl) ?_
  refine lv_iushr hx hb dX9_put_29 rfl ?_
  refine lv_topi (fun x8 ex8 => ?_)
  refine lv_sipush (v := 255) hx hb dX9_put_30 (by decide) ?_
  refine lv_iand hx hb dX9_put_33 ?_
  refine z_iast (i := 13) hx hb hK hW hS rfl (z_inl (by decide)) dX9_put_34 (fun H locs hz1 hW hS => ?_)
  obtain ⟨I9, eI9⟩ : ∃ J : z_I, J = (z_up I5 13 (17 : Int32).toNatClampNeg (x8 &&& 255)) := ⟨_, rfl⟩
  rw [← eI9] at hW
  have I9_12_1 : I9 12 1 = 17 := by rw [eI9, z_up_n (by decide)]; exact I5_12_1
  refine lv_aload_n hx hb dX9_put_35 rfl (lv_at hl 1 rfl) ?_
  refine lv_dup hx hb dX9_put_36 rfl ?_
  refine z_get (T := TX9) (N := 14) (ci := 9) (i := 12) (v := .int 17) hx hb hts zi_X9_put_X9 hown hK hW rfl rfl 1 (by decide) (hts (.fieldLink RX9 36 "PetrolBoard$Reader" "taped" "I") (List.mem_of_getElem? (i := 1) rfl)) (fun _ h => h) (congrArg Value.int I9_12_1) dX9_put_37 ?_
  refine lv_iconst (v := 1) hx hb dX9_put_40 (by decide) ?_
  refine lv_iadd hx hb dX9_put_41 ?_
  refine z_topi (v := 18) (by decide) ?_
  refine z_put (T := TX9) (N := 14) (ci := 9) (i := 12) (v := .int 18) (I1 := (z_up I9 12 1 18)) (J1 := JX) (P1 := PX ad) hx hb hts zi_X9_put_X9 tyX9 tyX9_ok nmX9 hown hK hW hS rfl rfl 1 (by decide) (hts (.fieldLink RX9 36 "PetrolBoard$Reader" "taped" "I") (List.mem_of_getElem? (i := 1) rfl)) (fun _ h => h) rfl rfl rfl (by first | rfl | exact congrArg _ z_up_s) (fun a b h ty => z_vI h ty) dX9_put_42 (fun H locs hz1 hW hS => ?_)
  obtain ⟨I10, eI10⟩ : ∃ J : z_I, J = (z_up I9 12 1 18) := ⟨_, rfl⟩
  rw [← eI10] at hW
  have I10_12_1 : I10 12 1 = 18 := by rw [eI10]; exact z_up_s
  refine lv_iinc (v := 8) (lv' := [(2, .int 8), (0, .ref (ad 12)), (1, .int a1)]) hx hb dX9_put_45 hl (k := 0) rfl (by decide) (by decide) rfl (fun ls hl => ?_)
  refine lv_goto (tgt := 3) hx hb dX9_put_48 (by decide) ?_
  refine lv_iload_n hx hb dX9_put_3 rfl (lv_at hl 0 rfl) ?_
  refine lv_if_lt (tgt := 51) hx hb dX9_put_4 (by decide) (fun c11 => absurd c11 (by decide)) (fun c11 => ?_)
  refine lv_aload_n hx hb dX9_put_7 rfl (lv_at hl 1 rfl) ?_
  refine z_get (T := TX9) (N := 14) (ci := 9) (i := 12) (v := .int 18) hx hb hts zi_X9_put_X9 hown hK hW rfl rfl 1 (by decide) (hts (.fieldLink RX9 36 "PetrolBoard$Reader" "taped" "I") (List.mem_of_getElem? (i := 1) rfl)) (fun _ h => h) (congrArg Value.int I10_12_1) dX9_put_8 ?_
  refine lv_aload_n hx hb dX9_put_11 rfl (lv_at hl 1 rfl) ?_
  refine z_get (T := TX9) (N := 14) (ci := 9) (i := 12) (v := .ref (ad 13)) hx hb hts zi_X9_put_X9 hown hK hW rfl rfl 0 (by decide) (hts (.fieldLink RX9 9 "PetrolBoard$Reader" "text" "[I") (List.mem_of_getElem? (i := 2) rfl)) (fun _ h => h) rfl dX9_put_12 ?_
  refine z_alen (i := 13) (v := 500) hx hb hK hW rfl (by simp [z_tys]) (by rfl) dX9_put_15 ?_
  refine lv_icmp_ge (tgt := 51) hx hb dX9_put_16 (by decide) (fun c12 => absurd c12 (by decide)) (fun c12 => ?_)
  refine lv_aload_n hx hb dX9_put_19 rfl (lv_at hl 1 rfl) ?_
  refine z_get (T := TX9) (N := 14) (ci := 9) (i := 12) (v := .ref (ad 13)) hx hb hts zi_X9_put_X9 hown hK hW rfl rfl 0 (by decide) (hts (.fieldLink RX9 9 "PetrolBoard$Reader" "text" "[I") (List.mem_of_getElem? (i := 2) rfl)) (fun _ h => h) rfl dX9_put_20 ?_
  refine lv_aload_n hx hb dX9_put_23 rfl (lv_at hl 1 rfl) ?_
  refine z_get (T := TX9) (N := 14) (ci := 9) (i := 12) (v := .int 18) hx hb hts zi_X9_put_X9 hown hK hW rfl rfl 1 (by decide) (hts (.fieldLink RX9 36 "PetrolBoard$Reader" "taped" "I") (List.mem_of_getElem? (i := 1) rfl)) (fun _ h => h) (congrArg Value.int I10_12_1) dX9_put_24 ?_
  refine lv_iload_n hx hb dX9_put_27 rfl (lv_at hl 2 rfl) ?_
  refine lv_iload_n hx hb dX9_put_28 rfl (lv_at hl 0 rfl) ?_
  refine lv_iushr hx hb dX9_put_29 rfl ?_
  refine lv_topi (fun x13 ex13 => ?_)
  refine lv_sipush (v := 255) hx hb dX9_put_30 (by decide) ?_
  refine lv_iand hx hb dX9_put_33 ?_
  refine z_iast (i := 13) hx hb hK hW hS rfl (z_inl (by decide)) dX9_put_34 (fun H locs hz1 hW hS => ?_)
  obtain ⟨I14, eI14⟩ : ∃ J : z_I, J = (z_up I10 13 (18 : Int32).toNatClampNeg (x13 &&& 255)) := ⟨_, rfl⟩
  rw [← eI14] at hW
  have I14_12_1 : I14 12 1 = 18 := by rw [eI14, z_up_n (by decide)]; exact I10_12_1
  refine lv_aload_n hx hb dX9_put_35 rfl (lv_at hl 1 rfl) ?_
  refine lv_dup hx hb dX9_put_36 rfl ?_
  refine z_get (T := TX9) (N := 14) (ci := 9) (i := 12) (v := .int 18) hx hb hts zi_X9_put_X9 hown hK hW rfl rfl 1 (by decide) (hts (.fieldLink RX9 36 "PetrolBoard$Reader" "taped" "I") (List.mem_of_getElem? (i := 1) rfl)) (fun _ h => h) (congrArg Value.int I14_12_1) dX9_put_37 ?_
  refine lv_iconst (v := 1) hx hb dX9_put_40 (by decide) ?_
  refine lv_iadd hx hb dX9_put_41 ?_
  refine z_topi (v := 19) (by decide) ?_
  refine z_put (T := TX9) (N := 14) (ci := 9) (i := 12) (v := .int 19) (I1 := (z_up I14 12 1 19)) (J1 := JX) (P1 := PX ad) hx hb hts zi_X9_put_X9 tyX9 tyX9_ok nmX9 hown hK hW hS rfl rfl 1 (by decide) (hts (.fieldLink RX9 36 "PetrolBoard$Reader" "taped" "I") (List.mem_of_getElem? (i := 1) rfl)) (fun _ h => h) rfl rfl rfl (by first | rfl | exact congrArg _ z_up_s) (fun a b h ty => z_vI h ty) dX9_put_42 (fun H locs hz1 hW hS => ?_)
  obtain ⟨I15, eI15⟩ : ∃ J : z_I, J = (z_up I14 12 1 19) := ⟨_, rfl⟩
  rw [← eI15] at hW
  have I15_12_1 : I15 12 1 = 19 := by rw [eI15]; exact z_up_s
  refine lv_iinc (v := 0) (lv' := [(2, .int 0), (0, .ref (ad 12)), (1, .int a1)]) hx hb dX9_put_45 hl (k := 0) rfl (by decide) (by decide) rfl (fun ls hl => ?_)
  refine lv_goto (tgt := 3) hx hb dX9_put_48 (by decide) ?_
  refine lv_iload_n hx hb dX9_put_3 rfl (lv_at hl 0 rfl) ?_
  refine lv_if_lt (tgt := 51) hx hb dX9_put_4 (by decide) (fun c16 => absurd c16 (by decide)) (fun c16 => ?_)
  refine lv_aload_n hx hb dX9_put_7 rfl (lv_at hl 1 rfl) ?_
  refine z_get (T := TX9) (N := 14) (ci := 9) (i := 12) (v := .int 19) hx hb hts zi_X9_put_X9 hown hK hW rfl rfl 1 (by decide) (hts (.fieldLink RX9 36 "PetrolBoard$Reader" "taped" "I") (List.mem_of_getElem? (i := 1) rfl)) (fun _ h => h) (congrArg Value.int I15_12_1) dX9_put_8 ?_
  refine lv_aload_n hx hb dX9_put_11 rfl (lv_at hl 1 rfl) ?_
  refine z_get (T := TX9) (N := 14) (ci := 9) (i := 12) (v := .ref (ad 13)) hx hb hts zi_X9_put_X9 hown hK hW rfl rfl 0 (by decide) (hts (.fieldLink RX9 9 "PetrolBoard$Reader" "text" "[I") (List.mem_of_getElem? (i := 2) rfl)) (fun _ h => h) rfl dX9_put_12 ?_
  refine z_alen (i := 13) (v := 500) hx hb hK hW rfl (by simp [z_tys]) (by rfl) dX9_put_15 ?_
  refine lv_icmp_ge (tgt := 51) hx hb dX9_put_16 (by decide) (fun c17 => absurd c17 (by decide)) (fun c17 => ?_)
  refine lv_aload_n hx hb dX9_put_19 rfl (lv_at hl 1 rfl) ?_
  refine z_get (T := TX9) (N := 14) (ci := 9) (i := 12) (v := .ref (ad 13)) hx hb hts zi_X9_put_X9 hown hK hW rfl rfl 0 (by decide) (hts (.fieldLink RX9 9 "PetrolBoard$Reader" "text" "[I") (List.mem_of_getElem? (i := 2) rfl)) (fun _ h => h) rfl dX9_put_20 ?_
  refine lv_aload_n hx hb dX9_put_23 rfl (lv_at hl 1 rfl) ?_
  refine z_get (T := TX9) (N := 14) (ci := 9) (i := 12) (v := .int 19) hx hb hts zi_X9_put_X9 hown hK hW rfl rfl 1 (by decide) (hts (.fieldLink RX9 36 "PetrolBoard$Reader" "taped" "I") (List.mem_of_getElem? (i := 1) rfl)) (fun _ h => h) (congrArg Value.int I15_12_1) dX9_put_24 ?_
  refine lv_iload_n hx hb dX9_put_27 rfl (lv_at hl 2 rfl) ?_
  refine lv_iload_n hx hb dX9_put_28 rfl (lv_at hl 0 rfl) ?_
  refine lv_iushr hx hb dX9_put_29 rfl ?_
  refine lv_topi (fun x18 ex18 => ?_)
  refine lv_sipush (v := 255) hx hb dX9_put_30 (by decide) ?_
  refine lv_iand hx hb dX9_put_33 ?_
  refine z_iast (i := 13) hx hb hK hW hS rfl (z_inl (by decide)) dX9_put_34 (fun H locs hz1 hW hS => ?_)
  obtain ⟨I19, eI19⟩ : ∃ J : z_I, J = (z_up I15 13 (19 : Int32).toNatClampNeg (x18 &&& 255)) := ⟨_, rfl⟩
  rw [← eI19] at hW
  have I19_12_1 : I19 12 1 = 19 := by rw [eI19, z_up_n (by decide)]; exact I15_12_1
  refine lv_aload_n hx hb dX9_put_35 rfl (lv_at hl 1 rfl) ?_
  refine lv_dup hx hb dX9_put_36 rfl ?_
  refine z_get (T := TX9) (N := 14) (ci := 9) (i := 12) (v := .int 19) hx hb hts zi_X9_put_X9 hown hK hW rfl rfl 1 (by decide) (hts (.fieldLink RX9 36 "PetrolBoard$Reader" "taped" "I") (List.mem_of_getElem? (i := 1) rfl)) (fun _ h => h) (congrArg Value.int I19_12_1) dX9_put_37 ?_
  refine lv_iconst (v := 1) hx hb dX9_put_40 (by decide) ?_
  refine lv_iadd hx hb dX9_put_41 ?_
  refine z_topi (v := 20) (by decide) ?_
  refine z_put (T := TX9) (N := 14) (ci := 9) (i := 12) (v := .int 20) (I1 := (z_up I19 12 1 20)) (J1 := JX) (P1 := PX ad) hx hb hts zi_X9_put_X9 tyX9 tyX9_ok nmX9 hown hK hW hS rfl rfl 1 (by decide) (hts (.fieldLink RX9 36 "PetrolBoard$Reader" "taped" "I") (List.mem_of_getElem? (i := 1) rfl)) (fun _ h => h) rfl rfl rfl (by first | rfl | exact congrArg _ z_up_s) (fun a b h ty => z_vI h ty) dX9_put_42 (fun H locs hz1 hW hS => ?_)
  obtain ⟨I20, eI20⟩ : ∃ J : z_I, J = (z_up I19 12 1 20) := ⟨_, rfl⟩
  rw [← eI20] at hW
  have I20_12_1 : I20 12 1 = 20 := by rw [eI20]; exact z_up_s
  refine lv_iinc (v := (-8)) (lv' := [(2, .int (-8)), (0, .ref (ad 12)), (1, .int a1)]) hx hb dX9_put_45 hl (k := 0) rfl (by decide) (by decide) rfl (fun ls hl => ?_)
  refine lv_goto (tgt := 3) hx hb dX9_put_48 (by decide) ?_
  refine lv_iload_n hx hb dX9_put_3 rfl (lv_at hl 0 rfl) ?_
  refine lv_if_lt (tgt := 51) hx hb dX9_put_4 (by decide) (fun c21 => ?_) (fun c21 => absurd (by decide) c21)
  exact z_vret hx hb hr hK hS (Nat.le_of_ble_eq_true rfl) (Nat.le_of_ble_eq_true rfl) hlocks dX9_put_51 (shX, ad, I20, JX, PX ad) hW ⟨_, rfl, I20_12_1⟩
theorem zi_X11_feed_X9 : ∀ w ∈ wsX90, w ∈ wsX11_feed := fun w h => (List.mem_cons_of_mem _ (List.mem_append_right _ h))
theorem zi_X11_feed_X11 : ∀ w ∈ wsX110, w ∈ wsX11_feed := fun w h => (List.mem_cons_of_mem _ (List.mem_append_left _ (List.mem_append_right _ h)))
set_option maxHeartbeats 4000000 in
set_option maxRecDepth 100000 in
theorem ct_X11_feed (l : Launch) (G : z_G) (ad : Nat → Nat) (a1 : Int32) (a2 : Int32) (a3 : Int32) (a4 : Int32) (a5 : Int32) : z_M l yX11_feed wsX11_feed { frames := 2, cells := 0, slots := 0, locals := 34 } [.ref (ad 0), .int a1, .int a2, .int a3, .int a4, .int a5] G (shX, ad, IX, JX, PX ad) (fun r u1 => r = 20) 0 0 := by
  intro sz
  refine z_headQ (cc := cX11_feed) (maxL := 6) (ret := (some .int)) (by decide) rfl (Nat.le_of_ble_eq_true rfl) ?_
  intro p e s m below meth c ls hIn hK hsz hW hl
  obtain ⟨hx, hb, hr, hml, hown, hts, hlocks, hname⟩ := hIn
  subst hsz
  have hown : s.vm.findClass RX11 = some m.cls := hown
  have hA : ∀ q : Nat, s.heap.size ≤ q → z_A (shX, ad, IX, JX, PX ad) s.heap.size q := fun q h => Or.inr h
  generalize hAe : z_A (shX, ad, IX, JX, PX ad) s.heap.size = A at *
  have hS : va_S A s.heap s.heap [] := va_S.rf
  have hl : lv_has ls 6 [(0, .ref (ad 0)), (1, .int a1), (2, .int a2), (3, .int a3), (4, .int a4), (5, .int a5)] := hl
  refine lv_aload_n hx hb dX11_feed_0 rfl (lv_at hl 0 rfl) ?_
  refine z_get (T := TX11) (N := 13) (ci := 11) (i := 0) (v := .ref (ad 12)) hx hb hts zi_X11_feed_X11 hown hK hW rfl rfl 3 (by decide) (hts (.fieldLink RX11 23 "PetrolBoard" "reader" "LPetrolBoard$Reader;") (List.mem_of_getElem? (i := 1) rfl)) (fun _ h => h) rfl dX11_feed_1 ?_
  refine z_get (T := TX9) (N := 14) (ci := 9) (i := 12) (v := .int 0) hx hb hts zi_X11_feed_X9 hown hK hW rfl rfl 1 (by decide) (hts (.fieldLink RX11 115 "PetrolBoard$Reader" "taped" "I") (List.mem_of_getElem? (i := 2) rfl)) (fun _ h => h) rfl dX11_feed_4 ?_
  refine lv_bipush (v := 20) hx hb dX11_feed_7 (by decide) ?_
  refine lv_iadd hx hb dX11_feed_9 ?_
  refine z_topi (v := 20) (by decide) ?_
  refine lv_sipush (v := 500) hx hb dX11_feed_10 (by decide) ?_
  refine lv_icmp_le (tgt := 18) hx hb dX11_feed_13 (by decide) (fun c1 => ?_) (fun c1 => absurd (by decide) c1)
  refine lv_aload_n hx hb dX11_feed_18 rfl (lv_at hl 0 rfl) ?_
  refine z_get (T := TX11) (N := 13) (ci := 11) (i := 0) (v := .ref (ad 12)) hx hb hts zi_X11_feed_X11 hown hK hW rfl rfl 3 (by decide) (hts (.fieldLink RX11 23 "PetrolBoard" "reader" "LPetrolBoard$Reader;") (List.mem_of_getElem? (i := 1) rfl)) (fun _ h => h) rfl dX11_feed_19 ?_
  refine lv_iload_n hx hb dX11_feed_22 rfl (lv_at hl 1 rfl) ?_
  refine z_cv hW hS hA (va_runV (As := [.int a1]) (rest := []) ⟨hx, hb, hml, hown, hts⟩ (ct_X9_put_0 l G ad IX a1 rfl _) (cwV 1 hts gX11_feed_X9_put rfl rfl rfl (by decide +kernel) ⟨Nat.le_of_ble_eq_true rfl, Nat.le_of_ble_eq_true rfl⟩) (z_preV hK hW rfl rfl) rfl rfl hl.1 rfl (lv_room (Nat.le_of_ble_eq_true rfl)) dX11_feed_23 ⟨Nat.le_of_ble_eq_true rfl, Nat.le_of_ble_eq_true rfl⟩) (fun u1 H locs hp hW hS => ?_)
  obtain ⟨I2, e9, hI2⟩ := hp
  rw [e9] at hW
  refine lv_aload_n hx hb dX11_feed_26 rfl (lv_at hl 0 rfl) ?_
  refine z_get (T := TX11) (N := 13) (ci := 11) (i := 0) (v := .ref (ad 12)) hx hb hts zi_X11_feed_X11 hown hK hW rfl rfl 3 (by decide) (hts (.fieldLink RX11 23 "PetrolBoard" "reader" "LPetrolBoard$Reader;") (List.mem_of_getElem? (i := 1) rfl)) (fun _ h => h) rfl dX11_feed_27 ?_
  refine lv_iload_n hx hb dX11_feed_30 rfl (lv_at hl 2 rfl) ?_
  refine z_cv hW hS hA (va_runV (As := [.int a2]) (rest := []) ⟨hx, hb, hml, hown, hts⟩ (ct_X9_put_4 l G ad I2 a2 hI2 _) (cwV 1 hts gX11_feed_X9_put rfl rfl rfl (by decide +kernel) ⟨Nat.le_of_ble_eq_true rfl, Nat.le_of_ble_eq_true rfl⟩) (z_preV hK hW rfl rfl) rfl rfl hl.1 rfl (lv_room (Nat.le_of_ble_eq_true rfl)) dX11_feed_31 ⟨Nat.le_of_ble_eq_true rfl, Nat.le_of_ble_eq_true rfl⟩) (fun u1 H locs hp hW hS => ?_)
  obtain ⟨I3, e9, hI3⟩ := hp
  rw [e9] at hW
  refine lv_aload_n hx hb dX11_feed_34 rfl (lv_at hl 0 rfl) ?_
  refine z_get (T := TX11) (N := 13) (ci := 11) (i := 0) (v := .ref (ad 12)) hx hb hts zi_X11_feed_X11 hown hK hW rfl rfl 3 (by decide) (hts (.fieldLink RX11 23 "PetrolBoard" "reader" "LPetrolBoard$Reader;") (List.mem_of_getElem? (i := 1) rfl)) (fun _ h => h) rfl dX11_feed_35 ?_
  refine lv_iload_n hx hb dX11_feed_38 rfl (lv_at hl 3 rfl) ?_
  refine z_cv hW hS hA (va_runV (As := [.int a3]) (rest := []) ⟨hx, hb, hml, hown, hts⟩ (ct_X9_put_8 l G ad I3 a3 hI3 _) (cwV 1 hts gX11_feed_X9_put rfl rfl rfl (by decide +kernel) ⟨Nat.le_of_ble_eq_true rfl, Nat.le_of_ble_eq_true rfl⟩) (z_preV hK hW rfl rfl) rfl rfl hl.1 rfl (lv_room (Nat.le_of_ble_eq_true rfl)) dX11_feed_39 ⟨Nat.le_of_ble_eq_true rfl, Nat.le_of_ble_eq_true rfl⟩) (fun u1 H locs hp hW hS => ?_)
  obtain ⟨I4, e9, hI4⟩ := hp
  rw [e9] at hW
  refine lv_aload_n hx hb dX11_feed_42 rfl (lv_at hl 0 rfl) ?_
  refine z_get (T := TX11) (N := 13) (ci := 11) (i := 0) (v := .ref (ad 12)) hx hb hts zi_X11_feed_X11 hown hK hW rfl rfl 3 (by decide) (hts (.fieldLink RX11 23 "PetrolBoard" "reader" "LPetrolBoard$Reader;") (List.mem_of_getElem? (i := 1) rfl)) (fun _ h => h) rfl dX11_feed_43 ?_
  refine lv_iload hx hb dX11_feed_46 (lv_at hl 4 rfl) ?_
  refine z_cv hW hS hA (va_runV (As := [.int a4]) (rest := []) ⟨hx, hb, hml, hown, hts⟩ (ct_X9_put_12 l G ad I4 a4 hI4 _) (cwV 1 hts gX11_feed_X9_put rfl rfl rfl (by decide +kernel) ⟨Nat.le_of_ble_eq_true rfl, Nat.le_of_ble_eq_true rfl⟩) (z_preV hK hW rfl rfl) rfl rfl hl.1 rfl (lv_room (Nat.le_of_ble_eq_true rfl)) dX11_feed_48 ⟨Nat.le_of_ble_eq_true rfl, Nat.le_of_ble_eq_true rfl⟩) (fun u1 H locs hp hW hS => ?_)
  obtain ⟨I5, e9, hI5⟩ := hp
  rw [e9] at hW
  refine lv_aload_n hx hb dX11_feed_51 rfl (lv_at hl 0 rfl) ?_
  refine z_get (T := TX11) (N := 13) (ci := 11) (i := 0) (v := .ref (ad 12)) hx hb hts zi_X11_feed_X11 hown hK hW rfl rfl 3 (by decide) (hts (.fieldLink RX11 23 "PetrolBoard" "reader" "LPetrolBoard$Reader;") (List.mem_of_getElem? (i := 1) rfl)) (fun _ h => h) rfl dX11_feed_52 ?_
  refine lv_iload hx hb dX11_feed_55 (lv_at hl 5 rfl) ?_
  refine z_cv hW hS hA (va_runV (As := [.int a5]) (rest := []) ⟨hx, hb, hml, hown, hts⟩ (ct_X9_put_16 l G ad I5 a5 hI5 _) (cwV 1 hts gX11_feed_X9_put rfl rfl rfl (by decide +kernel) ⟨Nat.le_of_ble_eq_true rfl, Nat.le_of_ble_eq_true rfl⟩) (z_preV hK hW rfl rfl) rfl rfl hl.1 rfl (lv_room (Nat.le_of_ble_eq_true rfl)) dX11_feed_57 ⟨Nat.le_of_ble_eq_true rfl, Nat.le_of_ble_eq_true rfl⟩) (fun u1 H locs hp hW hS => ?_)
  obtain ⟨I6, e9, hI6⟩ := hp
  rw [e9] at hW
  refine lv_aload_n hx hb dX11_feed_60 rfl (lv_at hl 0 rfl) ?_
  refine z_get (T := TX11) (N := 13) (ci := 11) (i := 0) (v := .ref (ad 12)) hx hb hts zi_X11_feed_X11 hown hK hW rfl rfl 3 (by decide) (hts (.fieldLink RX11 23 "PetrolBoard" "reader" "LPetrolBoard$Reader;") (List.mem_of_getElem? (i := 1) rfl)) (fun _ h => h) rfl dX11_feed_61 ?_
  refine z_get (T := TX9) (N := 14) (ci := 9) (i := 12) (v := .int 20) hx hb hts zi_X11_feed_X9 hown hK hW rfl rfl 1 (by decide) (hts (.fieldLink RX11 115 "PetrolBoard$Reader" "taped" "I") (List.mem_of_getElem? (i := 2) rfl)) (fun _ h => h) (congrArg Value.int hI6) dX11_feed_64 ?_
  exact z_iret hx hb hr hK hS (Nat.le_of_ble_eq_true rfl) (Nat.le_of_ble_eq_true rfl) hlocks dX11_feed_67 (shX, ad, I6, JX, PX ad) hW rfl
theorem zi_X4_shorten_X4 : ∀ w ∈ wsX40, w ∈ wsX4_shorten := fun w h => (List.mem_cons_of_mem _ (List.mem_append_right _ h))
set_option maxHeartbeats 4000000 in
set_option maxRecDepth 100000 in
theorem ct_X4_shorten (l : Launch) (G : z_G) (ad : Nat → Nat) (I : z_I) (h45 : ∀ k, I 45 k = 0) (h46 : ∀ k, I 46 k = 0) (h47 : ∀ k, I 47 k = 0) (h48 : ∀ k, I 48 k = 0) (h50 : ∀ k, I 50 k = 0) (h51 : ∀ k, I 51 k = 0) (h52 : ∀ k, I 52 k = 0) (h53 : ∀ k, I 53 k = 0) : z_M l yX4_shorten wsX4_shorten { frames := 1, cells := 0, slots := 0, locals := 12 } [.ref (ad 41)] G (shX, ad, I, JX, PX ad) (fun r u1 => u1 = (shX, ad, I, JX, PX ad) ∧ r = 0) 0 0 := by
  intro sz
  refine z_headQ (cc := cX4_shorten) (maxL := 5) (ret := (some .boolean)) (by decide) rfl (Nat.le_of_ble_eq_true rfl) ?_
  intro p e s m below meth c ls hIn hK hsz hW hl
  obtain ⟨hx, hb, hr, hml, hown, hts, hlocks, hname⟩ := hIn
  subst hsz
  have hown : s.vm.findClass RX4 = some m.cls := hown
  have hA : ∀ q : Nat, s.heap.size ≤ q → z_A (shX, ad, I, JX, PX ad) s.heap.size q := fun q h => Or.inr h
  generalize hAe : z_A (shX, ad, I, JX, PX ad) s.heap.size = A at *
  have hS : va_S A s.heap s.heap [] := va_S.rf
  have hl : lv_has ls 5 [(0, .ref (ad 41))] := hl
  refine lv_iconst (v := 0) hx hb dX4_shorten_0 (by decide) ?_
  refine lv_istore_n (lv' := [(1, .int 0), (0, .ref (ad 41))]) hx hb dX4_shorten_1 rfl hl (by decide) rfl (fun ls hl => ?_)
  refine lv_iconst (v := 0) hx hb dX4_shorten_2 (by decide) ?_
  refine lv_istore_n (lv' := [(2, .int 0), (1, .int 0), (0, .ref (ad 41))]) hx hb dX4_shorten_3 rfl hl (by decide) rfl (fun ls hl => ?_)
  refine lv_iload_n hx hb dX4_shorten_4 rfl (lv_at hl 0 rfl) ?_
  refine lv_iconst (v := 4) hx hb dX4_shorten_5 (by decide) ?_
  refine lv_icmp_ge (tgt := 161) hx hb dX4_shorten_6 (by decide) (fun c1 => absurd c1 (by decide)) (fun c1 => ?_)
  refine lv_iconst (v := 0) hx hb dX4_shorten_9 (by decide) ?_
  refine lv_istore_n (lv' := [(3, .int 0), (2, .int 0), (1, .int 0), (0, .ref (ad 41))]) hx hb dX4_shorten_10 rfl hl (by decide) rfl (fun ls hl => ?_)
  have lp2 : ∀ (f : Nat) (y3 : Int32) (H : Heap) (locs : List Loc) (ls : Array Slot), 0 ≤ y3 → y3 ≤ 10 → (10 : Int32).toInt < y3.toInt + (f : Int) → z_W G A (shX, ad, I, JX, PX ad) H → va_S A s.heap H locs → lv_has ls 5 [(3, .int y3), (2, .int 0), (1, .int 0), (0, .ref (ad 41))] → W p l e (headSpec wsX4_shorten { frames := 1, cells := 0, slots := 0, locals := 12 }).room s m ([.ref (ad 41)] : List Value).toArray below meth c H locs 0 0 (MQ below (va_Qi (fun (r : Int32) (u1 : z_U) => u1 = (shX, ad, I, JX, PX ad) ∧ r = 0) (z_B G A) A) ([.ref (ad 41)] : List Value).toArray s 0 0 A) (F0 m 11 ls []) := by
    intro f
    induction f with
    | zero => intro y3 H locs ls lp21 lp22 lp23; exact (z_zero lp22 lp23).elim
    | succ f lp2ih =>
      intro y3 H locs ls lp21 lp22 lp23 hW hS hl
      refine lv_iload_n hx hb dX4_shorten_11 rfl (lv_at hl 0 rfl) ?_
      refine lv_bipush (v := 10) hx hb dX4_shorten_12 (by decide) ?_
      refine lv_icmp_ge (tgt := 155) hx hb dX4_shorten_14 (by decide) (fun c4 => ?_) (fun c4 => ?_)
      · refine lv_iinc (v := 1) (lv' := [(2, .int 1), (3, .int y3), (1, .int 0), (0, .ref (ad 41))]) hx hb dX4_shorten_155 hl (k := 1) rfl (by decide) (by decide) rfl (fun ls hl => ?_)
        refine lv_goto (tgt := 4) hx hb dX4_shorten_158 (by decide) ?_
        refine lv_iload_n hx hb dX4_shorten_4 rfl (lv_at hl 0 rfl) ?_
        refine lv_iconst (v := 4) hx hb dX4_shorten_5 (by decide) ?_
        refine lv_icmp_ge (tgt := 161) hx hb dX4_shorten_6 (by decide) (fun c5 => absurd c5 (by decide)) (fun c5 => ?_)
        refine lv_iconst (v := 0) hx hb dX4_shorten_9 (by decide) ?_
        refine lv_istore_n (lv' := [(3, .int 0), (2, .int 1), (1, .int 0), (0, .ref (ad 41))]) hx hb dX4_shorten_10 rfl hl (by decide) rfl (fun ls hl => ?_)
        have lp6 : ∀ (f : Nat) (y7 : Int32) (H : Heap) (locs : List Loc) (ls : Array Slot), 0 ≤ y7 → y7 ≤ 10 → (10 : Int32).toInt < y7.toInt + (f : Int) → z_W G A (shX, ad, I, JX, PX ad) H → va_S A s.heap H locs → lv_has ls 5 [(3, .int y7), (2, .int 1), (1, .int 0), (0, .ref (ad 41))] → W p l e (headSpec wsX4_shorten { frames := 1, cells := 0, slots := 0, locals := 12 }).room s m ([.ref (ad 41)] : List Value).toArray below meth c H locs 0 0 (MQ below (va_Qi (fun (r : Int32) (u1 : z_U) => u1 = (shX, ad, I, JX, PX ad) ∧ r = 0) (z_B G A) A) ([.ref (ad 41)] : List Value).toArray s 0 0 A) (F0 m 11 ls []) := by
          intro f
          induction f with
          | zero => intro y7 H locs ls lp61 lp62 lp63; exact (z_zero lp62 lp63).elim
          | succ f lp6ih =>
            intro y7 H locs ls lp61 lp62 lp63 hW hS hl
            refine lv_iload_n hx hb dX4_shorten_11 rfl (lv_at hl 0 rfl) ?_
            refine lv_bipush (v := 10) hx hb dX4_shorten_12 (by decide) ?_
            refine lv_icmp_ge (tgt := 155) hx hb dX4_shorten_14 (by decide) (fun c8 => ?_) (fun c8 => ?_)
            · refine lv_iinc (v := 2) (lv' := [(2, .int 2), (3, .int y7), (1, .int 0), (0, .ref (ad 41))]) hx hb dX4_shorten_155 hl (k := 1) rfl (by decide) (by decide) rfl (fun ls hl => ?_)
              refine lv_goto (tgt := 4) hx hb dX4_shorten_158 (by decide) ?_
              refine lv_iload_n hx hb dX4_shorten_4 rfl (lv_at hl 0 rfl) ?_
              refine lv_iconst (v := 4) hx hb dX4_shorten_5 (by decide) ?_
              refine lv_icmp_ge (tgt := 161) hx hb dX4_shorten_6 (by decide) (fun c9 => absurd c9 (by decide)) (fun c9 => ?_)
              refine lv_iconst (v := 0) hx hb dX4_shorten_9 (by decide) ?_
              refine lv_istore_n (lv' := [(3, .int 0), (2, .int 2), (1, .int 0), (0, .ref (ad 41))]) hx hb dX4_shorten_10 rfl hl (by decide) rfl (fun ls hl => ?_)
              have lp10 : ∀ (f : Nat) (y11 : Int32) (H : Heap) (locs : List Loc) (ls : Array Slot), 0 ≤ y11 → y11 ≤ 10 → (10 : Int32).toInt < y11.toInt + (f : Int) → z_W G A (shX, ad, I, JX, PX ad) H → va_S A s.heap H locs → lv_has ls 5 [(3, .int y11), (2, .int 2), (1, .int 0), (0, .ref (ad 41))] → W p l e (headSpec wsX4_shorten { frames := 1, cells := 0, slots := 0, locals := 12 }).room s m ([.ref (ad 41)] : List Value).toArray below meth c H locs 0 0 (MQ below (va_Qi (fun (r : Int32) (u1 : z_U) => u1 = (shX, ad, I, JX, PX ad) ∧ r = 0) (z_B G A) A) ([.ref (ad 41)] : List Value).toArray s 0 0 A) (F0 m 11 ls []) := by
                intro f
                induction f with
                | zero => intro y11 H locs ls lp101 lp102 lp103; exact (z_zero lp102 lp103).elim
                | succ f lp10ih =>
                  intro y11 H locs ls lp101 lp102 lp103 hW hS hl
                  refine lv_iload_n hx hb dX4_shorten_11 rfl (lv_at hl 0 rfl) ?_
                  refine lv_bipush (v := 10) hx hb dX4_shorten_12 (by decide) ?_
                  refine lv_icmp_ge (tgt := 155) hx hb dX4_shorten_14 (by decide) (fun c12 => ?_) (fun c12 => ?_)
                  · refine lv_iinc (v := 3) (lv' := [(2, .int 3), (3, .int y11), (1, .int 0), (0, .ref (ad 41))]) hx hb dX4_shorten_155 hl (k := 1) rfl (by decide) (by decide) rfl (fun ls hl => ?_)
                    refine lv_goto (tgt := 4) hx hb dX4_shorten_158 (by decide) ?_
                    refine lv_iload_n hx hb dX4_shorten_4 rfl (lv_at hl 0 rfl) ?_
                    refine lv_iconst (v := 4) hx hb dX4_shorten_5 (by decide) ?_
                    refine lv_icmp_ge (tgt := 161) hx hb dX4_shorten_6 (by decide) (fun c13 => absurd c13 (by decide)) (fun c13 => ?_)
                    refine lv_iconst (v := 0) hx hb dX4_shorten_9 (by decide) ?_
                    refine lv_istore_n (lv' := [(3, .int 0), (2, .int 3), (1, .int 0), (0, .ref (ad 41))]) hx hb dX4_shorten_10 rfl hl (by decide) rfl (fun ls hl => ?_)
                    have lp14 : ∀ (f : Nat) (y15 : Int32) (H : Heap) (locs : List Loc) (ls : Array Slot), 0 ≤ y15 → y15 ≤ 10 → (10 : Int32).toInt < y15.toInt + (f : Int) → z_W G A (shX, ad, I, JX, PX ad) H → va_S A s.heap H locs → lv_has ls 5 [(3, .int y15), (2, .int 3), (1, .int 0), (0, .ref (ad 41))] → W p l e (headSpec wsX4_shorten { frames := 1, cells := 0, slots := 0, locals := 12 }).room s m ([.ref (ad 41)] : List Value).toArray below meth c H locs 0 0 (MQ below (va_Qi (fun (r : Int32) (u1 : z_U) => u1 = (shX, ad, I, JX, PX ad) ∧ r = 0) (z_B G A) A) ([.ref (ad 41)] : List Value).toArray s 0 0 A) (F0 m 11 ls []) := by
                      intro f
                      induction f with
                      | zero => intro y15 H locs ls lp141 lp142 lp143; exact (z_zero lp142 lp143).elim
                      | succ f lp14ih =>
                        intro y15 H locs ls lp141 lp142 lp143 hW hS hl
                        refine lv_iload_n hx hb dX4_shorten_11 rfl (lv_at hl 0 rfl) ?_
                        refine lv_bipush (v := 10) hx hb dX4_shorten_12 (by decide) ?_
                        refine lv_icmp_ge (tgt := 155) hx hb dX4_shorten_14 (by decide) (fun c16 => ?_) (fun c16 => ?_)
                        · refine lv_iinc (v := 4) (lv' := [(2, .int 4), (3, .int y15), (1, .int 0), (0, .ref (ad 41))]) hx hb dX4_shorten_155 hl (k := 1) rfl (by decide) (by decide) rfl (fun ls hl => ?_)
                          refine lv_goto (tgt := 4) hx hb dX4_shorten_158 (by decide) ?_
                          refine lv_iload_n hx hb dX4_shorten_4 rfl (lv_at hl 0 rfl) ?_
                          refine lv_iconst (v := 4) hx hb dX4_shorten_5 (by decide) ?_
                          refine lv_icmp_ge (tgt := 161) hx hb dX4_shorten_6 (by decide) (fun c17 => ?_) (fun c17 => absurd (by decide) c17)
                          refine lv_iload_n hx hb dX4_shorten_161 rfl (lv_at hl 2 rfl) ?_
                          exact z_zret hx hb hr (by decide) hK hS (Nat.le_of_ble_eq_true rfl) (Nat.le_of_ble_eq_true rfl) hlocks dX4_shorten_162 (shX, ad, I, JX, PX ad) hW ⟨rfl, rfl⟩
                        · refine lv_aload_n hx hb dX4_shorten_17 rfl (lv_at hl 3 rfl) ?_
                          refine z_get (T := TX4) (N := 13) (ci := 4) (i := 41) (v := .ref (ad 44)) hx hb hts zi_X4_shorten_X4 hown hK hW rfl rfl 2 (by decide) (hts (.fieldLink RX4 20 "PetrolBoard$Loads" "miles" "[[I") (List.mem_of_getElem? (i := 1) rfl)) (fun _ h => h) rfl dX4_shorten_18 ?_
                          refine lv_iload_n hx hb dX4_shorten_21 rfl (lv_at hl 1 rfl) ?_
                          refine z_aald (i := 44) (v := .ref (ad 48)) hx hb hK hW rfl (by simp [z_tys]) rfl (z_inl (by decide)) rfl dX4_shorten_22 ?_
                          refine lv_iload_n hx hb dX4_shorten_23 rfl (lv_at hl 0 rfl) ?_
                          refine z_iald (i := 48) hx hb hK hW rfl (vp_in_iff.mpr (by simp only [Int32.lt_iff_toInt_lt, Int32.le_iff_toInt_le, ← Int32.toInt_inj, z_l0, z_l10] at lp141 lp142 c16; constructor <;> omega)) dX4_shorten_24 ?_
                          refine z_topi (v := 0) (h48 _) ?_
                          refine lv_istore (lv' := [(4, .int 0), (3, .int y15), (2, .int 3), (1, .int 0), (0, .ref (ad 41))]) hx hb dX4_shorten_25 hl (by decide) rfl (fun ls hl => ?_)
                          refine lv_iload hx hb dX4_shorten_27 (lv_at hl 0 rfl) ?_
                          refine lv_if_le (tgt := 85) hx hb dX4_shorten_29 (by decide) (fun c18 => ?_) (fun c18 => absurd (by decide) c18)
                          refine lv_aload_n hx hb dX4_shorten_85 rfl (lv_at hl 4 rfl) ?_
                          refine z_get (T := TX4) (N := 13) (ci := 4) (i := 41) (v := .ref (ad 49)) hx hb hts zi_X4_shorten_X4 hown hK hW rfl rfl 3 (by decide) (hts (.fieldLink RX4 23 "PetrolBoard$Loads" "sent" "[[I") (List.mem_of_getElem? (i := 6) rfl)) (fun _ h => h) rfl dX4_shorten_86 ?_
                          refine lv_iload_n hx hb dX4_shorten_89 rfl (lv_at hl 2 rfl) ?_
                          refine z_aald (i := 49) (v := .ref (ad 53)) hx hb hK hW rfl (by simp [z_tys]) rfl (z_inl (by decide)) rfl dX4_shorten_90 ?_
                          refine lv_iload_n hx hb dX4_shorten_91 rfl (lv_at hl 1 rfl) ?_
                          refine z_iald (i := 53) hx hb hK hW rfl (vp_in_iff.mpr (by simp only [Int32.lt_iff_toInt_lt, Int32.le_iff_toInt_le, ← Int32.toInt_inj, z_l0, z_l10] at lp141 lp142 c16; constructor <;> omega)) dX4_shorten_92 ?_
                          refine z_topi (v := 0) (h53 _) ?_
                          refine lv_if_le (tgt := 149) hx hb dX4_shorten_93 (by decide) (fun c19 => ?_) (fun c19 => absurd (by decide) c19)
                          obtain ⟨x20, ex20⟩ : ∃ y : Int32, y = y15 + 1 := ⟨_, rfl⟩
                          refine lv_iinc (v := x20) (lv' := [(3, .int x20), (4, .int 0), (2, .int 3), (1, .int 0), (0, .ref (ad 41))]) hx hb dX4_shorten_149 hl (k := 1) rfl (by rw [ex20]; rfl) (by decide) rfl (fun ls hl => ?_)
                          refine lv_goto (tgt := 11) hx hb dX4_shorten_152 (by decide) ?_
                          obtain ⟨z21a, z21b, z21c⟩ := z_step ex20 lp141 c16 lp143
                          exact lp14ih x20 H locs ls z21a z21b z21c hW hS (lv_sub hl [0, 2, 3, 4] rfl)
                    exact lp14 11 0 _ _ _ (by decide) (by decide) (by decide) hW hS hl
                  · refine lv_aload_n hx hb dX4_shorten_17 rfl (lv_at hl 3 rfl) ?_
                    refine z_get (T := TX4) (N := 13) (ci := 4) (i := 41) (v := .ref (ad 44)) hx hb hts zi_X4_shorten_X4 hown hK hW rfl rfl 2 (by decide) (hts (.fieldLink RX4 20 "PetrolBoard$Loads" "miles" "[[I") (List.mem_of_getElem? (i := 1) rfl)) (fun _ h => h) rfl dX4_shorten_18 ?_
                    refine lv_iload_n hx hb dX4_shorten_21 rfl (lv_at hl 1 rfl) ?_
                    refine z_aald (i := 44) (v := .ref (ad 47)) hx hb hK hW rfl (by simp [z_tys]) rfl (z_inl (by decide)) rfl dX4_shorten_22 ?_
                    refine lv_iload_n hx hb dX4_shorten_23 rfl (lv_at hl 0 rfl) ?_
                    refine z_iald (i := 47) hx hb hK hW rfl (vp_in_iff.mpr (by simp only [Int32.lt_iff_toInt_lt, Int32.le_iff_toInt_le, ← Int32.toInt_inj, z_l0, z_l10] at lp101 lp102 c12; constructor <;> omega)) dX4_shorten_24 ?_
                    refine z_topi (v := 0) (h47 _) ?_
                    refine lv_istore (lv' := [(4, .int 0), (3, .int y11), (2, .int 2), (1, .int 0), (0, .ref (ad 41))]) hx hb dX4_shorten_25 hl (by decide) rfl (fun ls hl => ?_)
                    refine lv_iload hx hb dX4_shorten_27 (lv_at hl 0 rfl) ?_
                    refine lv_if_le (tgt := 85) hx hb dX4_shorten_29 (by decide) (fun c22 => ?_) (fun c22 => absurd (by decide) c22)
                    refine lv_aload_n hx hb dX4_shorten_85 rfl (lv_at hl 4 rfl) ?_
                    refine z_get (T := TX4) (N := 13) (ci := 4) (i := 41) (v := .ref (ad 49)) hx hb hts zi_X4_shorten_X4 hown hK hW rfl rfl 3 (by decide) (hts (.fieldLink RX4 23 "PetrolBoard$Loads" "sent" "[[I") (List.mem_of_getElem? (i := 6) rfl)) (fun _ h => h) rfl dX4_shorten_86 ?_
                    refine lv_iload_n hx hb dX4_shorten_89 rfl (lv_at hl 2 rfl) ?_
                    refine z_aald (i := 49) (v := .ref (ad 52)) hx hb hK hW rfl (by simp [z_tys]) rfl (z_inl (by decide)) rfl dX4_shorten_90 ?_
                    refine lv_iload_n hx hb dX4_shorten_91 rfl (lv_at hl 1 rfl) ?_
                    refine z_iald (i := 52) hx hb hK hW rfl (vp_in_iff.mpr (by simp only [Int32.lt_iff_toInt_lt, Int32.le_iff_toInt_le, ← Int32.toInt_inj, z_l0, z_l10] at lp101 lp102 c12; constructor <;> omega)) dX4_shorten_92 ?_
                    refine z_topi (v := 0) (h52 _) ?_
                    refine lv_if_le (tgt := 149) hx hb dX4_shorten_93 (by decide) (fun c23 => ?_) (fun c23 => absurd (by decide) c23)
                    obtain ⟨x24, ex24⟩ : ∃ y : Int32, y = y11 + 1 := ⟨_, rfl⟩
                    refine lv_iinc (v := x24) (lv' := [(3, .int x24), (4, .int 0), (2, .int 2), (1, .int 0), (0, .ref (ad 41))]) hx hb dX4_shorten_149 hl (k := 1) rfl (by rw [ex24]; rfl) (by decide) rfl (fun ls hl => ?_)
                    refine lv_goto (tgt := 11) hx hb dX4_shorten_152 (by decide) ?_
                    obtain ⟨z25a, z25b, z25c⟩ := z_step ex24 lp101 c12 lp103
                    exact lp10ih x24 H locs ls z25a z25b z25c hW hS (lv_sub hl [0, 2, 3, 4] rfl)
              exact lp10 11 0 _ _ _ (by decide) (by decide) (by decide) hW hS hl
            · refine lv_aload_n hx hb dX4_shorten_17 rfl (lv_at hl 3 rfl) ?_
              refine z_get (T := TX4) (N := 13) (ci := 4) (i := 41) (v := .ref (ad 44)) hx hb hts zi_X4_shorten_X4 hown hK hW rfl rfl 2 (by decide) (hts (.fieldLink RX4 20 "PetrolBoard$Loads" "miles" "[[I") (List.mem_of_getElem? (i := 1) rfl)) (fun _ h => h) rfl dX4_shorten_18 ?_
              refine lv_iload_n hx hb dX4_shorten_21 rfl (lv_at hl 1 rfl) ?_
              refine z_aald (i := 44) (v := .ref (ad 46)) hx hb hK hW rfl (by simp [z_tys]) rfl (z_inl (by decide)) rfl dX4_shorten_22 ?_
              refine lv_iload_n hx hb dX4_shorten_23 rfl (lv_at hl 0 rfl) ?_
              refine z_iald (i := 46) hx hb hK hW rfl (vp_in_iff.mpr (by simp only [Int32.lt_iff_toInt_lt, Int32.le_iff_toInt_le, ← Int32.toInt_inj, z_l0, z_l10] at lp61 lp62 c8; constructor <;> omega)) dX4_shorten_24 ?_
              refine z_topi (v := 0) (h46 _) ?_
              refine lv_istore (lv' := [(4, .int 0), (3, .int y7), (2, .int 1), (1, .int 0), (0, .ref (ad 41))]) hx hb dX4_shorten_25 hl (by decide) rfl (fun ls hl => ?_)
              refine lv_iload hx hb dX4_shorten_27 (lv_at hl 0 rfl) ?_
              refine lv_if_le (tgt := 85) hx hb dX4_shorten_29 (by decide) (fun c26 => ?_) (fun c26 => absurd (by decide) c26)
              refine lv_aload_n hx hb dX4_shorten_85 rfl (lv_at hl 4 rfl) ?_
              refine z_get (T := TX4) (N := 13) (ci := 4) (i := 41) (v := .ref (ad 49)) hx hb hts zi_X4_shorten_X4 hown hK hW rfl rfl 3 (by decide) (hts (.fieldLink RX4 23 "PetrolBoard$Loads" "sent" "[[I") (List.mem_of_getElem? (i := 6) rfl)) (fun _ h => h) rfl dX4_shorten_86 ?_
              refine lv_iload_n hx hb dX4_shorten_89 rfl (lv_at hl 2 rfl) ?_
              refine z_aald (i := 49) (v := .ref (ad 51)) hx hb hK hW rfl (by simp [z_tys]) rfl (z_inl (by decide)) rfl dX4_shorten_90 ?_
              refine lv_iload_n hx hb dX4_shorten_91 rfl (lv_at hl 1 rfl) ?_
              refine z_iald (i := 51) hx hb hK hW rfl (vp_in_iff.mpr (by simp only [Int32.lt_iff_toInt_lt, Int32.le_iff_toInt_le, ← Int32.toInt_inj, z_l0, z_l10] at lp61 lp62 c8; constructor <;> omega)) dX4_shorten_92 ?_
              refine z_topi (v := 0) (h51 _) ?_
              refine lv_if_le (tgt := 149) hx hb dX4_shorten_93 (by decide) (fun c27 => ?_) (fun c27 => absurd (by decide) c27)
              obtain ⟨x28, ex28⟩ : ∃ y : Int32, y = y7 + 1 := ⟨_, rfl⟩
              refine lv_iinc (v := x28) (lv' := [(3, .int x28), (4, .int 0), (2, .int 1), (1, .int 0), (0, .ref (ad 41))]) hx hb dX4_shorten_149 hl (k := 1) rfl (by rw [ex28]; rfl) (by decide) rfl (fun ls hl => ?_)
              refine lv_goto (tgt := 11) hx hb dX4_shorten_152 (by decide) ?_
              obtain ⟨z29a, z29b, z29c⟩ := z_step ex28 lp61 c8 lp63
              exact lp6ih x28 H locs ls z29a z29b z29c hW hS (lv_sub hl [0, 2, 3, 4] rfl)
        exact lp6 11 0 _ _ _ (by decide) (by decide) (by decide) hW hS hl
      · refine lv_aload_n hx hb dX4_shorten_17 rfl (lv_at hl 3 rfl) ?_
        refine z_get (T := TX4) (N := 13) (ci := 4) (i := 41) (v := .ref (ad 44)) hx hb hts zi_X4_shorten_X4 hown hK hW rfl rfl 2 (by decide) (hts (.fieldLink RX4 20 "PetrolBoard$Loads" "miles" "[[I") (List.mem_of_getElem? (i := 1) rfl)) (fun _ h => h) rfl dX4_shorten_18 ?_
        refine lv_iload_n hx hb dX4_shorten_21 rfl (lv_at hl 1 rfl) ?_
        refine z_aald (i := 44) (v := .ref (ad 45)) hx hb hK hW rfl (by simp [z_tys]) rfl (z_inl (by decide)) rfl dX4_shorten_22 ?_
        refine lv_iload_n hx hb dX4_shorten_23 rfl (lv_at hl 0 rfl) ?_
        refine z_iald (i := 45) hx hb hK hW rfl (vp_in_iff.mpr (by simp only [Int32.lt_iff_toInt_lt, Int32.le_iff_toInt_le, ← Int32.toInt_inj, z_l0, z_l10] at lp21 lp22 c4; constructor <;> omega)) dX4_shorten_24 ?_
        refine z_topi (v := 0) (h45 _) ?_
        refine lv_istore (lv' := [(4, .int 0), (3, .int y3), (2, .int 0), (1, .int 0), (0, .ref (ad 41))]) hx hb dX4_shorten_25 hl (by decide) rfl (fun ls hl => ?_)
        refine lv_iload hx hb dX4_shorten_27 (lv_at hl 0 rfl) ?_
        refine lv_if_le (tgt := 85) hx hb dX4_shorten_29 (by decide) (fun c30 => ?_) (fun c30 => absurd (by decide) c30)
        refine lv_aload_n hx hb dX4_shorten_85 rfl (lv_at hl 4 rfl) ?_
        refine z_get (T := TX4) (N := 13) (ci := 4) (i := 41) (v := .ref (ad 49)) hx hb hts zi_X4_shorten_X4 hown hK hW rfl rfl 3 (by decide) (hts (.fieldLink RX4 23 "PetrolBoard$Loads" "sent" "[[I") (List.mem_of_getElem? (i := 6) rfl)) (fun _ h => h) rfl dX4_shorten_86 ?_
        refine lv_iload_n hx hb dX4_shorten_89 rfl (lv_at hl 2 rfl) ?_
        refine z_aald (i := 49) (v := .ref (ad 50)) hx hb hK hW rfl (by simp [z_tys]) rfl (z_inl (by decide)) rfl dX4_shorten_90 ?_
        refine lv_iload_n hx hb dX4_shorten_91 rfl (lv_at hl 1 rfl) ?_
        refine z_iald (i := 50) hx hb hK hW rfl (vp_in_iff.mpr (by simp only [Int32.lt_iff_toInt_lt, Int32.le_iff_toInt_le, ← Int32.toInt_inj, z_l0, z_l10] at lp21 lp22 c4; constructor <;> omega)) dX4_shorten_92 ?_
        refine z_topi (v := 0) (h50 _) ?_
        refine lv_if_le (tgt := 149) hx hb dX4_shorten_93 (by decide) (fun c31 => ?_) (fun c31 => absurd (by decide) c31)
        obtain ⟨x32, ex32⟩ : ∃ y : Int32, y = y3 + 1 := ⟨_, rfl⟩
        refine lv_iinc (v := x32) (lv' := [(3, .int x32), (4, .int 0), (2, .int 0), (1, .int 0), (0, .ref (ad 41))]) hx hb dX4_shorten_149 hl (k := 1) rfl (by rw [ex32]; rfl) (by decide) rfl (fun ls hl => ?_)
        refine lv_goto (tgt := 11) hx hb dX4_shorten_152 (by decide) ?_
        obtain ⟨z33a, z33b, z33c⟩ := z_step ex32 lp21 c4 lp23
        exact lp2ih x32 H locs ls z33a z33b z33c hW hS (lv_sub hl [0, 2, 3, 4] rfl)
  exact lp2 11 0 _ _ _ (by decide) (by decide) (by decide) hW hS hl
theorem zi_X4_cheapestEnd_X4 : ∀ w ∈ wsX40, w ∈ wsX4_cheapestEnd := fun w h => (List.mem_cons_of_mem _ (List.mem_append_right _ h))
set_option maxHeartbeats 4000000 in
set_option maxRecDepth 100000 in
theorem ct_X4_cheapestEnd (l : Launch) (G : z_G) (ad : Nat → Nat) : z_M l yX4_cheapestEnd wsX4_cheapestEnd { frames := 2, cells := 0, slots := 0, locals := 36 } [.ref (ad 41)] G (shX, ad, IX, JX, PX ad) (fun r u1 => u1 = (shX, ad, (z_fi (z_fi (z_up (z_up (z_up (z_up (z_up (z_up (z_up (z_up IX 56 (0 : Int32).toNatClampNeg 1000000) 59 (0 : Int32).toNatClampNeg (-1)) 56 (1 : Int32).toNatClampNeg 1000000) 59 (1 : Int32).toNatClampNeg (-1)) 56 (2 : Int32).toNatClampNeg 1000000) 59 (2 : Int32).toNatClampNeg (-1)) 56 (3 : Int32).toNatClampNeg 1000000) 59 (3 : Int32).toNatClampNeg (-1)) 57 1000000) 58 (-1)), JX, PX ad) ∧ r = -1) 0 0 := by
  intro sz
  refine z_headQ (cc := cX4_cheapestEnd) (maxL := 5) (ret := (some .int)) (by decide) rfl (Nat.le_of_ble_eq_true rfl) ?_
  intro p e s m below meth c ls hIn hK hsz hW hl
  obtain ⟨hx, hb, hr, hml, hown, hts, hlocks, hname⟩ := hIn
  subst hsz
  have hown : s.vm.findClass RX4 = some m.cls := hown
  have hA : ∀ q : Nat, s.heap.size ≤ q → z_A (shX, ad, IX, JX, PX ad) s.heap.size q := fun q h => Or.inr h
  generalize hAe : z_A (shX, ad, IX, JX, PX ad) s.heap.size = A at *
  have hS : va_S A s.heap s.heap [] := va_S.rf
  have hl : lv_has ls 5 [(0, .ref (ad 41))] := hl
  refine lv_iconst (v := 0) hx hb dX4_cheapestEnd_0 (by decide) ?_
  refine lv_istore_n (lv' := [(1, .int 0), (0, .ref (ad 41))]) hx hb dX4_cheapestEnd_1 rfl hl (by decide) rfl (fun ls hl => ?_)
  refine lv_iload_n hx hb dX4_cheapestEnd_2 rfl (lv_at hl 0 rfl) ?_
  refine lv_iconst (v := 4) hx hb dX4_cheapestEnd_3 (by decide) ?_
  refine lv_icmp_ge (tgt := 41) hx hb dX4_cheapestEnd_4 (by decide) (fun c1 => absurd c1 (by decide)) (fun c1 => ?_)
  refine lv_aload_n hx hb dX4_cheapestEnd_7 rfl (lv_at hl 1 rfl) ?_
  refine z_get (T := TX4) (N := 13) (ci := 4) (i := 41) (v := .ref (ad 56)) hx hb hts zi_X4_cheapestEnd_X4 hown hK hW rfl rfl 6 (by decide) (hts (.fieldLink RX4 32 "PetrolBoard$Loads" "toPort" "[I") (List.mem_of_getElem? (i := 1) rfl)) (fun _ h => h) rfl dX4_cheapestEnd_8 ?_
  refine lv_iload_n hx hb dX4_cheapestEnd_11 rfl (lv_at hl 0 rfl) ?_
  refine lv_aload_n hx hb dX4_cheapestEnd_12 rfl (lv_at hl 1 rfl) ?_
  refine z_get (T := TX4) (N := 13) (ci := 4) (i := 41) (v := .ref (ad 54)) hx hb hts zi_X4_cheapestEnd_X4 hown hK hW rfl rfl 4 (by decide) (hts (.fieldLink RX4 26 "PetrolBoard$Loads" "left" "[I") (List.mem_of_getElem? (i := 2) rfl)) (fun _ h => h) rfl dX4_cheapestEnd_13 ?_
  refine lv_iload_n hx hb dX4_cheapestEnd_16 rfl (lv_at hl 0 rfl) ?_
  refine z_iald (i := 54) hx hb hK hW rfl (z_inl (by decide)) dX4_cheapestEnd_17 ?_
  refine z_topi (v := 0) (by decide) ?_
  refine lv_if_le (tgt := 25) hx hb dX4_cheapestEnd_18 (by decide) (fun c2 => ?_) (fun c2 => absurd (by decide) c2)
  refine lv_ldc (v := 1000000) hx hb hown (hts (.constant RX4 72 (1000000)) (List.mem_of_getElem? (i := 3) rfl)) dX4_cheapestEnd_25 ?_
  refine z_iast (i := 56) hx hb hK hW hS rfl (z_inl (by decide)) dX4_cheapestEnd_27 (fun H locs hz1 hW hS => ?_)
  refine lv_aload_n hx hb dX4_cheapestEnd_28 rfl (lv_at hl 1 rfl) ?_
  refine z_get (T := TX4) (N := 13) (ci := 4) (i := 41) (v := .ref (ad 59)) hx hb hts zi_X4_cheapestEnd_X4 hown hK hW rfl rfl 9 (by decide) (hts (.fieldLink RX4 41 "PetrolBoard$Loads" "byStation" "[I") (List.mem_of_getElem? (i := 4) rfl)) (fun _ h => h) rfl dX4_cheapestEnd_29 ?_
  refine lv_iload_n hx hb dX4_cheapestEnd_32 rfl (lv_at hl 0 rfl) ?_
  refine lv_iconst (v := (-1)) hx hb dX4_cheapestEnd_33 (by decide) ?_
  refine z_iast (i := 59) hx hb hK hW hS rfl (z_inl (by decide)) dX4_cheapestEnd_34 (fun H locs hz1 hW hS => ?_)
  refine lv_iinc (v := 1) (lv' := [(1, .int 1), (0, .ref (ad 41))]) hx hb dX4_cheapestEnd_35 hl (k := 0) rfl (by decide) (by decide) rfl (fun ls hl => ?_)
  refine lv_goto (tgt := 2) hx hb dX4_cheapestEnd_38 (by decide) ?_
  refine lv_iload_n hx hb dX4_cheapestEnd_2 rfl (lv_at hl 0 rfl) ?_
  refine lv_iconst (v := 4) hx hb dX4_cheapestEnd_3 (by decide) ?_
  refine lv_icmp_ge (tgt := 41) hx hb dX4_cheapestEnd_4 (by decide) (fun c3 => absurd c3 (by decide)) (fun c3 => ?_)
  refine lv_aload_n hx hb dX4_cheapestEnd_7 rfl (lv_at hl 1 rfl) ?_
  refine z_get (T := TX4) (N := 13) (ci := 4) (i := 41) (v := .ref (ad 56)) hx hb hts zi_X4_cheapestEnd_X4 hown hK hW rfl rfl 6 (by decide) (hts (.fieldLink RX4 32 "PetrolBoard$Loads" "toPort" "[I") (List.mem_of_getElem? (i := 1) rfl)) (fun _ h => h) rfl dX4_cheapestEnd_8 ?_
  refine lv_iload_n hx hb dX4_cheapestEnd_11 rfl (lv_at hl 0 rfl) ?_
  refine lv_aload_n hx hb dX4_cheapestEnd_12 rfl (lv_at hl 1 rfl) ?_
  refine z_get (T := TX4) (N := 13) (ci := 4) (i := 41) (v := .ref (ad 54)) hx hb hts zi_X4_cheapestEnd_X4 hown hK hW rfl rfl 4 (by decide) (hts (.fieldLink RX4 26 "PetrolBoard$Loads" "left" "[I") (List.mem_of_getElem? (i := 2) rfl)) (fun _ h => h) rfl dX4_cheapestEnd_13 ?_
  refine lv_iload_n hx hb dX4_cheapestEnd_16 rfl (lv_at hl 0 rfl) ?_
  refine z_iald (i := 54) hx hb hK hW rfl (z_inl (by decide)) dX4_cheapestEnd_17 ?_
  refine z_topi (v := 0) (by decide) ?_
  refine lv_if_le (tgt := 25) hx hb dX4_cheapestEnd_18 (by decide) (fun c4 => ?_) (fun c4 => absurd (by decide) c4)
  refine lv_ldc (v := 1000000) hx hb hown (hts (.constant RX4 72 (1000000)) (List.mem_of_getElem? (i := 3) rfl)) dX4_cheapestEnd_25 ?_
  refine z_iast (i := 56) hx hb hK hW hS rfl (z_inl (by decide)) dX4_cheapestEnd_27 (fun H locs hz1 hW hS => ?_)
  refine lv_aload_n hx hb dX4_cheapestEnd_28 rfl (lv_at hl 1 rfl) ?_
  refine z_get (T := TX4) (N := 13) (ci := 4) (i := 41) (v := .ref (ad 59)) hx hb hts zi_X4_cheapestEnd_X4 hown hK hW rfl rfl 9 (by decide) (hts (.fieldLink RX4 41 "PetrolBoard$Loads" "byStation" "[I") (List.mem_of_getElem? (i := 4) rfl)) (fun _ h => h) rfl dX4_cheapestEnd_29 ?_
  refine lv_iload_n hx hb dX4_cheapestEnd_32 rfl (lv_at hl 0 rfl) ?_
  refine lv_iconst (v := (-1)) hx hb dX4_cheapestEnd_33 (by decide) ?_
  refine z_iast (i := 59) hx hb hK hW hS rfl (z_inl (by decide)) dX4_cheapestEnd_34 (fun H locs hz1 hW hS => ?_)
  refine lv_iinc (v := 2) (lv' := [(1, .int 2), (0, .ref (ad 41))]) hx hb dX4_cheapestEnd_35 hl (k := 0) rfl (by decide) (by decide) rfl (fun ls hl => ?_)
  refine lv_goto (tgt := 2) hx hb dX4_cheapestEnd_38 (by decide) ?_
  refine lv_iload_n hx hb dX4_cheapestEnd_2 rfl (lv_at hl 0 rfl) ?_
  refine lv_iconst (v := 4) hx hb dX4_cheapestEnd_3 (by decide) ?_
  refine lv_icmp_ge (tgt := 41) hx hb dX4_cheapestEnd_4 (by decide) (fun c5 => absurd c5 (by decide)) (fun c5 => ?_)
  refine lv_aload_n hx hb dX4_cheapestEnd_7 rfl (lv_at hl 1 rfl) ?_
  refine z_get (T := TX4) (N := 13) (ci := 4) (i := 41) (v := .ref (ad 56)) hx hb hts zi_X4_cheapestEnd_X4 hown hK hW rfl rfl 6 (by decide) (hts (.fieldLink RX4 32 "PetrolBoard$Loads" "toPort" "[I") (List.mem_of_getElem? (i := 1) rfl)) (fun _ h => h) rfl dX4_cheapestEnd_8 ?_
  refine lv_iload_n hx hb dX4_cheapestEnd_11 rfl (lv_at hl 0 rfl) ?_
  refine lv_aload_n hx hb dX4_cheapestEnd_12 rfl (lv_at hl 1 rfl) ?_
  refine z_get (T := TX4) (N := 13) (ci := 4) (i := 41) (v := .ref (ad 54)) hx hb hts zi_X4_cheapestEnd_X4 hown hK hW rfl rfl 4 (by decide) (hts (.fieldLink RX4 26 "PetrolBoard$Loads" "left" "[I") (List.mem_of_getElem? (i := 2) rfl)) (fun _ h => h) rfl dX4_cheapestEnd_13 ?_
  refine lv_iload_n hx hb dX4_cheapestEnd_16 rfl (lv_at hl 0 rfl) ?_
  refine z_iald (i := 54) hx hb hK hW rfl (z_inl (by decide)) dX4_cheapestEnd_17 ?_
  refine z_topi (v := 0) (by decide) ?_
  refine lv_if_le (tgt := 25) hx hb dX4_cheapestEnd_18 (by decide) (fun c6 => ?_) (fun c6 => absurd (by decide) c6)
  refine lv_ldc (v := 1000000) hx hb hown (hts (.constant RX4 72 (1000000)) (List.mem_of_getElem? (i := 3) rfl)) dX4_cheapestEnd_25 ?_
  refine z_iast (i := 56) hx hb hK hW hS rfl (z_inl (by decide)) dX4_cheapestEnd_27 (fun H locs hz1 hW hS => ?_)
  refine lv_aload_n hx hb dX4_cheapestEnd_28 rfl (lv_at hl 1 rfl) ?_
  refine z_get (T := TX4) (N := 13) (ci := 4) (i := 41) (v := .ref (ad 59)) hx hb hts zi_X4_cheapestEnd_X4 hown hK hW rfl rfl 9 (by decide) (hts (.fieldLink RX4 41 "PetrolBoard$Loads" "byStation" "[I") (List.mem_of_getElem? (i := 4) rfl)) (fun _ h => h) rfl dX4_cheapestEnd_29 ?_
  refine lv_iload_n hx hb dX4_cheapestEnd_32 rfl (lv_at hl 0 rfl) ?_
  refine lv_iconst (v := (-1)) hx hb dX4_cheapestEnd_33 (by decide) ?_
  refine z_iast (i := 59) hx hb hK hW hS rfl (z_inl (by decide)) dX4_cheapestEnd_34 (fun H locs hz1 hW hS => ?_)
  refine lv_iinc (v := 3) (lv' := [(1, .int 3), (0, .ref (ad 41))]) hx hb dX4_cheapestEnd_35 hl (k := 0) rfl (by decide) (by decide) rfl (fun ls hl => ?_)
  refine lv_goto (tgt := 2) hx hb dX4_cheapestEnd_38 (by decide) ?_
  refine lv_iload_n hx hb dX4_cheapestEnd_2 rfl (lv_at hl 0 rfl) ?_
  refine lv_iconst (v := 4) hx hb dX4_cheapestEnd_3 (by decide) ?_
  refine lv_icmp_ge (tgt := 41) hx hb dX4_cheapestEnd_4 (by decide) (fun c7 => absurd c7 (by decide)) (fun c7 => ?_)
  refine lv_aload_n hx hb dX4_cheapestEnd_7 rfl (lv_at hl 1 rfl) ?_
  refine z_get (T := TX4) (N := 13) (ci := 4) (i := 41) (v := .ref (ad 56)) hx hb hts zi_X4_cheapestEnd_X4 hown hK hW rfl rfl 6 (by decide) (hts (.fieldLink RX4 32 "PetrolBoard$Loads" "toPort" "[I") (List.mem_of_getElem? (i := 1) rfl)) (fun _ h => h) rfl dX4_cheapestEnd_8 ?_
  refine lv_iload_n hx hb dX4_cheapestEnd_11 rfl (lv_at hl 0 rfl) ?_
  refine lv_aload_n hx hb dX4_cheapestEnd_12 rfl (lv_at hl 1 rfl) ?_
  refine z_get (T := TX4) (N := 13) (ci := 4) (i := 41) (v := .ref (ad 54)) hx hb hts zi_X4_cheapestEnd_X4 hown hK hW rfl rfl 4 (by decide) (hts (.fieldLink RX4 26 "PetrolBoard$Loads" "left" "[I") (List.mem_of_getElem? (i := 2) rfl)) (fun _ h => h) rfl dX4_cheapestEnd_13 ?_
  refine lv_iload_n hx hb dX4_cheapestEnd_16 rfl (lv_at hl 0 rfl) ?_
  refine z_iald (i := 54) hx hb hK hW rfl (z_inl (by decide)) dX4_cheapestEnd_17 ?_
  refine z_topi (v := 0) (by decide) ?_
  refine lv_if_le (tgt := 25) hx hb dX4_cheapestEnd_18 (by decide) (fun c8 => ?_) (fun c8 => absurd (by decide) c8)
  refine lv_ldc (v := 1000000) hx hb hown (hts (.constant RX4 72 (1000000)) (List.mem_of_getElem? (i := 3) rfl)) dX4_cheapestEnd_25 ?_
  refine z_iast (i := 56) hx hb hK hW hS rfl (z_inl (by decide)) dX4_cheapestEnd_27 (fun H locs hz1 hW hS => ?_)
  refine lv_aload_n hx hb dX4_cheapestEnd_28 rfl (lv_at hl 1 rfl) ?_
  refine z_get (T := TX4) (N := 13) (ci := 4) (i := 41) (v := .ref (ad 59)) hx hb hts zi_X4_cheapestEnd_X4 hown hK hW rfl rfl 9 (by decide) (hts (.fieldLink RX4 41 "PetrolBoard$Loads" "byStation" "[I") (List.mem_of_getElem? (i := 4) rfl)) (fun _ h => h) rfl dX4_cheapestEnd_29 ?_
  refine lv_iload_n hx hb dX4_cheapestEnd_32 rfl (lv_at hl 0 rfl) ?_
  refine lv_iconst (v := (-1)) hx hb dX4_cheapestEnd_33 (by decide) ?_
  refine z_iast (i := 59) hx hb hK hW hS rfl (z_inl (by decide)) dX4_cheapestEnd_34 (fun H locs hz1 hW hS => ?_)
  refine lv_iinc (v := 4) (lv' := [(1, .int 4), (0, .ref (ad 41))]) hx hb dX4_cheapestEnd_35 hl (k := 0) rfl (by decide) (by decide) rfl (fun ls hl => ?_)
  refine lv_goto (tgt := 2) hx hb dX4_cheapestEnd_38 (by decide) ?_
  refine lv_iload_n hx hb dX4_cheapestEnd_2 rfl (lv_at hl 0 rfl) ?_
  refine lv_iconst (v := 4) hx hb dX4_cheapestEnd_3 (by decide) ?_
  refine lv_icmp_ge (tgt := 41) hx hb dX4_cheapestEnd_4 (by decide) (fun c9 => ?_) (fun c9 => absurd (by decide) c9)
  refine lv_aload_n hx hb dX4_cheapestEnd_41 rfl (lv_at hl 1 rfl) ?_
  refine z_get (T := TX4) (N := 13) (ci := 4) (i := 41) (v := .ref (ad 57)) hx hb hts zi_X4_cheapestEnd_X4 hown hK hW rfl rfl 7 (by decide) (hts (.fieldLink RX4 35 "PetrolBoard$Loads" "toStation" "[I") (List.mem_of_getElem? (i := 5) rfl)) (fun _ h => h) rfl dX4_cheapestEnd_42 ?_
  refine lv_ldc (v := 1000000) hx hb hown (hts (.constant RX4 72 (1000000)) (List.mem_of_getElem? (i := 3) rfl)) dX4_cheapestEnd_45 ?_
  refine z_cc hW hS hA (va_runS (As := [.ref (ad 57), .int 1000000]) (rest := []) ⟨hx, hb, hml, hown, hts⟩ (ct_fill l G 57 10 1000000 rfl (by decide) _) (va_cwS 2 hts gX4_cheapestEnd_J7_fill_53178 rfl rfl rfl (by decide +kernel) ⟨Nat.le_of_ble_eq_true rfl, Nat.le_of_ble_eq_true rfl⟩) (z_preS hK hW) rfl rfl hl.1 rfl (lv_room (Nat.le_of_ble_eq_true rfl)) dX4_cheapestEnd_47 ⟨Nat.le_of_ble_eq_true rfl, Nat.le_of_ble_eq_true rfl⟩) (fun H locs hz1 hW hS => ?_)
  refine lv_aload_n hx hb dX4_cheapestEnd_50 rfl (lv_at hl 1 rfl) ?_
  refine z_get (T := TX4) (N := 13) (ci := 4) (i := 41) (v := .ref (ad 58)) hx hb hts zi_X4_cheapestEnd_X4 hown hK hW rfl rfl 8 (by decide) (hts (.fieldLink RX4 38 "PetrolBoard$Loads" "byPort" "[I") (List.mem_of_getElem? (i := 6) rfl)) (fun _ h => h) rfl dX4_cheapestEnd_51 ?_
  refine lv_iconst (v := (-1)) hx hb dX4_cheapestEnd_54 (by decide) ?_
  refine z_cc hW hS hA (va_runS (As := [.ref (ad 58), .int (-1)]) (rest := []) ⟨hx, hb, hml, hown, hts⟩ (ct_fill l G 58 10 (-1) rfl (by decide) _) (va_cwS 2 hts gX4_cheapestEnd_J7_fill_53178 rfl rfl rfl (by decide +kernel) ⟨Nat.le_of_ble_eq_true rfl, Nat.le_of_ble_eq_true rfl⟩) (z_preS hK hW) rfl rfl hl.1 rfl (lv_room (Nat.le_of_ble_eq_true rfl)) dX4_cheapestEnd_55 ⟨Nat.le_of_ble_eq_true rfl, Nat.le_of_ble_eq_true rfl⟩) (fun H locs hz1 hW hS => ?_)
  refine lv_iconst (v := 1) hx hb dX4_cheapestEnd_58 (by decide) ?_
  refine lv_istore_n (lv' := [(1, .int 1), (0, .ref (ad 41))]) hx hb dX4_cheapestEnd_59 rfl hl (by decide) rfl (fun ls hl => ?_)
  refine lv_iconst (v := 0) hx hb dX4_cheapestEnd_60 (by decide) ?_
  refine lv_istore_n (lv' := [(2, .int 0), (1, .int 1), (0, .ref (ad 41))]) hx hb dX4_cheapestEnd_61 rfl hl (by decide) rfl (fun ls hl => ?_)
  refine lv_iload_n hx hb dX4_cheapestEnd_62 rfl (lv_at hl 0 rfl) ?_
  refine lv_bipush (v := 14) hx hb dX4_cheapestEnd_63 (by decide) ?_
  refine lv_icmp_gt (tgt := 83) hx hb dX4_cheapestEnd_65 (by decide) (fun c10 => absurd c10 (by decide)) (fun c10 => ?_)
  refine lv_iload_n hx hb dX4_cheapestEnd_68 rfl (lv_at hl 1 rfl) ?_
  refine lv_if_eq (tgt := 83) hx hb dX4_cheapestEnd_69 (by decide) (fun c11 => absurd c11 (by decide)) (fun c11 => ?_)
  refine lv_aload_n hx hb dX4_cheapestEnd_72 rfl (lv_at hl 2 rfl) ?_
  refine z_ci hW hS hA (va_runV (As := []) (rest := []) ⟨hx, hb, hml, hown, hts⟩ (ct_X4_shorten l G ad (z_fi (z_fi (z_up (z_up (z_up (z_up (z_up (z_up (z_up (z_up IX 56 (0 : Int32).toNatClampNeg 1000000) 59 (0 : Int32).toNatClampNeg (-1)) 56 (1 : Int32).toNatClampNeg 1000000) 59 (1 : Int32).toNatClampNeg (-1)) 56 (2 : Int32).toNatClampNeg 1000000) 59 (2 : Int32).toNatClampNeg (-1)) 56 (3 : Int32).toNatClampNeg 1000000) 59 (3 : Int32).toNatClampNeg (-1)) 57 1000000) 58 (-1)) (fun _ => rfl) (fun _ => rfl) (fun _ => rfl) (fun _ => rfl) (fun _ => rfl) (fun _ => rfl) (fun _ => rfl) (fun _ => rfl) _) (cwV 0 hts gX4_cheapestEnd_X4_shorten rfl rfl rfl (by decide +kernel) ⟨Nat.le_of_ble_eq_true rfl, Nat.le_of_ble_eq_true rfl⟩) (z_preV hK hW rfl rfl) rfl rfl hl.1 rfl (lv_room (Nat.le_of_ble_eq_true rfl)) dX4_cheapestEnd_73 ⟨Nat.le_of_ble_eq_true rfl, Nat.le_of_ble_eq_true rfl⟩) (fun r u1 H locs hp hW hS => ?_)
  obtain ⟨e9, rfl⟩ := hp
  rw [e9] at hW
  refine lv_istore_n (lv' := [(1, .int 0), (2, .int 0), (0, .ref (ad 41))]) hx hb dX4_cheapestEnd_76 rfl hl (by decide) rfl (fun ls hl => ?_)
  refine lv_iinc (v := 1) (lv' := [(2, .int 1), (1, .int 0), (0, .ref (ad 41))]) hx hb dX4_cheapestEnd_77 hl (k := 1) rfl (by decide) (by decide) rfl (fun ls hl => ?_)
  refine lv_goto (tgt := 62) hx hb dX4_cheapestEnd_80 (by decide) ?_
  refine lv_iload_n hx hb dX4_cheapestEnd_62 rfl (lv_at hl 0 rfl) ?_
  refine lv_bipush (v := 14) hx hb dX4_cheapestEnd_63 (by decide) ?_
  refine lv_icmp_gt (tgt := 83) hx hb dX4_cheapestEnd_65 (by decide) (fun c12 => absurd c12 (by decide)) (fun c12 => ?_)
  refine lv_iload_n hx hb dX4_cheapestEnd_68 rfl (lv_at hl 1 rfl) ?_
  refine lv_if_eq (tgt := 83) hx hb dX4_cheapestEnd_69 (by decide) (fun c13 => ?_) (fun c13 => absurd (by decide) c13)
  refine lv_iconst (v := (-1)) hx hb dX4_cheapestEnd_83 (by decide) ?_
  refine lv_istore_n (lv' := [(2, .int (-1)), (1, .int 0), (0, .ref (ad 41))]) hx hb dX4_cheapestEnd_84 rfl hl (by decide) rfl (fun ls hl => ?_)
  refine lv_iconst (v := 0) hx hb dX4_cheapestEnd_85 (by decide) ?_
  refine lv_istore_n (lv' := [(3, .int 0), (2, .int (-1)), (1, .int 0), (0, .ref (ad 41))]) hx hb dX4_cheapestEnd_86 rfl hl (by decide) rfl (fun ls hl => ?_)
  have lp14 : ∀ (f : Nat) (y15 : Int32) (H : Heap) (locs : List Loc) (ls : Array Slot), 0 ≤ y15 → y15 ≤ 10 → (10 : Int32).toInt < y15.toInt + (f : Int) → z_W G A (shX, ad, (z_fi (z_fi (z_up (z_up (z_up (z_up (z_up (z_up (z_up (z_up IX 56 (0 : Int32).toNatClampNeg 1000000) 59 (0 : Int32).toNatClampNeg (-1)) 56 (1 : Int32).toNatClampNeg 1000000) 59 (1 : Int32).toNatClampNeg (-1)) 56 (2 : Int32).toNatClampNeg 1000000) 59 (2 : Int32).toNatClampNeg (-1)) 56 (3 : Int32).toNatClampNeg 1000000) 59 (3 : Int32).toNatClampNeg (-1)) 57 1000000) 58 (-1)), JX, PX ad) H → va_S A s.heap H locs → lv_has ls 5 [(3, .int y15), (2, .int (-1)), (1, .int 0), (0, .ref (ad 41))] → W p l e (headSpec wsX4_cheapestEnd { frames := 2, cells := 0, slots := 0, locals := 36 }).room s m ([.ref (ad 41)] : List Value).toArray below meth c H locs 0 0 (MQ below (va_Qi (fun (r : Int32) (u1 : z_U) => u1 = (shX, ad, (z_fi (z_fi (z_up (z_up (z_up (z_up (z_up (z_up (z_up (z_up IX 56 (0 : Int32).toNatClampNeg 1000000) 59 (0 : Int32).toNatClampNeg (-1)) 56 (1 : Int32).toNatClampNeg 1000000) 59 (1 : Int32).toNatClampNeg (-1)) 56 (2 : Int32).toNatClampNeg 1000000) 59 (2 : Int32).toNatClampNeg (-1)) 56 (3 : Int32).toNatClampNeg 1000000) 59 (3 : Int32).toNatClampNeg (-1)) 57 1000000) 58 (-1)), JX, PX ad) ∧ r = -1) (z_B G A) A) ([.ref (ad 41)] : List Value).toArray s 0 0 A) (F0 m 87 ls []) := by
    intro f
    induction f with
    | zero => intro y15 H locs ls lp141 lp142 lp143; exact (z_zero lp142 lp143).elim
    | succ f lp14ih =>
      intro y15 H locs ls lp141 lp142 lp143 hW hS hl
      refine lv_iload_n hx hb dX4_cheapestEnd_87 rfl (lv_at hl 0 rfl) ?_
      refine lv_bipush (v := 10) hx hb dX4_cheapestEnd_88 (by decide) ?_
      refine lv_icmp_ge (tgt := 153) hx hb dX4_cheapestEnd_90 (by decide) (fun c16 => ?_) (fun c16 => ?_)
      · refine lv_iload_n hx hb dX4_cheapestEnd_153 rfl (lv_at hl 1 rfl) ?_
        exact z_iret hx hb hr hK hS (Nat.le_of_ble_eq_true rfl) (Nat.le_of_ble_eq_true rfl) hlocks dX4_cheapestEnd_154 (shX, ad, (z_fi (z_fi (z_up (z_up (z_up (z_up (z_up (z_up (z_up (z_up IX 56 (0 : Int32).toNatClampNeg 1000000) 59 (0 : Int32).toNatClampNeg (-1)) 56 (1 : Int32).toNatClampNeg 1000000) 59 (1 : Int32).toNatClampNeg (-1)) 56 (2 : Int32).toNatClampNeg 1000000) 59 (2 : Int32).toNatClampNeg (-1)) 56 (3 : Int32).toNatClampNeg 1000000) 59 (3 : Int32).toNatClampNeg (-1)) 57 1000000) 58 (-1)), JX, PX ad) hW ⟨rfl, rfl⟩
      · refine lv_aload_n hx hb dX4_cheapestEnd_93 rfl (lv_at hl 3 rfl) ?_
        refine z_get (T := TX4) (N := 13) (ci := 4) (i := 41) (v := .ref (ad 55)) hx hb hts zi_X4_cheapestEnd_X4 hown hK hW rfl rfl 5 (by decide) (hts (.fieldLink RX4 29 "PetrolBoard$Loads" "lacking" "[I") (List.mem_of_getElem? (i := 7) rfl)) (fun _ h => h) rfl dX4_cheapestEnd_94 ?_
        refine lv_iload_n hx hb dX4_cheapestEnd_97 rfl (lv_at hl 0 rfl) ?_
        refine z_iald (i := 55) hx hb hK hW rfl (vp_in_iff.mpr (by simp only [Int32.lt_iff_toInt_lt, Int32.le_iff_toInt_le, ← Int32.toInt_inj, z_l0, z_l10] at lp141 lp142 c16; constructor <;> omega)) dX4_cheapestEnd_98 ?_
        refine z_topi (v := 0) rfl ?_
        refine lv_if_le (tgt := 117) hx hb dX4_cheapestEnd_99 (by decide) (fun c17 => ?_) (fun c17 => absurd (by decide) c17)
        refine lv_iconst (v := 0) hx hb dX4_cheapestEnd_117 (by decide) ?_
        refine lv_istore (lv' := [(4, .int 0), (3, .int y15), (2, .int (-1)), (1, .int 0), (0, .ref (ad 41))]) hx hb dX4_cheapestEnd_118 hl (by decide) rfl (fun ls hl => ?_)
        refine lv_iload hx hb dX4_cheapestEnd_120 (lv_at hl 0 rfl) ?_
        refine lv_if_eq (tgt := 147) hx hb dX4_cheapestEnd_122 (by decide) (fun c18 => ?_) (fun c18 => absurd (by decide) c18)
        obtain ⟨x19, ex19⟩ : ∃ y : Int32, y = y15 + 1 := ⟨_, rfl⟩
        refine lv_iinc (v := x19) (lv' := [(3, .int x19), (4, .int 0), (2, .int (-1)), (1, .int 0), (0, .ref (ad 41))]) hx hb dX4_cheapestEnd_147 hl (k := 1) rfl (by rw [ex19]; rfl) (by decide) rfl (fun ls hl => ?_)
        refine lv_goto (tgt := 87) hx hb dX4_cheapestEnd_150 (by decide) ?_
        obtain ⟨z20a, z20b, z20c⟩ := z_step ex19 lp141 c16 lp143
        exact lp14ih x19 H locs ls z20a z20b z20c hW hS (lv_sub hl [0, 2, 3, 4] rfl)
  exact lp14 11 0 _ _ _ (by decide) (by decide) (by decide) hW hS hl
theorem zi_X4_send_X4 : ∀ w ∈ wsX40, w ∈ wsX4_send := fun w h => (List.mem_cons_of_mem _ (List.mem_append_right _ h))
set_option maxHeartbeats 4000000 in
set_option maxRecDepth 100000 in
theorem ct_X4_send (l : Launch) (G : z_G) (ad : Nat → Nat) : z_Mv l yX4_send wsX4_send { frames := 3, cells := 0, slots := 0, locals := 60 } [.ref (ad 41), .int (-1)] G (shX, ad, IX, JX, PX ad) (fun u1 => u1 = (shX, ad, (z_fi (z_fi (z_up (z_up (z_up (z_up (z_up (z_up (z_up (z_up IX 56 (0 : Int32).toNatClampNeg 1000000) 59 (0 : Int32).toNatClampNeg (-1)) 56 (1 : Int32).toNatClampNeg 1000000) 59 (1 : Int32).toNatClampNeg (-1)) 56 (2 : Int32).toNatClampNeg 1000000) 59 (2 : Int32).toNatClampNeg (-1)) 56 (3 : Int32).toNatClampNeg 1000000) 59 (3 : Int32).toNatClampNeg (-1)) 57 1000000) 58 (-1)), JX, PX ad)) 0 0 := by
  intro sz
  refine z_headQ (cc := cX4_send) (maxL := 4) (ret := none) (by decide) rfl (Nat.le_of_ble_eq_true rfl) ?_
  intro p e s m below meth c ls hIn hK hsz hW hl
  obtain ⟨hx, hb, hr, hml, hown, hts, hlocks, hname⟩ := hIn
  subst hsz
  have hown : s.vm.findClass RX4 = some m.cls := hown
  have hA : ∀ q : Nat, s.heap.size ≤ q → z_A (shX, ad, IX, JX, PX ad) s.heap.size q := fun q h => Or.inr h
  generalize hAe : z_A (shX, ad, IX, JX, PX ad) s.heap.size = A at *
  have hS : va_S A s.heap s.heap [] := va_S.rf
  have hl : lv_has ls 4 [(0, .ref (ad 41)), (1, .int (-1))] := hl
  refine lv_aload_n hx hb dX4_send_0 rfl (lv_at hl 0 rfl) ?_
  refine lv_iconst (v := 0) hx hb dX4_send_1 (by decide) ?_
  refine z_put (T := TX4) (N := 13) (ci := 4) (i := 41) (v := .int 0) (I1 := (z_up IX 41 11 0)) (J1 := JX) (P1 := PX ad) hx hb hts zi_X4_send_X4 tyX4 tyX4_ok nmX4 hown hK hW hS rfl rfl 11 (by decide) (hts (.fieldLink RX4 52 "PetrolBoard$Loads" "sentLoads" "I") (List.mem_of_getElem? (i := 1) rfl)) (fun _ h => h) rfl rfl rfl (by first | rfl | exact congrArg _ z_up_s) (fun a b h ty => z_vI h ty) dX4_send_2 (fun H locs hz1 hW hS => ?_)
  rw [show (z_up IX 41 11 0) = IX from z_up_id rfl] at hW
  refine lv_aload_n hx hb dX4_send_5 rfl (lv_at hl 0 rfl) ?_
  refine lv_iconst (v := 0) hx hb dX4_send_6 (by decide) ?_
  refine z_put (T := TX4) (N := 13) (ci := 4) (i := 41) (v := .int 0) (I1 := (z_up IX 41 12 0)) (J1 := JX) (P1 := PX ad) hx hb hts zi_X4_send_X4 tyX4 tyX4_ok nmX4 hown hK hW hS rfl rfl 12 (by decide) (hts (.fieldLink RX4 55 "PetrolBoard$Loads" "sentMiles" "I") (List.mem_of_getElem? (i := 2) rfl)) (fun _ h => h) rfl rfl rfl (by first | rfl | exact congrArg _ z_up_s) (fun a b h ty => z_vI h ty) dX4_send_7 (fun H locs hz1 hW hS => ?_)
  rw [show (z_up IX 41 12 0) = IX from z_up_id rfl] at hW
  refine lv_iconst (v := 0) hx hb dX4_send_10 (by decide) ?_
  refine lv_istore_n (lv' := [(2, .int 0), (0, .ref (ad 41)), (1, .int (-1))]) hx hb dX4_send_11 rfl hl (by decide) rfl (fun ls hl => ?_)
  refine lv_iload_n hx hb dX4_send_12 rfl (lv_at hl 0 rfl) ?_
  refine lv_iconst (v := 4) hx hb dX4_send_13 (by decide) ?_
  refine lv_icmp_ge (tgt := 54) hx hb dX4_send_14 (by decide) (fun c1 => absurd c1 (by decide)) (fun c1 => ?_)
  refine lv_aload_n hx hb dX4_send_17 rfl (lv_at hl 1 rfl) ?_
  refine z_get (T := TX4) (N := 13) (ci := 4) (i := 41) (v := .ref (ad 54)) hx hb hts zi_X4_send_X4 hown hK hW rfl rfl 4 (by decide) (hts (.fieldLink RX4 26 "PetrolBoard$Loads" "left" "[I") (List.mem_of_getElem? (i := 3) rfl)) (fun _ h => h) rfl dX4_send_18 ?_
  refine lv_iload_n hx hb dX4_send_21 rfl (lv_at hl 0 rfl) ?_
  refine lv_iload_n hx hb dX4_send_22 rfl (lv_at hl 0 rfl) ?_
  refine lv_iload_n hx hb dX4_send_23 rfl (lv_at hl 2 rfl) ?_
  refine lv_icmp_ne (tgt := 31) hx hb dX4_send_24 (by decide) (fun c2 => ?_) (fun c2 => absurd c2 (by decide))
  refine lv_aload_n hx hb dX4_send_31 rfl (lv_at hl 1 rfl) ?_
  refine z_get (T := TX4) (N := 13) (ci := 4) (i := 41) (v := .ref (ad 42)) hx hb hts zi_X4_send_X4 hown hK hW rfl rfl 0 (by decide) (hts (.fieldLink RX4 9 "PetrolBoard$Loads" "inPort" "[I") (List.mem_of_getElem? (i := 4) rfl)) (fun _ h => h) rfl dX4_send_32 ?_
  refine lv_iload_n hx hb dX4_send_35 rfl (lv_at hl 0 rfl) ?_
  refine z_iald (i := 42) hx hb hK hW rfl (z_inl (by decide)) dX4_send_36 ?_
  refine z_topi (v := 0) (by decide) ?_
  refine z_iast (i := 54) hx hb hK hW hS rfl (z_inl (by decide)) dX4_send_37 (fun H locs hz1 hW hS => ?_)
  rw [show (z_up IX 54 (0 : Int32).toNatClampNeg 0) = IX from z_up_id rfl] at hW
  refine lv_aload_n hx hb dX4_send_38 rfl (lv_at hl 1 rfl) ?_
  refine z_get (T := TX4) (N := 13) (ci := 4) (i := 41) (v := .ref (ad 49)) hx hb hts zi_X4_send_X4 hown hK hW rfl rfl 3 (by decide) (hts (.fieldLink RX4 23 "PetrolBoard$Loads" "sent" "[[I") (List.mem_of_getElem? (i := 5) rfl)) (fun _ h => h) rfl dX4_send_39 ?_
  refine lv_iload_n hx hb dX4_send_42 rfl (lv_at hl 0 rfl) ?_
  refine z_aald (i := 49) (v := .ref (ad 50)) hx hb hK hW rfl (by simp [z_tys]) rfl (z_inl (by decide)) rfl dX4_send_43 ?_
  refine lv_iconst (v := 0) hx hb dX4_send_44 (by decide) ?_
  refine z_cc hW hS hA (va_runS (As := [.ref (ad 50), .int 0]) (rest := []) ⟨hx, hb, hml, hown, hts⟩ (ct_fill l G 50 10 0 rfl (by decide) _) (va_cwS 2 hts gX4_send_J7_fill_53178 rfl rfl rfl (by decide +kernel) ⟨Nat.le_of_ble_eq_true rfl, Nat.le_of_ble_eq_true rfl⟩) (z_preS hK hW) rfl rfl hl.1 rfl (lv_room (Nat.le_of_ble_eq_true rfl)) dX4_send_45 ⟨Nat.le_of_ble_eq_true rfl, Nat.le_of_ble_eq_true rfl⟩) (fun H locs hz1 hW hS => ?_)
  rw [show (z_fi IX 50 0) = IX from z_fi_id (fun _ => rfl)] at hW
  refine lv_iinc (v := 1) (lv' := [(2, .int 1), (0, .ref (ad 41)), (1, .int (-1))]) hx hb dX4_send_48 hl (k := 0) rfl (by decide) (by decide) rfl (fun ls hl => ?_)
  refine lv_goto (tgt := 12) hx hb dX4_send_51 (by decide) ?_
  refine lv_iload_n hx hb dX4_send_12 rfl (lv_at hl 0 rfl) ?_
  refine lv_iconst (v := 4) hx hb dX4_send_13 (by decide) ?_
  refine lv_icmp_ge (tgt := 54) hx hb dX4_send_14 (by decide) (fun c3 => absurd c3 (by decide)) (fun c3 => ?_)
  refine lv_aload_n hx hb dX4_send_17 rfl (lv_at hl 1 rfl) ?_
  refine z_get (T := TX4) (N := 13) (ci := 4) (i := 41) (v := .ref (ad 54)) hx hb hts zi_X4_send_X4 hown hK hW rfl rfl 4 (by decide) (hts (.fieldLink RX4 26 "PetrolBoard$Loads" "left" "[I") (List.mem_of_getElem? (i := 3) rfl)) (fun _ h => h) rfl dX4_send_18 ?_
  refine lv_iload_n hx hb dX4_send_21 rfl (lv_at hl 0 rfl) ?_
  refine lv_iload_n hx hb dX4_send_22 rfl (lv_at hl 0 rfl) ?_
  refine lv_iload_n hx hb dX4_send_23 rfl (lv_at hl 2 rfl) ?_
  refine lv_icmp_ne (tgt := 31) hx hb dX4_send_24 (by decide) (fun c4 => ?_) (fun c4 => absurd c4 (by decide))
  refine lv_aload_n hx hb dX4_send_31 rfl (lv_at hl 1 rfl) ?_
  refine z_get (T := TX4) (N := 13) (ci := 4) (i := 41) (v := .ref (ad 42)) hx hb hts zi_X4_send_X4 hown hK hW rfl rfl 0 (by decide) (hts (.fieldLink RX4 9 "PetrolBoard$Loads" "inPort" "[I") (List.mem_of_getElem? (i := 4) rfl)) (fun _ h => h) rfl dX4_send_32 ?_
  refine lv_iload_n hx hb dX4_send_35 rfl (lv_at hl 0 rfl) ?_
  refine z_iald (i := 42) hx hb hK hW rfl (z_inl (by decide)) dX4_send_36 ?_
  refine z_topi (v := 0) (by decide) ?_
  refine z_iast (i := 54) hx hb hK hW hS rfl (z_inl (by decide)) dX4_send_37 (fun H locs hz1 hW hS => ?_)
  rw [show (z_up IX 54 (1 : Int32).toNatClampNeg 0) = IX from z_up_id rfl] at hW
  refine lv_aload_n hx hb dX4_send_38 rfl (lv_at hl 1 rfl) ?_
  refine z_get (T := TX4) (N := 13) (ci := 4) (i := 41) (v := .ref (ad 49)) hx hb hts zi_X4_send_X4 hown hK hW rfl rfl 3 (by decide) (hts (.fieldLink RX4 23 "PetrolBoard$Loads" "sent" "[[I") (List.mem_of_getElem? (i := 5) rfl)) (fun _ h => h) rfl dX4_send_39 ?_
  refine lv_iload_n hx hb dX4_send_42 rfl (lv_at hl 0 rfl) ?_
  refine z_aald (i := 49) (v := .ref (ad 51)) hx hb hK hW rfl (by simp [z_tys]) rfl (z_inl (by decide)) rfl dX4_send_43 ?_
  refine lv_iconst (v := 0) hx hb dX4_send_44 (by decide) ?_
  refine z_cc hW hS hA (va_runS (As := [.ref (ad 51), .int 0]) (rest := []) ⟨hx, hb, hml, hown, hts⟩ (ct_fill l G 51 10 0 rfl (by decide) _) (va_cwS 2 hts gX4_send_J7_fill_53178 rfl rfl rfl (by decide +kernel) ⟨Nat.le_of_ble_eq_true rfl, Nat.le_of_ble_eq_true rfl⟩) (z_preS hK hW) rfl rfl hl.1 rfl (lv_room (Nat.le_of_ble_eq_true rfl)) dX4_send_45 ⟨Nat.le_of_ble_eq_true rfl, Nat.le_of_ble_eq_true rfl⟩) (fun H locs hz1 hW hS => ?_)
  rw [show (z_fi IX 51 0) = IX from z_fi_id (fun _ => rfl)] at hW
  refine lv_iinc (v := 2) (lv' := [(2, .int 2), (0, .ref (ad 41)), (1, .int (-1))]) hx hb dX4_send_48 hl (k := 0) rfl (by decide) (by decide) rfl (fun ls hl => ?_)
  refine lv_goto (tgt := 12) hx hb dX4_send_51 (by decide) ?_
  refine lv_iload_n hx hb dX4_send_12 rfl (lv_at hl 0 rfl) ?_
  refine lv_iconst (v := 4) hx hb dX4_send_13 (by decide) ?_
  refine lv_icmp_ge (tgt := 54) hx hb dX4_send_14 (by decide) (fun c5 => absurd c5 (by decide)) (fun c5 => ?_)
  refine lv_aload_n hx hb dX4_send_17 rfl (lv_at hl 1 rfl) ?_
  refine z_get (T := TX4) (N := 13) (ci := 4) (i := 41) (v := .ref (ad 54)) hx hb hts zi_X4_send_X4 hown hK hW rfl rfl 4 (by decide) (hts (.fieldLink RX4 26 "PetrolBoard$Loads" "left" "[I") (List.mem_of_getElem? (i := 3) rfl)) (fun _ h => h) rfl dX4_send_18 ?_
  refine lv_iload_n hx hb dX4_send_21 rfl (lv_at hl 0 rfl) ?_
  refine lv_iload_n hx hb dX4_send_22 rfl (lv_at hl 0 rfl) ?_
  refine lv_iload_n hx hb dX4_send_23 rfl (lv_at hl 2 rfl) ?_
  refine lv_icmp_ne (tgt := 31) hx hb dX4_send_24 (by decide) (fun c6 => ?_) (fun c6 => absurd c6 (by decide))
  refine lv_aload_n hx hb dX4_send_31 rfl (lv_at hl 1 rfl) ?_
  refine z_get (T := TX4) (N := 13) (ci := 4) (i := 41) (v := .ref (ad 42)) hx hb hts zi_X4_send_X4 hown hK hW rfl rfl 0 (by decide) (hts (.fieldLink RX4 9 "PetrolBoard$Loads" "inPort" "[I") (List.mem_of_getElem? (i := 4) rfl)) (fun _ h => h) rfl dX4_send_32 ?_
  refine lv_iload_n hx hb dX4_send_35 rfl (lv_at hl 0 rfl) ?_
  refine z_iald (i := 42) hx hb hK hW rfl (z_inl (by decide)) dX4_send_36 ?_
  refine z_topi (v := 0) (by decide) ?_
  refine z_iast (i := 54) hx hb hK hW hS rfl (z_inl (by decide)) dX4_send_37 (fun H locs hz1 hW hS => ?_)
  rw [show (z_up IX 54 (2 : Int32).toNatClampNeg 0) = IX from z_up_id rfl] at hW
  refine lv_aload_n hx hb dX4_send_38 rfl (lv_at hl 1 rfl) ?_
  refine z_get (T := TX4) (N := 13) (ci := 4) (i := 41) (v := .ref (ad 49)) hx hb hts zi_X4_send_X4 hown hK hW rfl rfl 3 (by decide) (hts (.fieldLink RX4 23 "PetrolBoard$Loads" "sent" "[[I") (List.mem_of_getElem? (i := 5) rfl)) (fun _ h => h) rfl dX4_send_39 ?_
  refine lv_iload_n hx hb dX4_send_42 rfl (lv_at hl 0 rfl) ?_
  refine z_aald (i := 49) (v := .ref (ad 52)) hx hb hK hW rfl (by simp [z_tys]) rfl (z_inl (by decide)) rfl dX4_send_43 ?_
  refine lv_iconst (v := 0) hx hb dX4_send_44 (by decide) ?_
  refine z_cc hW hS hA (va_runS (As := [.ref (ad 52), .int 0]) (rest := []) ⟨hx, hb, hml, hown, hts⟩ (ct_fill l G 52 10 0 rfl (by decide) _) (va_cwS 2 hts gX4_send_J7_fill_53178 rfl rfl rfl (by decide +kernel) ⟨Nat.le_of_ble_eq_true rfl, Nat.le_of_ble_eq_true rfl⟩) (z_preS hK hW) rfl rfl hl.1 rfl (lv_room (Nat.le_of_ble_eq_true rfl)) dX4_send_45 ⟨Nat.le_of_ble_eq_true rfl, Nat.le_of_ble_eq_true rfl⟩) (fun H locs hz1 hW hS => ?_)
  rw [show (z_fi IX 52 0) = IX from z_fi_id (fun _ => rfl)] at hW
  refine lv_iinc (v := 3) (lv' := [(2, .int 3), (0, .ref (ad 41)), (1, .int (-1))]) hx hb dX4_send_48 hl (k := 0) rfl (by decide) (by decide) rfl (fun ls hl => ?_)
  refine lv_goto (tgt := 12) hx hb dX4_send_51 (by decide) ?_
  refine lv_iload_n hx hb dX4_send_12 rfl (lv_at hl 0 rfl) ?_
  refine lv_iconst (v := 4) hx hb dX4_send_13 (by decide) ?_
  refine lv_icmp_ge (tgt := 54) hx hb dX4_send_14 (by decide) (fun c7 => absurd c7 (by decide)) (fun c7 => ?_)
  refine lv_aload_n hx hb dX4_send_17 rfl (lv_at hl 1 rfl) ?_
  refine z_get (T := TX4) (N := 13) (ci := 4) (i := 41) (v := .ref (ad 54)) hx hb hts zi_X4_send_X4 hown hK hW rfl rfl 4 (by decide) (hts (.fieldLink RX4 26 "PetrolBoard$Loads" "left" "[I") (List.mem_of_getElem? (i := 3) rfl)) (fun _ h => h) rfl dX4_send_18 ?_
  refine lv_iload_n hx hb dX4_send_21 rfl (lv_at hl 0 rfl) ?_
  refine lv_iload_n hx hb dX4_send_22 rfl (lv_at hl 0 rfl) ?_
  refine lv_iload_n hx hb dX4_send_23 rfl (lv_at hl 2 rfl) ?_
  refine lv_icmp_ne (tgt := 31) hx hb dX4_send_24 (by decide) (fun c8 => ?_) (fun c8 => absurd c8 (by decide))
  refine lv_aload_n hx hb dX4_send_31 rfl (lv_at hl 1 rfl) ?_
  refine z_get (T := TX4) (N := 13) (ci := 4) (i := 41) (v := .ref (ad 42)) hx hb hts zi_X4_send_X4 hown hK hW rfl rfl 0 (by decide) (hts (.fieldLink RX4 9 "PetrolBoard$Loads" "inPort" "[I") (List.mem_of_getElem? (i := 4) rfl)) (fun _ h => h) rfl dX4_send_32 ?_
  refine lv_iload_n hx hb dX4_send_35 rfl (lv_at hl 0 rfl) ?_
  refine z_iald (i := 42) hx hb hK hW rfl (z_inl (by decide)) dX4_send_36 ?_
  refine z_topi (v := 0) (by decide) ?_
  refine z_iast (i := 54) hx hb hK hW hS rfl (z_inl (by decide)) dX4_send_37 (fun H locs hz1 hW hS => ?_)
  rw [show (z_up IX 54 (3 : Int32).toNatClampNeg 0) = IX from z_up_id rfl] at hW
  refine lv_aload_n hx hb dX4_send_38 rfl (lv_at hl 1 rfl) ?_
  refine z_get (T := TX4) (N := 13) (ci := 4) (i := 41) (v := .ref (ad 49)) hx hb hts zi_X4_send_X4 hown hK hW rfl rfl 3 (by decide) (hts (.fieldLink RX4 23 "PetrolBoard$Loads" "sent" "[[I") (List.mem_of_getElem? (i := 5) rfl)) (fun _ h => h) rfl dX4_send_39 ?_
  refine lv_iload_n hx hb dX4_send_42 rfl (lv_at hl 0 rfl) ?_
  refine z_aald (i := 49) (v := .ref (ad 53)) hx hb hK hW rfl (by simp [z_tys]) rfl (z_inl (by decide)) rfl dX4_send_43 ?_
  refine lv_iconst (v := 0) hx hb dX4_send_44 (by decide) ?_
  refine z_cc hW hS hA (va_runS (As := [.ref (ad 53), .int 0]) (rest := []) ⟨hx, hb, hml, hown, hts⟩ (ct_fill l G 53 10 0 rfl (by decide) _) (va_cwS 2 hts gX4_send_J7_fill_53178 rfl rfl rfl (by decide +kernel) ⟨Nat.le_of_ble_eq_true rfl, Nat.le_of_ble_eq_true rfl⟩) (z_preS hK hW) rfl rfl hl.1 rfl (lv_room (Nat.le_of_ble_eq_true rfl)) dX4_send_45 ⟨Nat.le_of_ble_eq_true rfl, Nat.le_of_ble_eq_true rfl⟩) (fun H locs hz1 hW hS => ?_)
  rw [show (z_fi IX 53 0) = IX from z_fi_id (fun _ => rfl)] at hW
  refine lv_iinc (v := 4) (lv' := [(2, .int 4), (0, .ref (ad 41)), (1, .int (-1))]) hx hb dX4_send_48 hl (k := 0) rfl (by decide) (by decide) rfl (fun ls hl => ?_)
  refine lv_goto (tgt := 12) hx hb dX4_send_51 (by decide) ?_
  refine lv_iload_n hx hb dX4_send_12 rfl (lv_at hl 0 rfl) ?_
  refine lv_iconst (v := 4) hx hb dX4_send_13 (by decide) ?_
  refine lv_icmp_ge (tgt := 54) hx hb dX4_send_14 (by decide) (fun c9 => ?_) (fun c9 => absurd (by decide) c9)
  refine lv_iconst (v := 0) hx hb dX4_send_54 (by decide) ?_
  refine lv_istore_n (lv' := [(2, .int 0), (0, .ref (ad 41)), (1, .int (-1))]) hx hb dX4_send_55 rfl hl (by decide) rfl (fun ls hl => ?_)
  have lp10 : ∀ (f : Nat) (y11 : Int32) (H : Heap) (locs : List Loc) (ls : Array Slot), 0 ≤ y11 → y11 ≤ 10 → (10 : Int32).toInt < y11.toInt + (f : Int) → z_W G A (shX, ad, IX, JX, PX ad) H → va_S A s.heap H locs → lv_has ls 4 [(2, .int y11), (0, .ref (ad 41)), (1, .int (-1))] → W p l e (headSpec wsX4_send { frames := 3, cells := 0, slots := 0, locals := 60 }).room s m ([.ref (ad 41), .int (-1)] : List Value).toArray below meth c H locs 0 0 (MQ below (va_Qv (fun (u1 : z_U) => u1 = (shX, ad, (z_fi (z_fi (z_up (z_up (z_up (z_up (z_up (z_up (z_up (z_up IX 56 (0 : Int32).toNatClampNeg 1000000) 59 (0 : Int32).toNatClampNeg (-1)) 56 (1 : Int32).toNatClampNeg 1000000) 59 (1 : Int32).toNatClampNeg (-1)) 56 (2 : Int32).toNatClampNeg 1000000) 59 (2 : Int32).toNatClampNeg (-1)) 56 (3 : Int32).toNatClampNeg 1000000) 59 (3 : Int32).toNatClampNeg (-1)) 57 1000000) 58 (-1)), JX, PX ad)) (z_B G A) A) ([.ref (ad 41), .int (-1)] : List Value).toArray s 0 0 A) (F0 m 56 ls []) := by
    intro f
    induction f with
    | zero => intro y11 H locs ls lp101 lp102 lp103; exact (z_zero lp102 lp103).elim
    | succ f lp10ih =>
      intro y11 H locs ls lp101 lp102 lp103 hW hS hl
      refine lv_iload_n hx hb dX4_send_56 rfl (lv_at hl 0 rfl) ?_
      refine lv_bipush (v := 10) hx hb dX4_send_57 (by decide) ?_
      refine lv_icmp_ge (tgt := 80) hx hb dX4_send_59 (by decide) (fun c12 => ?_) (fun c12 => ?_)
      · refine lv_aload_n hx hb dX4_send_80 rfl (lv_at hl 1 rfl) ?_
        refine z_ci hW hS hA (va_runV (As := []) (rest := []) ⟨hx, hb, hml, hown, hts⟩ (ct_X4_cheapestEnd l G ad _) (cwV 0 hts gX4_send_X4_cheapestEnd rfl rfl rfl (by decide +kernel) ⟨Nat.le_of_ble_eq_true rfl, Nat.le_of_ble_eq_true rfl⟩) (z_preV hK hW rfl rfl) rfl rfl hl.1 rfl (lv_room (Nat.le_of_ble_eq_true rfl)) dX4_send_81 ⟨Nat.le_of_ble_eq_true rfl, Nat.le_of_ble_eq_true rfl⟩) (fun r u1 H locs hp hW hS => ?_)
        obtain ⟨e9, rfl⟩ := hp
        rw [e9] at hW
        refine lv_istore_n (lv' := [(2, .int (-1)), (0, .ref (ad 41)), (1, .int (-1))]) hx hb dX4_send_84 rfl hl (by decide) rfl (fun ls hl => ?_)
        refine lv_iconst (v := 0) hx hb dX4_send_85 (by decide) ?_
        refine lv_istore_n (lv' := [(3, .int 0), (2, .int (-1)), (0, .ref (ad 41)), (1, .int (-1))]) hx hb dX4_send_86 rfl hl (by decide) rfl (fun ls hl => ?_)
        refine lv_iload_n hx hb dX4_send_87 rfl (lv_at hl 0 rfl) ?_
        refine lv_sipush (v := 1000) hx hb dX4_send_88 (by decide) ?_
        refine lv_icmp_ge (tgt := 115) hx hb dX4_send_91 (by decide) (fun c13 => absurd c13 (by decide)) (fun c13 => ?_)
        refine lv_iload_n hx hb dX4_send_94 rfl (lv_at hl 1 rfl) ?_
        refine lv_iconst (v := (-1)) hx hb dX4_send_95 (by decide) ?_
        refine lv_icmp_eq (tgt := 115) hx hb dX4_send_96 (by decide) (fun c14 => ?_) (fun c14 => absurd (by decide) c14)
        exact z_vret hx hb hr hK hS (Nat.le_of_ble_eq_true rfl) (Nat.le_of_ble_eq_true rfl) hlocks dX4_send_115 (shX, ad, (z_fi (z_fi (z_up (z_up (z_up (z_up (z_up (z_up (z_up (z_up IX 56 (0 : Int32).toNatClampNeg 1000000) 59 (0 : Int32).toNatClampNeg (-1)) 56 (1 : Int32).toNatClampNeg 1000000) 59 (1 : Int32).toNatClampNeg (-1)) 56 (2 : Int32).toNatClampNeg 1000000) 59 (2 : Int32).toNatClampNeg (-1)) 56 (3 : Int32).toNatClampNeg 1000000) 59 (3 : Int32).toNatClampNeg (-1)) 57 1000000) 58 (-1)), JX, PX ad) hW rfl
      · refine lv_aload_n hx hb dX4_send_62 rfl (lv_at hl 1 rfl) ?_
        refine z_get (T := TX4) (N := 13) (ci := 4) (i := 41) (v := .ref (ad 55)) hx hb hts zi_X4_send_X4 hown hK hW rfl rfl 5 (by decide) (hts (.fieldLink RX4 29 "PetrolBoard$Loads" "lacking" "[I") (List.mem_of_getElem? (i := 6) rfl)) (fun _ h => h) rfl dX4_send_63 ?_
        refine lv_iload_n hx hb dX4_send_66 rfl (lv_at hl 0 rfl) ?_
        refine lv_aload_n hx hb dX4_send_67 rfl (lv_at hl 1 rfl) ?_
        refine z_get (T := TX4) (N := 13) (ci := 4) (i := 41) (v := .ref (ad 43)) hx hb hts zi_X4_send_X4 hown hK hW rfl rfl 1 (by decide) (hts (.fieldLink RX4 15 "PetrolBoard$Loads" "wanted" "[I") (List.mem_of_getElem? (i := 7) rfl)) (fun _ h => h) rfl dX4_send_68 ?_
        refine lv_iload_n hx hb dX4_send_71 rfl (lv_at hl 0 rfl) ?_
        refine z_iald (i := 43) hx hb hK hW rfl (vp_in_iff.mpr (by simp only [Int32.lt_iff_toInt_lt, Int32.le_iff_toInt_le, ← Int32.toInt_inj, z_l0, z_l10] at lp101 lp102 c12; constructor <;> omega)) dX4_send_72 ?_
        refine z_topi (v := 0) rfl ?_
        refine z_iast (i := 55) hx hb hK hW hS rfl (vp_in_iff.mpr (by simp only [Int32.lt_iff_toInt_lt, Int32.le_iff_toInt_le, ← Int32.toInt_inj, z_l0, z_l10] at lp101 lp102 c12; constructor <;> omega)) dX4_send_73 (fun H locs hz1 hW hS => ?_)
        rw [show (z_up IX 55 y11.toNatClampNeg 0) = IX from z_up_id rfl] at hW
        obtain ⟨x15, ex15⟩ : ∃ y : Int32, y = y11 + 1 := ⟨_, rfl⟩
        refine lv_iinc (v := x15) (lv' := [(2, .int x15), (0, .ref (ad 41)), (1, .int (-1))]) hx hb dX4_send_74 hl (k := 0) rfl (by rw [ex15]; rfl) (by decide) rfl (fun ls hl => ?_)
        refine lv_goto (tgt := 56) hx hb dX4_send_77 (by decide) ?_
        obtain ⟨z16a, z16b, z16c⟩ := z_step ex15 lp101 c12 lp103
        exact lp10ih x15 H locs ls z16a z16b z16c hW hS (lv_sub hl [0, 1, 2] rfl)
  exact lp10 11 0 _ _ _ (by decide) (by decide) (by decide) hW hS hl
theorem zi_X11_flow_X4 : ∀ w ∈ wsX40, w ∈ wsX11_flow := fun w h => (List.mem_cons_of_mem _ (List.mem_append_right _ h))
theorem zi_X11_flow_X11 : ∀ w ∈ wsX110, w ∈ wsX11_flow := fun w h => (List.mem_cons_of_mem _ (List.mem_append_left _ (List.mem_append_right _ h)))
set_option maxHeartbeats 4000000 in
set_option maxRecDepth 100000 in
theorem ct_X11_flow (l : Launch) (G : z_G) (ad : Nat → Nat) (a1 : Int32) (a2 : Int32) : z_M l yX11_flow wsX11_flow { frames := 4, cells := 0, slots := 0, locals := 83 } [.ref (ad 0), .int a1, .int a2] G (shX, ad, IX, JX, PX ad) (fun r u1 => r = fr_flow a1 a2) 0 0 := by
  intro sz
  refine z_headQ (cc := cX11_flow) (maxL := 3) (ret := (some .int)) (by decide) rfl (Nat.le_of_ble_eq_true rfl) ?_
  intro p e s m below meth c ls hIn hK hsz hW hl
  obtain ⟨hx, hb, hr, hml, hown, hts, hlocks, hname⟩ := hIn
  subst hsz
  have hown : s.vm.findClass RX11 = some m.cls := hown
  have hA : ∀ q : Nat, s.heap.size ≤ q → z_A (shX, ad, IX, JX, PX ad) s.heap.size q := fun q h => Or.inr h
  generalize hAe : z_A (shX, ad, IX, JX, PX ad) s.heap.size = A at *
  have hS : va_S A s.heap s.heap [] := va_S.rf
  have hl : lv_has ls 3 [(0, .ref (ad 0)), (1, .int a1), (2, .int a2)] := hl
  refine lv_iload_n hx hb dX11_flow_0 rfl (lv_at hl 2 rfl) ?_
  refine lv_iconst (v := 0) hx hb dX11_flow_1 (by decide) ?_
  refine lv_iconst (v := 1) hx hb dX11_flow_2 (by decide) ?_
  refine z_ci hW hS hA (va_runS (As := [.int a2, .int 0, .int 1]) (rest := []) ⟨hx, hb, hml, hown, hts⟩ (ct_X11_within l G (shX, ad, IX, JX, PX ad) a2 0 1 _) (va_cwS 3 hts gX11_flow_X11_within rfl rfl rfl (by decide +kernel) ⟨Nat.le_of_ble_eq_true rfl, Nat.le_of_ble_eq_true rfl⟩) (z_preS hK hW) rfl rfl hl.1 rfl (lv_room (Nat.le_of_ble_eq_true rfl)) dX11_flow_3 ⟨Nat.le_of_ble_eq_true rfl, Nat.le_of_ble_eq_true rfl⟩) (fun r u1 H locs hp hW hS => ?_)
  obtain ⟨e9, hp⟩ := hp
  rw [e9] at hW
  rcases hp with ⟨rfl, h1, h2⟩ | ⟨rfl, h3⟩
  · refine lv_if_eq (tgt := 25) hx hb dX11_flow_6 (by decide) (fun c4 => absurd c4 (by decide)) (fun c4 => ?_)
    refine lv_iload_n hx hb dX11_flow_9 rfl (lv_at hl 1 rfl) ?_
    refine lv_iconst (v := (-1)) hx hb dX11_flow_10 (by decide) ?_
    refine lv_icmp_eq (tgt := 27) hx hb dX11_flow_11 (by decide) (fun c5 => ?_) (fun c5 => ?_)
    · have e6 : a1 = (-1) := c5
      subst e6
      refine lv_aload_n hx hb dX11_flow_27 rfl (lv_at hl 0 rfl) ?_
      refine z_get (T := TX11) (N := 13) (ci := 11) (i := 0) (v := .ref (ad 41)) hx hb hts zi_X11_flow_X11 hown hK hW rfl rfl 10 (by decide) (hts (.fieldLink RX11 61 "PetrolBoard" "loads" "LPetrolBoard$Loads;") (List.mem_of_getElem? (i := 1) rfl)) (fun _ h => h) rfl dX11_flow_28 ?_
      refine lv_iload_n hx hb dX11_flow_31 rfl (lv_at hl 1 rfl) ?_
      refine z_cv hW hS hA (va_runV (As := [.int (-1)]) (rest := []) ⟨hx, hb, hml, hown, hts⟩ (ct_X4_send l G ad _) (cwV 1 hts gX11_flow_X4_send rfl rfl rfl (by decide +kernel) ⟨Nat.le_of_ble_eq_true rfl, Nat.le_of_ble_eq_true rfl⟩) (z_preV hK hW rfl rfl) rfl rfl hl.1 rfl (lv_room (Nat.le_of_ble_eq_true rfl)) dX11_flow_32 ⟨Nat.le_of_ble_eq_true rfl, Nat.le_of_ble_eq_true rfl⟩) (fun u1 H locs hp hW hS => ?_)
      rw [hp] at hW
      refine lv_iload_n hx hb dX11_flow_35 rfl (lv_at hl 2 rfl) ?_
      refine lv_if_ne (tgt := 49) hx hb dX11_flow_36 (by decide) (fun c6 => ?_) (fun c6 => ?_)
      · refine lv_aload_n hx hb dX11_flow_49 rfl (lv_at hl 0 rfl) ?_
        refine z_get (T := TX11) (N := 13) (ci := 11) (i := 0) (v := .ref (ad 41)) hx hb hts zi_X11_flow_X11 hown hK hW rfl rfl 10 (by decide) (hts (.fieldLink RX11 61 "PetrolBoard" "loads" "LPetrolBoard$Loads;") (List.mem_of_getElem? (i := 1) rfl)) (fun _ h => h) rfl dX11_flow_50 ?_
        refine z_get (T := TX4) (N := 13) (ci := 4) (i := 41) (v := .int 0) hx hb hts zi_X11_flow_X4 hown hK hW rfl rfl 12 (by decide) (hts (.fieldLink RX11 316 "PetrolBoard$Loads" "sentMiles" "I") (List.mem_of_getElem? (i := 3) rfl)) (fun _ h => h) rfl dX11_flow_53 ?_
        exact z_iret hx hb hr hK hS (Nat.le_of_ble_eq_true rfl) (Nat.le_of_ble_eq_true rfl) hlocks dX11_flow_56 (shX, ad, (z_fi (z_fi (z_up (z_up (z_up (z_up (z_up (z_up (z_up (z_up IX 56 (0 : Int32).toNatClampNeg 1000000) 59 (0 : Int32).toNatClampNeg (-1)) 56 (1 : Int32).toNatClampNeg 1000000) 59 (1 : Int32).toNatClampNeg (-1)) 56 (2 : Int32).toNatClampNeg 1000000) 59 (2 : Int32).toNatClampNeg (-1)) 56 (3 : Int32).toNatClampNeg 1000000) 59 (3 : Int32).toNatClampNeg (-1)) 57 1000000) 58 (-1)), JX, PX ad) hW (by unfold fr_flow; split <;> first | rfl | decide | (rename_i q; exfalso; simp only [Int32.lt_iff_toInt_lt, Int32.le_iff_toInt_le, ← Int32.toInt_inj, z_lm1, z_l0, z_l1, true_and, and_true] at q h1 h2 c6; omega))
      · refine lv_aload_n hx hb dX11_flow_39 rfl (lv_at hl 0 rfl) ?_
        refine z_get (T := TX11) (N := 13) (ci := 11) (i := 0) (v := .ref (ad 41)) hx hb hts zi_X11_flow_X11 hown hK hW rfl rfl 10 (by decide) (hts (.fieldLink RX11 61 "PetrolBoard" "loads" "LPetrolBoard$Loads;") (List.mem_of_getElem? (i := 1) rfl)) (fun _ h => h) rfl dX11_flow_40 ?_
        refine z_get (T := TX4) (N := 13) (ci := 4) (i := 41) (v := .int 0) hx hb hts zi_X11_flow_X4 hown hK hW rfl rfl 11 (by decide) (hts (.fieldLink RX11 313 "PetrolBoard$Loads" "sentLoads" "I") (List.mem_of_getElem? (i := 2) rfl)) (fun _ h => h) rfl dX11_flow_43 ?_
        refine lv_goto (tgt := 56) hx hb dX11_flow_46 (by decide) ?_
        exact z_iret hx hb hr hK hS (Nat.le_of_ble_eq_true rfl) (Nat.le_of_ble_eq_true rfl) hlocks dX11_flow_56 (shX, ad, (z_fi (z_fi (z_up (z_up (z_up (z_up (z_up (z_up (z_up (z_up IX 56 (0 : Int32).toNatClampNeg 1000000) 59 (0 : Int32).toNatClampNeg (-1)) 56 (1 : Int32).toNatClampNeg 1000000) 59 (1 : Int32).toNatClampNeg (-1)) 56 (2 : Int32).toNatClampNeg 1000000) 59 (2 : Int32).toNatClampNeg (-1)) 56 (3 : Int32).toNatClampNeg 1000000) 59 (3 : Int32).toNatClampNeg (-1)) 57 1000000) 58 (-1)), JX, PX ad) hW (by unfold fr_flow; split <;> first | rfl | decide | (rename_i q; exfalso; simp only [Int32.lt_iff_toInt_lt, Int32.le_iff_toInt_le, ← Int32.toInt_inj, z_lm1, z_l0, z_l1, true_and, and_true] at q h1 h2 c6; omega))
    · refine lv_aload_n hx hb dX11_flow_14 rfl (lv_at hl 0 rfl) ?_
      refine z_get (T := TX11) (N := 13) (ci := 11) (i := 0) (v := .ref (ad 41)) hx hb hts zi_X11_flow_X11 hown hK hW rfl rfl 10 (by decide) (hts (.fieldLink RX11 61 "PetrolBoard" "loads" "LPetrolBoard$Loads;") (List.mem_of_getElem? (i := 1) rfl)) (fun _ h => h) rfl dX11_flow_15 ?_
      refine lv_iload_n hx hb dX11_flow_18 rfl (lv_at hl 1 rfl) ?_
      refine z_ci hW hS hA (va_runV (As := [.int a1]) (rest := []) ⟨hx, hb, hml, hown, hts⟩ (ct_X4_hasPort l G ad a1 _) (cwV 1 hts gX11_flow_X4_hasPort rfl rfl rfl (by decide +kernel) ⟨Nat.le_of_ble_eq_true rfl, Nat.le_of_ble_eq_true rfl⟩) (z_preV hK hW rfl rfl) rfl rfl hl.1 rfl (lv_room (Nat.le_of_ble_eq_true rfl)) dX11_flow_19 ⟨Nat.le_of_ble_eq_true rfl, Nat.le_of_ble_eq_true rfl⟩) (fun r u1 H locs hp hW hS => ?_)
      obtain ⟨e9, rfl⟩ := hp
      rw [e9] at hW
      refine lv_if_ne (tgt := 27) hx hb dX11_flow_22 (by decide) (fun c7 => absurd (by decide) c7) (fun c7 => ?_)
      refine lv_iconst (v := (-1)) hx hb dX11_flow_25 (by decide) ?_
      exact z_iret hx hb hr hK hS (Nat.le_of_ble_eq_true rfl) (Nat.le_of_ble_eq_true rfl) hlocks dX11_flow_26 (shX, ad, IX, JX, PX ad) hW (by unfold fr_flow; split <;> first | rfl | decide | (rename_i q; exfalso; simp only [Int32.lt_iff_toInt_lt, Int32.le_iff_toInt_le, ← Int32.toInt_inj, z_lm1, z_l0, z_l1, true_and, and_true] at q h1 h2 c5; omega))
  · refine lv_if_eq (tgt := 25) hx hb dX11_flow_6 (by decide) (fun c8 => ?_) (fun c8 => absurd (by decide) c8)
    refine lv_iconst (v := (-1)) hx hb dX11_flow_25 (by decide) ?_
    exact z_iret hx hb hr hK hS (Nat.le_of_ble_eq_true rfl) (Nat.le_of_ble_eq_true rfl) hlocks dX11_flow_26 (shX, ad, IX, JX, PX ad) hW (by unfold fr_flow; split <;> first | rfl | decide | (rename_i q; exfalso; simp only [Int32.lt_iff_toInt_lt, Int32.le_iff_toInt_le, ← Int32.toInt_inj, z_lm1, z_l0, z_l1, true_and, and_true] at q h3; omega))
