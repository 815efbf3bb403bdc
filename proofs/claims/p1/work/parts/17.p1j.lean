theorem dX11_isWay_0 : decode cX11_isWay 0 = .ok (.iload_n 0, 1) := by decide +kernel
theorem dX11_isWay_1 : decode cX11_isWay 1 = .ok (.iconst 0, 1) := by decide +kernel
theorem dX11_isWay_2 : decode cX11_isWay 2 = .ok (.bipush 99, 2) := by decide +kernel
set_option maxRecDepth 20000 in
theorem ggX11_isWay_X11_within : GoodIn wsX11_isWay wsX11_within := goodIn_r _ [4] (by decide +kernel) (by decide +kernel)
set_option maxRecDepth 20000 in
theorem gX11_isWay_X11_within : GoodIn wsX11_isWay (va_wsS RX11 88 yX11_within wsX11_within) := goodIn_app (goodIn_of _ (by decide +kernel)) ggX11_isWay_X11_within
theorem dX11_isWay_4 : decode cX11_isWay 4 = .ok (.invokestatic 88, 3) := by decide +kernel
theorem dX11_isWay_7 : decode cX11_isWay 7 = .ok (.ifCond .eq 18, 3) := by decide +kernel
theorem dX11_isWay_10 : decode cX11_isWay 10 = .ok (.iload_n 0, 1) := by decide +kernel
theorem dX11_isWay_11 : decode cX11_isWay 11 = .ok (.bipush 10, 2) := by decide +kernel
theorem dX11_isWay_13 : decode cX11_isWay 13 = .ok (.idiv, 1) := by decide +kernel
theorem dX11_isWay_14 : decode cX11_isWay 14 = .ok (.iload_n 0, 1) := by decide +kernel
theorem dX11_isWay_15 : decode cX11_isWay 15 = .ok (.bipush 10, 2) := by decide +kernel
theorem dX11_isWay_17 : decode cX11_isWay 17 = .ok (.irem, 1) := by decide +kernel
theorem dX11_isWay_18 : decode cX11_isWay 18 = .ok (.if_icmp .eq 7, 3) := by decide +kernel
theorem dX11_isWay_25 : decode cX11_isWay 25 = .ok (.iconst 0, 1) := by decide +kernel
theorem dX11_isWay_26 : decode cX11_isWay 26 = .ok (.ireturn, 1) := by decide +kernel
theorem dX11_isWay_21 : decode cX11_isWay 21 = .ok (.iconst 1, 1) := by decide +kernel
theorem dX11_isWay_22 : decode cX11_isWay 22 = .ok (.goto 4, 3) := by decide +kernel
theorem dX3_gather_0 : decode cX3_gather 0 = .ok (.aload_n 0, 1) := by decide +kernel
theorem dX3_gather_1 : decode cX3_gather 1 = .ok (.iconst 0, 1) := by decide +kernel
theorem dX3_gather_2 : decode cX3_gather 2 = .ok (.putfield 76, 3) := by decide +kernel
theorem dX3_gather_5 : decode cX3_gather 5 = .ok (.aload_n 0, 1) := by decide +kernel
theorem dX3_gather_6 : decode cX3_gather 6 = .ok (.iconst 0, 1) := by decide +kernel
theorem dX3_gather_7 : decode cX3_gather 7 = .ok (.putfield 87, 3) := by decide +kernel
theorem dX3_gather_10 : decode cX3_gather 10 = .ok (.iconst 0, 1) := by decide +kernel
theorem dX3_gather_11 : decode cX3_gather 11 = .ok (.istore 4, 2) := by decide +kernel
theorem dX3_gather_13 : decode cX3_gather 13 = .ok (.iload 4, 2) := by decide +kernel
theorem dX3_gather_15 : decode cX3_gather 15 = .ok (.aload_n 0, 1) := by decide +kernel
theorem dX3_gather_16 : decode cX3_gather 16 = .ok (.getfield 45, 3) := by decide +kernel
theorem dX3_gather_19 : decode cX3_gather 19 = .ok (.if_icmp .ge 137, 3) := by decide +kernel
theorem dX3_gather_156 : decode cX3_gather 156 = .ok (.return_, 1) := by decide +kernel
theorem dX3_poolOf_0 : decode cX3_poolOf 0 = .ok (.aload_n 0, 1) := by decide +kernel
theorem dX3_poolOf_1 : decode cX3_poolOf 1 = .ok (.aload_n 1, 1) := by decide +kernel
theorem dX3_poolOf_2 : decode cX3_poolOf 2 = .ok (.iload_n 2, 1) := by decide +kernel
theorem dX3_poolOf_3 : decode cX3_poolOf 3 = .ok (.iload_n 3, 1) := by decide +kernel
set_option maxRecDepth 20000 in
theorem ggX3_poolOf_X3_gather : GoodIn wsX3_poolOf wsX3_gather := goodIn_r _ [11, 2, 12, 13, 14, 15, 16, 17, 18, 19, 20, 21, 22, 23, 24, 25, 26, 27, 28, 42, 43, 44, 45, 46, 47, 48, 49, 50, 51, 52, 53, 54, 55, 56, 57, 58, 59, 60, 61, 62, 63, 64, 65, 66, 67, 68, 69, 70] (by decide +kernel) (by decide +kernel)
set_option maxRecDepth 20000 in
theorem gX3_poolOf_X3_gather : GoodIn wsX3_poolOf (wsV RX3 69 RX3 yX3_gather wsX3_gather) := goodIn_app (goodIn_of _ (by decide +kernel)) ggX3_poolOf_X3_gather
theorem dX3_poolOf_4 : decode cX3_poolOf 4 = .ok (.invokevirtual 69, 3) := by decide +kernel
theorem dX3_poolOf_7 : decode cX3_poolOf 7 = .ok (.aload_n 0, 1) := by decide +kernel
theorem dX3_poolOf_8 : decode cX3_poolOf 8 = .ok (.iconst 0, 1) := by decide +kernel
theorem dX3_poolOf_9 : decode cX3_poolOf 9 = .ok (.putfield 73, 3) := by decide +kernel
theorem dX3_poolOf_12 : decode cX3_poolOf 12 = .ok (.iconst 1, 1) := by decide +kernel
theorem dX3_poolOf_13 : decode cX3_poolOf 13 = .ok (.aload_n 0, 1) := by decide +kernel
theorem dX3_poolOf_14 : decode cX3_poolOf 14 = .ok (.getfield 76, 3) := by decide +kernel
theorem dX3_poolOf_17 : decode cX3_poolOf 17 = .ok (.bipush 12, 2) := by decide +kernel
theorem dX3_poolOf_19 : decode cX3_poolOf 19 = .ok (.invokestatic 79, 3) := by decide +kernel
theorem dX3_poolOf_22 : decode cX3_poolOf 22 = .ok (.ishl, 1) := by decide +kernel
theorem dX3_poolOf_23 : decode cX3_poolOf 23 = .ok (.istore 4, 2) := by decide +kernel
theorem dX3_poolOf_25 : decode cX3_poolOf 25 = .ok (.iconst 1, 1) := by decide +kernel
theorem dX3_poolOf_26 : decode cX3_poolOf 26 = .ok (.istore 5, 2) := by decide +kernel
theorem dX3_poolOf_28 : decode cX3_poolOf 28 = .ok (.iload 5, 2) := by decide +kernel
theorem dX3_poolOf_30 : decode cX3_poolOf 30 = .ok (.iload 4, 2) := by decide +kernel
theorem dX3_poolOf_32 : decode cX3_poolOf 32 = .ok (.if_icmp .ge 15, 3) := by decide +kernel
theorem dX3_poolOf_47 : decode cX3_poolOf 47 = .ok (.aload_n 0, 1) := by decide +kernel
theorem dX3_poolOf_48 : decode cX3_poolOf 48 = .ok (.getfield 73, 3) := by decide +kernel
theorem dX3_poolOf_51 : decode cX3_poolOf 51 = .ok (.ifCond .eq 7, 3) := by decide +kernel
theorem dX3_poolOf_58 : decode cX3_poolOf 58 = .ok (.iconst 0, 1) := by decide +kernel
theorem dX3_poolOf_59 : decode cX3_poolOf 59 = .ok (.ireturn, 1) := by decide +kernel
theorem dX11_pool_0 : decode cX11_pool 0 = .ok (.iload_n 1, 1) := by decide +kernel
set_option maxRecDepth 20000 in
theorem ggX11_pool_X11_isDay : GoodIn wsX11_pool wsX11_isDay := goodIn_r _ [10, 11, 12, 9, 13] (by decide +kernel) (by decide +kernel)
set_option maxRecDepth 20000 in
theorem gX11_pool_X11_isDay : GoodIn wsX11_pool (va_wsS RX11 100 yX11_isDay wsX11_isDay) := goodIn_app (goodIn_of _ (by decide +kernel)) ggX11_pool_X11_isDay
theorem dX11_pool_1 : decode cX11_pool 1 = .ok (.invokestatic 100, 3) := by decide +kernel
theorem dX11_pool_4 : decode cX11_pool 4 = .ok (.ifCond .eq 19, 3) := by decide +kernel
theorem dX11_pool_7 : decode cX11_pool 7 = .ok (.iload_n 2, 1) := by decide +kernel
set_option maxRecDepth 20000 in
theorem ggX11_pool_X11_isWay : GoodIn wsX11_pool wsX11_isWay := goodIn_r _ [16, 11, 12, 9, 13] (by decide +kernel) (by decide +kernel)
set_option maxRecDepth 20000 in
theorem gX11_pool_X11_isWay : GoodIn wsX11_pool (va_wsS RX11 322 yX11_isWay wsX11_isWay) := goodIn_app (goodIn_of _ (by decide +kernel)) ggX11_pool_X11_isWay
theorem dX11_pool_8 : decode cX11_pool 8 = .ok (.invokestatic 322, 3) := by decide +kernel
theorem dX11_pool_11 : decode cX11_pool 11 = .ok (.ifCond .eq 12, 3) := by decide +kernel
theorem dX11_pool_14 : decode cX11_pool 14 = .ok (.iload_n 3, 1) := by decide +kernel
theorem dX11_pool_15 : decode cX11_pool 15 = .ok (.iconst 0, 1) := by decide +kernel
theorem dX11_pool_16 : decode cX11_pool 16 = .ok (.iconst 3, 1) := by decide +kernel
set_option maxRecDepth 20000 in
theorem ggX11_pool_X11_within : GoodIn wsX11_pool wsX11_within := goodIn_r _ [13] (by decide +kernel) (by decide +kernel)
set_option maxRecDepth 20000 in
theorem gX11_pool_X11_within : GoodIn wsX11_pool (va_wsS RX11 88 yX11_within wsX11_within) := goodIn_app (goodIn_of _ (by decide +kernel)) ggX11_pool_X11_within
theorem dX11_pool_17 : decode cX11_pool 17 = .ok (.invokestatic 88, 3) := by decide +kernel
theorem dX11_pool_20 : decode cX11_pool 20 = .ok (.ifCond .ne 5, 3) := by decide +kernel
theorem dX11_pool_25 : decode cX11_pool 25 = .ok (.aload_n 0, 1) := by decide +kernel
theorem dX11_pool_26 : decode cX11_pool 26 = .ok (.getfield 68, 3) := by decide +kernel
theorem dX11_pool_29 : decode cX11_pool 29 = .ok (.aload_n 0, 1) := by decide +kernel
theorem dX11_pool_30 : decode cX11_pool 30 = .ok (.getfield 16, 3) := by decide +kernel
theorem dX11_pool_33 : decode cX11_pool 33 = .ok (.iload_n 1, 1) := by decide +kernel
theorem dX11_pool_34 : decode cX11_pool 34 = .ok (.iload_n 2, 1) := by decide +kernel
set_option maxRecDepth 20000 in
theorem ggX11_pool_X3_poolOf : GoodIn wsX11_pool wsX3_poolOf := goodIn_r _ [21, 22, 23, 24, 25, 26, 27, 28, 29, 30, 20, 31, 32, 33, 34, 35, 36, 37, 38, 39, 40, 41, 42, 43, 44, 45, 46, 47, 48, 49, 50, 51, 52, 53, 54, 55, 56, 57, 58, 59, 60, 61, 75, 76, 77, 78, 79, 80, 81, 82, 83, 84, 85, 86, 87, 88, 89, 90, 91, 92, 93, 94, 95, 96, 97, 98, 99, 100, 101, 102, 103] (by decide +kernel) (by decide +kernel)
set_option maxRecDepth 20000 in
theorem gX11_pool_X3_poolOf : GoodIn wsX11_pool (wsV RX11 349 RX3 yX3_poolOf wsX3_poolOf) := goodIn_app (goodIn_of _ (by decide +kernel)) ggX11_pool_X3_poolOf
theorem dX11_pool_35 : decode cX11_pool 35 = .ok (.invokevirtual 349, 3) := by decide +kernel
theorem dX11_pool_38 : decode cX11_pool 38 = .ok (.ifCond .ne 5, 3) := by decide +kernel
theorem dX11_pool_41 : decode cX11_pool 41 = .ok (.iconst (-1), 1) := by decide +kernel
theorem dX11_pool_42 : decode cX11_pool 42 = .ok (.ireturn, 1) := by decide +kernel
theorem dX11_pool_23 : decode cX11_pool 23 = .ok (.iconst (-1), 1) := by decide +kernel
theorem dX11_pool_24 : decode cX11_pool 24 = .ok (.ireturn, 1) := by decide +kernel
theorem dX1_clear_0 : decode cX1_clear 0 = .ok (.aload_n 0, 1) := by decide +kernel
theorem dX1_clear_1 : decode cX1_clear 1 = .ok (.iconst 0, 1) := by decide +kernel
theorem dX1_clear_2 : decode cX1_clear 2 = .ok (.putfield 18, 3) := by decide +kernel
theorem dX1_clear_5 : decode cX1_clear 5 = .ok (.return_, 1) := by decide +kernel
theorem dX1_together_0 : decode cX1_together 0 = .ok (.iconst 0, 1) := by decide +kernel
theorem dX1_together_1 : decode cX1_together 1 = .ok (.istore_n 1, 1) := by decide +kernel
theorem dX1_together_2 : decode cX1_together 2 = .ok (.iconst 0, 1) := by decide +kernel
theorem dX1_together_3 : decode cX1_together 3 = .ok (.istore_n 2, 1) := by decide +kernel
theorem dX1_together_4 : decode cX1_together 4 = .ok (.iload_n 2, 1) := by decide +kernel
theorem dX1_together_5 : decode cX1_together 5 = .ok (.aload_n 0, 1) := by decide +kernel
theorem dX1_together_6 : decode cX1_together 6 = .ok (.getfield 18, 3) := by decide +kernel
theorem dX1_together_9 : decode cX1_together 9 = .ok (.if_icmp .ge 27, 3) := by decide +kernel
theorem dX1_together_36 : decode cX1_together 36 = .ok (.iload_n 1, 1) := by decide +kernel
theorem dX1_together_37 : decode cX1_together 37 = .ok (.ireturn, 1) := by decide +kernel
theorem dX1_alike_0 : decode cX1_alike 0 = .ok (.aload_n 0, 1) := by decide +kernel
theorem dX1_alike_1 : decode cX1_alike 1 = .ok (.getfield 18, 3) := by decide +kernel
theorem dX1_alike_4 : decode cX1_alike 4 = .ok (.ifCond .le 15, 3) := by decide +kernel
theorem dX1_alike_19 : decode cX1_alike 19 = .ok (.iconst 0, 1) := by decide +kernel
theorem dX1_alike_20 : decode cX1_alike 20 = .ok (.istore_n 1, 1) := by decide +kernel
theorem dX1_alike_21 : decode cX1_alike 21 = .ok (.iconst 0, 1) := by decide +kernel
theorem dX1_alike_22 : decode cX1_alike 22 = .ok (.istore_n 2, 1) := by decide +kernel
theorem dX1_alike_23 : decode cX1_alike 23 = .ok (.iload_n 2, 1) := by decide +kernel
theorem dX1_alike_24 : decode cX1_alike 24 = .ok (.aload_n 0, 1) := by decide +kernel
theorem dX1_alike_25 : decode cX1_alike 25 = .ok (.getfield 18, 3) := by decide +kernel
theorem dX1_alike_28 : decode cX1_alike 28 = .ok (.if_icmp .ge 25, 3) := by decide +kernel
theorem dX1_alike_53 : decode cX1_alike 53 = .ok (.return_, 1) := by decide +kernel
theorem dX1_sell_0 : decode cX1_sell 0 = .ok (.aload_n 0, 1) := by decide +kernel
set_option maxRecDepth 20000 in
theorem ggX1_sell_X1_together : GoodIn wsX1_sell wsX1_together := goodIn_r _ [13, 2, 3, 29, 30, 31] (by decide +kernel) (by decide +kernel)
set_option maxRecDepth 20000 in
theorem gX1_sell_X1_together : GoodIn wsX1_sell (wsV RX1 22 RX1 yX1_together wsX1_together) := goodIn_app (goodIn_of _ (by decide +kernel)) ggX1_sell_X1_together
theorem dX1_sell_1 : decode cX1_sell 1 = .ok (.invokevirtual 22, 3) := by decide +kernel
theorem dX1_sell_4 : decode cX1_sell 4 = .ok (.istore_n 2, 1) := by decide +kernel
theorem dX1_sell_5 : decode cX1_sell 5 = .ok (.aload_n 0, 1) := by decide +kernel
theorem dX1_sell_6 : decode cX1_sell 6 = .ok (.getfield 15, 3) := by decide +kernel
theorem dX1_sell_9 : decode cX1_sell 9 = .ok (.iconst 0, 1) := by decide +kernel
set_option maxRecDepth 20000 in
theorem ggX1_sell_J7_fill_53178 : GoodIn wsX1_sell wsJ7_fill_53178 := goodIn_r _ [17] (by decide +kernel) (by decide +kernel)
set_option maxRecDepth 20000 in
theorem gX1_sell_J7_fill_53178 : GoodIn wsX1_sell (va_wsS RX1 26 yJ7_fill_53178 wsJ7_fill_53178) := goodIn_app (goodIn_of _ (by decide +kernel)) ggX1_sell_J7_fill_53178
theorem dX1_sell_10 : decode cX1_sell 10 = .ok (.invokestatic 26, 3) := by decide +kernel
theorem dX1_sell_13 : decode cX1_sell 13 = .ok (.iconst 0, 1) := by decide +kernel
theorem dX1_sell_14 : decode cX1_sell 14 = .ok (.istore_n 3, 1) := by decide +kernel
theorem dX1_sell_15 : decode cX1_sell 15 = .ok (.iload_n 3, 1) := by decide +kernel
theorem dX1_sell_16 : decode cX1_sell 16 = .ok (.aload_n 0, 1) := by decide +kernel
theorem dX1_sell_17 : decode cX1_sell 17 = .ok (.getfield 18, 3) := by decide +kernel
theorem dX1_sell_20 : decode cX1_sell 20 = .ok (.if_icmp .ge 65, 3) := by decide +kernel
theorem dX1_sell_85 : decode cX1_sell 85 = .ok (.return_, 1) := by decide +kernel
theorem dX11_dealOut_0 : decode cX11_dealOut 0 = .ok (.aload_n 0, 1) := by decide +kernel
theorem dX11_dealOut_1 : decode cX11_dealOut 1 = .ok (.getfield 75, 3) := by decide +kernel
set_option maxRecDepth 20000 in
theorem ggX11_dealOut_X1_clear : GoodIn wsX11_dealOut wsX1_clear := goodIn_r _ [10, 11, 159, 160, 161] (by decide +kernel) (by decide +kernel)
set_option maxRecDepth 20000 in
theorem gX11_dealOut_X1_clear : GoodIn wsX11_dealOut (wsV RX11 377 RX1 yX1_clear wsX1_clear) := goodIn_app (goodIn_of _ (by decide +kernel)) ggX11_dealOut_X1_clear
theorem dX11_dealOut_4 : decode cX11_dealOut 4 = .ok (.invokevirtual 377, 3) := by decide +kernel
theorem dX11_dealOut_7 : decode cX11_dealOut 7 = .ok (.iconst 0, 1) := by decide +kernel
theorem dX11_dealOut_8 : decode cX11_dealOut 8 = .ok (.istore_n 3, 1) := by decide +kernel
theorem dX11_dealOut_9 : decode cX11_dealOut 9 = .ok (.iload_n 3, 1) := by decide +kernel
theorem dX11_dealOut_10 : decode cX11_dealOut 10 = .ok (.aload_n 0, 1) := by decide +kernel
theorem dX11_dealOut_11 : decode cX11_dealOut 11 = .ok (.getfield 16, 3) := by decide +kernel
theorem dX11_dealOut_14 : decode cX11_dealOut 14 = .ok (.getfield 373, 3) := by decide +kernel
theorem dX11_dealOut_17 : decode cX11_dealOut 17 = .ok (.if_icmp .ge 33, 3) := by decide +kernel
theorem dX11_dealOut_50 : decode cX11_dealOut 50 = .ok (.iload_n 1, 1) := by decide +kernel
theorem dX11_dealOut_51 : decode cX11_dealOut 51 = .ok (.iconst 1, 1) := by decide +kernel
theorem dX11_dealOut_52 : decode cX11_dealOut 52 = .ok (.if_icmp .ne 13, 3) := by decide +kernel
theorem dX11_dealOut_65 : decode cX11_dealOut 65 = .ok (.iload_n 1, 1) := by decide +kernel
theorem dX11_dealOut_66 : decode cX11_dealOut 66 = .ok (.iconst 2, 1) := by decide +kernel
theorem dX11_dealOut_67 : decode cX11_dealOut 67 = .ok (.if_icmp .ne 14, 3) := by decide +kernel
theorem dX11_dealOut_81 : decode cX11_dealOut 81 = .ok (.return_, 1) := by decide +kernel
theorem dX11_dealOut_70 : decode cX11_dealOut 70 = .ok (.aload_n 0, 1) := by decide +kernel
theorem dX11_dealOut_71 : decode cX11_dealOut 71 = .ok (.getfield 75, 3) := by decide +kernel
theorem dX11_dealOut_74 : decode cX11_dealOut 74 = .ok (.aload_n 0, 1) := by decide +kernel
theorem dX11_dealOut_75 : decode cX11_dealOut 75 = .ok (.getfield 16, 3) := by decide +kernel
set_option maxRecDepth 20000 in
theorem ggX11_dealOut_X1_sell : GoodIn wsX11_dealOut wsX1_sell := goodIn_r _ [120, 121, 11, 108, 122, 123, 101, 76, 102, 113, 114, 115, 9, 116, 124, 125, 126, 127, 128, 129, 130, 131, 132, 133, 31, 32, 33, 34, 35, 159, 160, 161, 147, 148, 149, 150, 151, 152, 153, 154, 155, 156, 157, 158] (by decide +kernel) (by decide +kernel)
set_option maxRecDepth 20000 in
theorem gX11_dealOut_X1_sell : GoodIn wsX11_dealOut (wsV RX11 384 RX1 yX1_sell wsX1_sell) := goodIn_app (goodIn_of _ (by decide +kernel)) ggX11_dealOut_X1_sell
theorem dX11_dealOut_78 : decode cX11_dealOut 78 = .ok (.invokevirtual 384, 3) := by decide +kernel
theorem dX11_dealOut_55 : decode cX11_dealOut 55 = .ok (.aload_n 0, 1) := by decide +kernel
theorem dX11_dealOut_56 : decode cX11_dealOut 56 = .ok (.getfield 75, 3) := by decide +kernel
set_option maxRecDepth 20000 in
theorem ggX11_dealOut_X1_alike : GoodIn wsX11_dealOut wsX1_alike := goodIn_r _ [112, 11, 108, 113, 114, 115, 9, 116, 159, 160, 161] (by decide +kernel) (by decide +kernel)
set_option maxRecDepth 20000 in
theorem gX11_dealOut_X1_alike : GoodIn wsX11_dealOut (wsV RX11 381 RX1 yX1_alike wsX1_alike) := goodIn_app (goodIn_of _ (by decide +kernel)) ggX11_dealOut_X1_alike
theorem dX11_dealOut_59 : decode cX11_dealOut 59 = .ok (.invokevirtual 381, 3) := by decide +kernel
theorem dX11_dealOut_62 : decode cX11_dealOut 62 = .ok (.goto 19, 3) := by decide +kernel
theorem dX11_stays_0 : decode cX11_stays 0 = .ok (.iload_n 1, 1) := by decide +kernel
theorem dX11_stays_1 : decode cX11_stays 1 = .ok (.iconst 0, 1) := by decide +kernel
theorem dX11_stays_2 : decode cX11_stays 2 = .ok (.iconst 2, 1) := by decide +kernel
set_option maxRecDepth 20000 in
theorem ggX11_stays_X11_within : GoodIn wsX11_stays wsX11_within := goodIn_r _ [6] (by decide +kernel) (by decide +kernel)
set_option maxRecDepth 20000 in
theorem gX11_stays_X11_within : GoodIn wsX11_stays (va_wsS RX11 88 yX11_within wsX11_within) := goodIn_app (goodIn_of _ (by decide +kernel)) ggX11_stays_X11_within
theorem dX11_stays_3 : decode cX11_stays 3 = .ok (.invokestatic 88, 3) := by decide +kernel
theorem dX11_stays_6 : decode cX11_stays 6 = .ok (.ifCond .eq 10, 3) := by decide +kernel
theorem dX11_stays_9 : decode cX11_stays 9 = .ok (.iload_n 2, 1) := by decide +kernel
set_option maxRecDepth 20000 in
theorem ggX11_stays_X11_isMonth : GoodIn wsX11_stays wsX11_isMonth := goodIn_r _ [9, 3, 4, 5, 6] (by decide +kernel) (by decide +kernel)
set_option maxRecDepth 20000 in
theorem gX11_stays_X11_isMonth : GoodIn wsX11_stays (va_wsS RX11 122 yX11_isMonth wsX11_isMonth) := goodIn_app (goodIn_of _ (by decide +kernel)) ggX11_stays_X11_isMonth
theorem dX11_stays_10 : decode cX11_stays 10 = .ok (.invokestatic 122, 3) := by decide +kernel
theorem dX11_stays_13 : decode cX11_stays 13 = .ok (.ifCond .ne 5, 3) := by decide +kernel
theorem dX11_stays_18 : decode cX11_stays 18 = .ok (.aload_n 0, 1) := by decide +kernel
theorem dX11_stays_19 : decode cX11_stays 19 = .ok (.iload_n 1, 1) := by decide +kernel
theorem dX11_stays_20 : decode cX11_stays 20 = .ok (.iload_n 2, 1) := by decide +kernel
set_option maxRecDepth 20000 in
theorem ggX11_stays_X11_dealOut : GoodIn wsX11_stays wsX11_dealOut := goodIn_r _ [13, 14, 1, 2, 15, 16, 17, 18, 19, 20, 21, 22, 23, 24, 25, 26, 27, 28, 29, 30, 31, 32, 33, 34, 35, 36, 37, 38, 39, 40, 41, 42, 43, 44, 45, 46, 47, 48, 49, 50, 51, 52, 53, 54, 55, 56, 57, 58, 59, 60, 61, 62, 63, 64, 65, 66, 67, 68, 69, 70, 71, 72, 73, 74, 75, 76, 77, 78, 79, 80, 81, 82, 83, 84, 85, 86, 87, 88, 89, 90, 91, 92, 93, 94, 95, 96, 97, 98, 99, 100, 101, 102, 103, 104, 105, 106, 107, 108, 109, 110, 111, 112, 113, 114, 115, 116, 117, 118, 119, 120, 121, 122, 123, 124, 125, 126, 127, 128, 129, 130, 131, 132, 133, 134, 135, 136, 137, 138, 139, 140, 141, 142, 143, 144, 155, 156, 157, 158, 159, 160, 161, 162, 163, 164, 165, 166, 167, 168, 169, 170, 171, 172, 173, 174, 175, 176, 177, 178, 179, 180, 181, 182, 183, 184, 185, 186, 187, 188, 189, 190, 191, 192, 193] (by decide +kernel) (by decide +kernel)
set_option maxRecDepth 20000 in
theorem gX11_stays_X11_dealOut : GoodIn wsX11_stays (wsV RX11 365 RX11 yX11_dealOut wsX11_dealOut) := goodIn_app (goodIn_of _ (by decide +kernel)) ggX11_stays_X11_dealOut
theorem dX11_stays_21 : decode cX11_stays 21 = .ok (.invokevirtual 365, 3) := by decide +kernel
theorem dX11_stays_24 : decode cX11_stays 24 = .ok (.iconst 0, 1) := by decide +kernel
theorem dX11_stays_25 : decode cX11_stays 25 = .ok (.istore_n 3, 1) := by decide +kernel
theorem dX11_stays_26 : decode cX11_stays 26 = .ok (.iconst 0, 1) := by decide +kernel
theorem dX11_stays_27 : decode cX11_stays 27 = .ok (.istore 4, 2) := by decide +kernel
theorem dX11_stays_29 : decode cX11_stays 29 = .ok (.iload 4, 2) := by decide +kernel
theorem dX11_stays_31 : decode cX11_stays 31 = .ok (.aload_n 0, 1) := by decide +kernel
theorem dX11_stays_32 : decode cX11_stays 32 = .ok (.getfield 16, 3) := by decide +kernel
theorem dX11_stays_35 : decode cX11_stays 35 = .ok (.getfield 373, 3) := by decide +kernel
theorem dX11_stays_38 : decode cX11_stays 38 = .ok (.if_icmp .ge 26, 3) := by decide +kernel
theorem dX11_stays_64 : decode cX11_stays 64 = .ok (.iload_n 3, 1) := by decide +kernel
theorem dX11_stays_65 : decode cX11_stays 65 = .ok (.ireturn, 1) := by decide +kernel
theorem dX11_stays_16 : decode cX11_stays 16 = .ok (.iconst (-1), 1) := by decide +kernel
theorem dX11_stays_17 : decode cX11_stays 17 = .ok (.ireturn, 1) := by decide +kernel
theorem dX4_inPorts_0 : decode cX4_inPorts 0 = .ok (.iconst 0, 1) := by decide +kernel
theorem dX4_inPorts_1 : decode cX4_inPorts 1 = .ok (.istore_n 1, 1) := by decide +kernel
theorem dX4_inPorts_2 : decode cX4_inPorts 2 = .ok (.iconst 0, 1) := by decide +kernel
theorem dX4_inPorts_3 : decode cX4_inPorts 3 = .ok (.istore_n 2, 1) := by decide +kernel
theorem dX4_inPorts_4 : decode cX4_inPorts 4 = .ok (.iload_n 2, 1) := by decide +kernel
theorem dX4_inPorts_5 : decode cX4_inPorts 5 = .ok (.aload_n 0, 1) := by decide +kernel
theorem dX4_inPorts_6 : decode cX4_inPorts 6 = .ok (.getfield 44, 3) := by decide +kernel
theorem dX4_inPorts_9 : decode cX4_inPorts 9 = .ok (.if_icmp .ge 23, 3) := by decide +kernel
theorem dX4_inPorts_32 : decode cX4_inPorts 32 = .ok (.iload_n 1, 1) := by decide +kernel
theorem dX4_inPorts_33 : decode cX4_inPorts 33 = .ok (.ireturn, 1) := by decide +kernel
theorem dX11_unitsTogether_0 : decode cX11_unitsTogether 0 = .ok (.iconst 0, 1) := by decide +kernel
theorem dX11_unitsTogether_1 : decode cX11_unitsTogether 1 = .ok (.istore_n 3, 1) := by decide +kernel
theorem dX11_unitsTogether_2 : decode cX11_unitsTogether 2 = .ok (.iconst 0, 1) := by decide +kernel
theorem dX11_unitsTogether_3 : decode cX11_unitsTogether 3 = .ok (.istore 4, 2) := by decide +kernel
theorem dX11_unitsTogether_5 : decode cX11_unitsTogether 5 = .ok (.iload 4, 2) := by decide +kernel
theorem dX11_unitsTogether_7 : decode cX11_unitsTogether 7 = .ok (.aload_n 0, 1) := by decide +kernel
theorem dX11_unitsTogether_8 : decode cX11_unitsTogether 8 = .ok (.getfield 16, 3) := by decide +kernel
theorem dX11_unitsTogether_11 : decode cX11_unitsTogether 11 = .ok (.getfield 373, 3) := by decide +kernel
theorem dX11_unitsTogether_14 : decode cX11_unitsTogether 14 = .ok (.if_icmp .ge 54, 3) := by decide +kernel
theorem dX11_unitsTogether_68 : decode cX11_unitsTogether 68 = .ok (.iload_n 3, 1) := by decide +kernel
theorem dX11_unitsTogether_69 : decode cX11_unitsTogether 69 = .ok (.ireturn, 1) := by decide +kernel
theorem dX6_inForce_0 : decode cX6_inForce 0 = .ok (.iconst (-1), 1) := by decide +kernel
theorem dX6_inForce_1 : decode cX6_inForce 1 = .ok (.istore_n 3, 1) := by decide +kernel
theorem dX6_inForce_2 : decode cX6_inForce 2 = .ok (.iconst (-1), 1) := by decide +kernel
theorem dX6_inForce_3 : decode cX6_inForce 3 = .ok (.istore 4, 2) := by decide +kernel
theorem dX6_inForce_5 : decode cX6_inForce 5 = .ok (.iconst 0, 1) := by decide +kernel
theorem dX6_inForce_6 : decode cX6_inForce 6 = .ok (.istore 5, 2) := by decide +kernel
theorem dX6_inForce_8 : decode cX6_inForce 8 = .ok (.iload 5, 2) := by decide +kernel
theorem dX6_inForce_10 : decode cX6_inForce 10 = .ok (.aload_n 0, 1) := by decide +kernel
theorem dX6_inForce_11 : decode cX6_inForce 11 = .ok (.getfield 24, 3) := by decide +kernel
theorem dX6_inForce_14 : decode cX6_inForce 14 = .ok (.if_icmp .ge 83, 3) := by decide +kernel
theorem dX6_inForce_97 : decode cX6_inForce 97 = .ok (.iload_n 3, 1) := by decide +kernel
theorem dX6_inForce_98 : decode cX6_inForce 98 = .ok (.ireturn, 1) := by decide +kernel
theorem dX6_ordersOf_0 : decode cX6_ordersOf 0 = .ok (.aload_n 0, 1) := by decide +kernel
theorem dX6_ordersOf_1 : decode cX6_ordersOf 1 = .ok (.iload_n 1, 1) := by decide +kernel
theorem dX6_ordersOf_2 : decode cX6_ordersOf 2 = .ok (.iload_n 2, 1) := by decide +kernel
set_option maxRecDepth 20000 in
theorem ggX6_ordersOf_X6_inForce : GoodIn wsX6_ordersOf wsX6_inForce := goodIn_r _ [6, 7, 1, 8, 9, 10, 11, 12, 13, 14, 15, 16, 17, 18] (by decide +kernel) (by decide +kernel)
set_option maxRecDepth 20000 in
theorem gX6_ordersOf_X6_inForce : GoodIn wsX6_ordersOf (wsV RX6 34 RX6 yX6_inForce wsX6_inForce) := goodIn_app (goodIn_of _ (by decide +kernel)) ggX6_ordersOf_X6_inForce
theorem dX6_ordersOf_3 : decode cX6_ordersOf 3 = .ok (.invokevirtual 34, 3) := by decide +kernel
theorem dX6_ordersOf_6 : decode cX6_ordersOf 6 = .ok (.istore_n 3, 1) := by decide +kernel
theorem dX6_ordersOf_7 : decode cX6_ordersOf 7 = .ok (.iload_n 3, 1) := by decide +kernel
theorem dX6_ordersOf_8 : decode cX6_ordersOf 8 = .ok (.ifCond .lt 21, 3) := by decide +kernel
theorem dX6_ordersOf_29 : decode cX6_ordersOf 29 = .ok (.aconst_null, 1) := by decide +kernel
theorem dX6_ordersOf_30 : decode cX6_ordersOf 30 = .ok (.areturn, 1) := by decide +kernel

set_option maxHeartbeats 4000000 in
set_option maxRecDepth 100000 in
theorem ct_X11_isWay (l : Launch) (G : z_G) (u : z_U) (a1 : Int32) : z_M l yX11_isWay wsX11_isWay { frames := 2, cells := 0, slots := 0, locals := 34 } [.int a1] G u (fun r u1 => u1 = u ∧ (r = 1 ∨ r = 0)) 0 0 := by
  intro sz
  refine z_headQ (cc := cX11_isWay) (maxL := 1) (ret := (some .boolean)) (by decide) rfl (Nat.le_of_ble_eq_true rfl) ?_
  intro p e s m below meth c ls hIn hK hsz hW hl
  obtain ⟨hx, hb, hr, hml, hown, hts, hlocks, hname⟩ := hIn
  subst hsz
  have hown : s.vm.findClass RX11 = some m.cls := hown
  have hA : ∀ q : Nat, s.heap.size ≤ q → z_A u s.heap.size q := fun q h => Or.inr h
  generalize hAe : z_A u s.heap.size = A at *
  have hS : va_S A s.heap s.heap [] := va_S.rf
  have hl : lv_has ls 1 [(0, .int a1)] := hl
  refine lv_iload_n hx hb dX11_isWay_0 rfl (lv_at hl 0 rfl) ?_
  refine lv_iconst (v := 0) hx hb dX11_isWay_1 (by decide) ?_
  refine lv_bipush (v := 99) hx hb dX11_isWay_2 (by decide) ?_
  refine z_ci hW hS hA (va_runS (As := [.int a1, .int 0, .int 99]) (rest := []) ⟨hx, hb, hml, hown, hts⟩ (ct_X11_within l G u a1 0 99 _) (va_cwS 3 hts gX11_isWay_X11_within rfl rfl rfl (by decide +kernel) ⟨Nat.le_of_ble_eq_true rfl, Nat.le_of_ble_eq_true rfl⟩) (z_preS hK hW) rfl rfl hl.1 rfl (lv_room (Nat.le_of_ble_eq_true rfl)) dX11_isWay_4 ⟨Nat.le_of_ble_eq_true rfl, Nat.le_of_ble_eq_true rfl⟩) (fun r u1 H locs hp hW hS => ?_)
  obtain ⟨e9, hp⟩ := hp
  rw [e9] at hW
  rcases hp with ⟨rfl, h1, h2⟩ | ⟨rfl, h3⟩
  · refine lv_if_eq (tgt := 25) hx hb dX11_isWay_7 (by decide) (fun c4 => absurd c4 (by decide)) (fun c4 => ?_)
    refine lv_iload_n hx hb dX11_isWay_10 rfl (lv_at hl 0 rfl) ?_
    refine lv_bipush (v := 10) hx hb dX11_isWay_11 (by decide) ?_
    refine lv_idiv hx hb dX11_isWay_13 (by decide) ?_
    refine lv_iload_n hx hb dX11_isWay_14 rfl (lv_at hl 0 rfl) ?_
    refine lv_bipush (v := 10) hx hb dX11_isWay_15 (by decide) ?_
    refine lv_irem hx hb dX11_isWay_17 (by decide) ?_
    refine lv_icmp_eq (tgt := 25) hx hb dX11_isWay_18 (by decide) (fun c5 => ?_) (fun c5 => ?_)
    · refine lv_iconst (v := 0) hx hb dX11_isWay_25 (by decide) ?_
      exact z_zret hx hb hr (by decide) hK hS (Nat.le_of_ble_eq_true rfl) (Nat.le_of_ble_eq_true rfl) hlocks dX11_isWay_26 u hW ⟨rfl, Or.inr rfl⟩
    · refine lv_iconst (v := 1) hx hb dX11_isWay_21 (by decide) ?_
      refine lv_goto (tgt := 26) hx hb dX11_isWay_22 (by decide) ?_
      exact z_zret hx hb hr (by decide) hK hS (Nat.le_of_ble_eq_true rfl) (Nat.le_of_ble_eq_true rfl) hlocks dX11_isWay_26 u hW ⟨rfl, Or.inl rfl⟩
  · refine lv_if_eq (tgt := 25) hx hb dX11_isWay_7 (by decide) (fun c6 => ?_) (fun c6 => absurd (by decide) c6)
    refine lv_iconst (v := 0) hx hb dX11_isWay_25 (by decide) ?_
    exact z_zret hx hb hr (by decide) hK hS (Nat.le_of_ble_eq_true rfl) (Nat.le_of_ble_eq_true rfl) hlocks dX11_isWay_26 u hW ⟨rfl, Or.inr rfl⟩
theorem zi_X3_gather_X3 : ∀ w ∈ wsX30, w ∈ wsX3_gather := fun w h => (List.mem_cons_of_mem _ (List.mem_append_left _ (List.mem_append_right _ h)))
set_option maxHeartbeats 4000000 in
set_option maxRecDepth 100000 in
theorem ct_X3_gather (l : Launch) (G : z_G) (ad : Nat → Nat) (a2 : Int32) (a3 : Int32) : z_Mv l yX3_gather wsX3_gather { frames := 2, cells := 0, slots := 0, locals := 33 } [.ref (ad 60), .ref (ad 1), .int a2, .int a3] G (shX, ad, IX, JX, PX ad) (fun u1 => u1 = (shX, ad, IX, JX, PX ad)) 0 0 := by
  intro sz
  refine z_headQ (cc := cX3_gather) (maxL := 5) (ret := none) (by decide) rfl (Nat.le_of_ble_eq_true rfl) ?_
  intro p e s m below meth c ls hIn hK hsz hW hl
  obtain ⟨hx, hb, hr, hml, hown, hts, hlocks, hname⟩ := hIn
  subst hsz
  have hown : s.vm.findClass RX3 = some m.cls := hown
  have hA : ∀ q : Nat, s.heap.size ≤ q → z_A (shX, ad, IX, JX, PX ad) s.heap.size q := fun q h => Or.inr h
  generalize hAe : z_A (shX, ad, IX, JX, PX ad) s.heap.size = A at *
  have hS : va_S A s.heap s.heap [] := va_S.rf
  have hl : lv_has ls 5 [(0, .ref (ad 60)), (1, .ref (ad 1)), (2, .int a2), (3, .int a3)] := hl
  refine lv_aload_n hx hb dX3_gather_0 rfl (lv_at hl 0 rfl) ?_
  refine lv_iconst (v := 0) hx hb dX3_gather_1 (by decide) ?_
  refine z_put (T := TX3) (N := 17) (ci := 3) (i := 60) (v := .int 0) (I1 := (z_up IX 60 12 0)) (J1 := JX) (P1 := PX ad) hx hb hts zi_X3_gather_X3 tyX3 tyX3_ok nmX3 hown hK hW hS rfl rfl 12 (by decide) (hts (.fieldLink RX3 76 "PetrolBoard$Journeys" "pooled" "I") (List.mem_of_getElem? (i := 1) rfl)) (fun _ h => h) rfl rfl rfl (by first | rfl | exact congrArg _ z_up_s) (fun a b h ty => z_vI h ty) dX3_gather_2 (fun H locs hz1 hW hS => ?_)
  rw [show (z_up IX 60 12 0) = IX from z_up_id rfl] at hW
  refine lv_aload_n hx hb dX3_gather_5 rfl (lv_at hl 0 rfl) ?_
  refine lv_iconst (v := 0) hx hb dX3_gather_6 (by decide) ?_
  refine z_put (T := TX3) (N := 17) (ci := 3) (i := 60) (v := .int 0) (I1 := (z_up IX 60 13 0)) (J1 := JX) (P1 := PX ad) hx hb hts zi_X3_gather_X3 tyX3 tyX3_ok nmX3 hown hK hW hS rfl rfl 13 (by decide) (hts (.fieldLink RX3 87 "PetrolBoard$Journeys" "poolPeople" "I") (List.mem_of_getElem? (i := 2) rfl)) (fun _ h => h) rfl rfl rfl (by first | rfl | exact congrArg _ z_up_s) (fun a b h ty => z_vI h ty) dX3_gather_7 (fun H locs hz1 hW hS => ?_)
  rw [show (z_up IX 60 13 0) = IX from z_up_id rfl] at hW
  refine lv_iconst (v := 0) hx hb dX3_gather_10 (by decide) ?_
  refine lv_istore (lv' := [(4, .int 0), (0, .ref (ad 60)), (1, .ref (ad 1)), (2, .int a2), (3, .int a3)]) hx hb dX3_gather_11 hl (by decide) rfl (fun ls hl => ?_)
  refine lv_iload hx hb dX3_gather_13 (lv_at hl 0 rfl) ?_
  refine lv_aload_n hx hb dX3_gather_15 rfl (lv_at hl 1 rfl) ?_
  refine z_get (T := TX3) (N := 17) (ci := 3) (i := 60) (v := .int 0) hx hb hts zi_X3_gather_X3 hown hK hW rfl rfl 9 (by decide) (hts (.fieldLink RX3 45 "PetrolBoard$Journeys" "number" "I") (List.mem_of_getElem? (i := 3) rfl)) (fun _ h => h) rfl dX3_gather_16 ?_
  refine lv_icmp_ge (tgt := 156) hx hb dX3_gather_19 (by decide) (fun c1 => ?_) (fun c1 => absurd (by decide) c1)
  exact z_vret hx hb hr hK hS (Nat.le_of_ble_eq_true rfl) (Nat.le_of_ble_eq_true rfl) hlocks dX3_gather_156 (shX, ad, IX, JX, PX ad) hW rfl
theorem zi_X3_poolOf_X3 : ∀ w ∈ wsX30, w ∈ wsX3_poolOf := fun w h => (List.mem_cons_of_mem _ (List.mem_append_left _ (List.mem_append_right _ h)))
set_option maxHeartbeats 4000000 in
set_option maxRecDepth 100000 in
theorem ct_X3_poolOf (l : Launch) (G : z_G) (ad : Nat → Nat) (a2 : Int32) (a3 : Int32) : z_M l yX3_poolOf wsX3_poolOf { frames := 3, cells := 0, slots := 0, locals := 57 } [.ref (ad 60), .ref (ad 1), .int a2, .int a3] G (shX, ad, IX, JX, PX ad) (fun r u1 => u1 = (shX, ad, IX, JX, PX ad) ∧ r = 0) 0 0 := by
  intro sz
  refine z_headQ (cc := cX3_poolOf) (maxL := 6) (ret := (some .boolean)) (by decide) rfl (Nat.le_of_ble_eq_true rfl) ?_
  intro p e s m below meth c ls hIn hK hsz hW hl
  obtain ⟨hx, hb, hr, hml, hown, hts, hlocks, hname⟩ := hIn
  subst hsz
  have hown : s.vm.findClass RX3 = some m.cls := hown
  have hA : ∀ q : Nat, s.heap.size ≤ q → z_A (shX, ad, IX, JX, PX ad) s.heap.size q := fun q h => Or.inr h
  generalize hAe : z_A (shX, ad, IX, JX, PX ad) s.heap.size = A at *
  have hS : va_S A s.heap s.heap [] := va_S.rf
  have hl : lv_has ls 6 [(0, .ref (ad 60)), (1, .ref (ad 1)), (2, .int a2), (3, .int a3)] := hl
  refine lv_aload_n hx hb dX3_poolOf_0 rfl (lv_at hl 0 rfl) ?_
  refine lv_aload_n hx hb dX3_poolOf_1 rfl (lv_at hl 1 rfl) ?_
  refine lv_iload_n hx hb dX3_poolOf_2 rfl (lv_at hl 2 rfl) ?_
  refine lv_iload_n hx hb dX3_poolOf_3 rfl (lv_at hl 3 rfl) ?_
  refine z_cv hW hS hA (va_runV (As := [.ref (ad 1), .int a2, .int a3]) (rest := []) ⟨hx, hb, hml, hown, hts⟩ (ct_X3_gather l G ad a2 a3 _) (cwV 3 hts gX3_poolOf_X3_gather rfl rfl rfl (by decide +kernel) ⟨Nat.le_of_ble_eq_true rfl, Nat.le_of_ble_eq_true rfl⟩) (z_preV hK hW rfl rfl) rfl rfl hl.1 rfl (lv_room (Nat.le_of_ble_eq_true rfl)) dX3_poolOf_4 ⟨Nat.le_of_ble_eq_true rfl, Nat.le_of_ble_eq_true rfl⟩) (fun u1 H locs hp hW hS => ?_)
  rw [hp] at hW
  refine lv_aload_n hx hb dX3_poolOf_7 rfl (lv_at hl 0 rfl) ?_
  refine lv_iconst (v := 0) hx hb dX3_poolOf_8 (by decide) ?_
  refine z_put (T := TX3) (N := 17) (ci := 3) (i := 60) (v := .int 0) (I1 := (z_up IX 60 16 0)) (J1 := JX) (P1 := PX ad) hx hb hts zi_X3_poolOf_X3 tyX3 tyX3_ok nmX3 hown hK hW hS rfl rfl 16 (by decide) (hts (.fieldLink RX3 73 "PetrolBoard$Journeys" "poolSet" "I") (List.mem_of_getElem? (i := 1) rfl)) (fun _ h => h) rfl rfl rfl (by first | rfl | exact congrArg _ z_up_s) (fun a b h ty => z_vI h ty) dX3_poolOf_9 (fun H locs hz1 hW hS => ?_)
  rw [show (z_up IX 60 16 0) = IX from z_up_id rfl] at hW
  refine lv_iconst (v := 1) hx hb dX3_poolOf_12 (by decide) ?_
  refine lv_aload_n hx hb dX3_poolOf_13 rfl (lv_at hl 0 rfl) ?_
  refine z_get (T := TX3) (N := 17) (ci := 3) (i := 60) (v := .int 0) hx hb hts zi_X3_poolOf_X3 hown hK hW rfl rfl 12 (by decide) (hts (.fieldLink RX3 76 "PetrolBoard$Journeys" "pooled" "I") (List.mem_of_getElem? (i := 2) rfl)) (fun _ h => h) rfl dX3_poolOf_14 ?_
  refine lv_bipush (v := 12) hx hb dX3_poolOf_17 (by decide) ?_
  refine va_mmin (x := 0) (y := 12) hx hb (hml.trans hl.1.symm) hown (hts (.methodLink RX3 79 Lib.Math.min.name) (List.mem_of_getElem? (i := 3) rfl)) (hts (.static Lib.Math.min.name) (List.mem_of_getElem? (i := 4) rfl)) (hts (.initialized "java/lang/Math") (List.mem_of_getElem? (i := 5) rfl)) (hts (.code Lib.Math.min.name Lib.Math.min.code 2 (some .int)) (List.mem_of_getElem? (i := 6) rfl)) (Nat.le_of_ble_eq_true rfl) (Nat.le_of_ble_eq_true rfl) (Nat.le_of_ble_eq_true rfl) (Nat.le_of_ble_eq_true rfl) dX3_poolOf_19 ?_
  refine z_topi (v := 0) (by decide) ?_
  refine lv_ishl hx hb dX3_poolOf_22 ?_
  refine z_topi (v := 1) (by decide) ?_
  refine lv_istore (lv' := [(4, .int 1), (0, .ref (ad 60)), (1, .ref (ad 1)), (2, .int a2), (3, .int a3)]) hx hb dX3_poolOf_23 hl (by decide) rfl (fun ls hl => ?_)
  refine lv_iconst (v := 1) hx hb dX3_poolOf_25 (by decide) ?_
  refine lv_istore (lv' := [(5, .int 1), (4, .int 1), (0, .ref (ad 60)), (1, .ref (ad 1)), (2, .int a2), (3, .int a3)]) hx hb dX3_poolOf_26 hl (by decide) rfl (fun ls hl => ?_)
  refine lv_iload hx hb dX3_poolOf_28 (lv_at hl 0 rfl) ?_
  refine lv_iload hx hb dX3_poolOf_30 (lv_at hl 1 rfl) ?_
  refine lv_icmp_ge (tgt := 47) hx hb dX3_poolOf_32 (by decide) (fun c1 => ?_) (fun c1 => absurd (by decide) c1)
  refine lv_aload_n hx hb dX3_poolOf_47 rfl (lv_at hl 2 rfl) ?_
  refine z_get (T := TX3) (N := 17) (ci := 3) (i := 60) (v := .int 0) hx hb hts zi_X3_poolOf_X3 hown hK hW rfl rfl 16 (by decide) (hts (.fieldLink RX3 73 "PetrolBoard$Journeys" "poolSet" "I") (List.mem_of_getElem? (i := 1) rfl)) (fun _ h => h) rfl dX3_poolOf_48 ?_
  refine lv_if_eq (tgt := 58) hx hb dX3_poolOf_51 (by decide) (fun c2 => ?_) (fun c2 => absurd (by decide) c2)
  refine lv_iconst (v := 0) hx hb dX3_poolOf_58 (by decide) ?_
  exact z_zret hx hb hr (by decide) hK hS (Nat.le_of_ble_eq_true rfl) (Nat.le_of_ble_eq_true rfl) hlocks dX3_poolOf_59 (shX, ad, IX, JX, PX ad) hW ⟨rfl, rfl⟩
theorem zi_X11_pool_X11 : ∀ w ∈ wsX110, w ∈ wsX11_pool := fun w h => (List.mem_cons_of_mem _ (List.mem_append_left _ (List.mem_append_left _ (List.mem_append_right _ h))))
set_option maxHeartbeats 4000000 in
set_option maxRecDepth 100000 in
theorem ct_X11_pool (l : Launch) (G : z_G) (ad : Nat → Nat) (a1 : Int32) (a2 : Int32) (a3 : Int32) : z_M l yX11_pool wsX11_pool { frames := 4, cells := 0, slots := 0, locals := 82 } [.ref (ad 0), .int a1, .int a2, .int a3] G (shX, ad, IX, JX, PX ad) (fun r u1 => r = -1) 0 0 := by
  intro sz
  refine z_headQ (cc := cX11_pool) (maxL := 4) (ret := (some .int)) (by decide) rfl (Nat.le_of_ble_eq_true rfl) ?_
  intro p e s m below meth c ls hIn hK hsz hW hl
  obtain ⟨hx, hb, hr, hml, hown, hts, hlocks, hname⟩ := hIn
  subst hsz
  have hown : s.vm.findClass RX11 = some m.cls := hown
  have hA : ∀ q : Nat, s.heap.size ≤ q → z_A (shX, ad, IX, JX, PX ad) s.heap.size q := fun q h => Or.inr h
  generalize hAe : z_A (shX, ad, IX, JX, PX ad) s.heap.size = A at *
  have hS : va_S A s.heap s.heap [] := va_S.rf
  have hl : lv_has ls 4 [(0, .ref (ad 0)), (1, .int a1), (2, .int a2), (3, .int a3)] := hl
  refine lv_iload_n hx hb dX11_pool_0 rfl (lv_at hl 1 rfl) ?_
  refine z_ci hW hS hA (va_runS (As := [.int a1]) (rest := []) ⟨hx, hb, hml, hown, hts⟩ (ct_X11_isDay l G (shX, ad, IX, JX, PX ad) a1 _) (va_cwS 1 hts gX11_pool_X11_isDay rfl rfl rfl (by decide +kernel) ⟨Nat.le_of_ble_eq_true rfl, Nat.le_of_ble_eq_true rfl⟩) (z_preS hK hW) rfl rfl hl.1 rfl (lv_room (Nat.le_of_ble_eq_true rfl)) dX11_pool_1 ⟨Nat.le_of_ble_eq_true rfl, Nat.le_of_ble_eq_true rfl⟩) (fun r u1 H locs hp hW hS => ?_)
  obtain ⟨e9, hp⟩ := hp
  rw [e9] at hW
  rcases hp with ⟨rfl, h1, h2⟩ | ⟨rfl, h3⟩
  · refine lv_if_eq (tgt := 23) hx hb dX11_pool_4 (by decide) (fun c4 => absurd c4 (by decide)) (fun c4 => ?_)
    refine lv_iload_n hx hb dX11_pool_7 rfl (lv_at hl 2 rfl) ?_
    refine z_ci hW hS hA (va_runS (As := [.int a2]) (rest := []) ⟨hx, hb, hml, hown, hts⟩ (ct_X11_isWay l G (shX, ad, IX, JX, PX ad) a2 _) (va_cwS 1 hts gX11_pool_X11_isWay rfl rfl rfl (by decide +kernel) ⟨Nat.le_of_ble_eq_true rfl, Nat.le_of_ble_eq_true rfl⟩) (z_preS hK hW) rfl rfl hl.1 rfl (lv_room (Nat.le_of_ble_eq_true rfl)) dX11_pool_8 ⟨Nat.le_of_ble_eq_true rfl, Nat.le_of_ble_eq_true rfl⟩) (fun r u1 H locs hp hW hS => ?_)
    obtain ⟨e9, hp⟩ := hp
    rw [e9] at hW
    rcases hp with ⟨rfl⟩ | ⟨rfl⟩
    · refine lv_if_eq (tgt := 23) hx hb dX11_pool_11 (by decide) (fun c5 => absurd c5 (by decide)) (fun c5 => ?_)
      refine lv_iload_n hx hb dX11_pool_14 rfl (lv_at hl 3 rfl) ?_
      refine lv_iconst (v := 0) hx hb dX11_pool_15 (by decide) ?_
      refine lv_iconst (v := 3) hx hb dX11_pool_16 (by decide) ?_
      refine z_ci hW hS hA (va_runS (As := [.int a3, .int 0, .int 3]) (rest := []) ⟨hx, hb, hml, hown, hts⟩ (ct_X11_within l G (shX, ad, IX, JX, PX ad) a3 0 3 _) (va_cwS 3 hts gX11_pool_X11_within rfl rfl rfl (by decide +kernel) ⟨Nat.le_of_ble_eq_true rfl, Nat.le_of_ble_eq_true rfl⟩) (z_preS hK hW) rfl rfl hl.1 rfl (lv_room (Nat.le_of_ble_eq_true rfl)) dX11_pool_17 ⟨Nat.le_of_ble_eq_true rfl, Nat.le_of_ble_eq_true rfl⟩) (fun r u1 H locs hp hW hS => ?_)
      obtain ⟨e9, hp⟩ := hp
      rw [e9] at hW
      rcases hp with ⟨rfl, h6, h7⟩ | ⟨rfl, h8⟩
      · refine lv_if_ne (tgt := 25) hx hb dX11_pool_20 (by decide) (fun c9 => ?_) (fun c9 => absurd c9 (by decide))
        refine lv_aload_n hx hb dX11_pool_25 rfl (lv_at hl 0 rfl) ?_
        refine z_get (T := TX11) (N := 13) (ci := 11) (i := 0) (v := .ref (ad 60)) hx hb hts zi_X11_pool_X11 hown hK hW rfl rfl 11 (by decide) (hts (.fieldLink RX11 68 "PetrolBoard" "journeys" "LPetrolBoard$Journeys;") (List.mem_of_getElem? (i := 1) rfl)) (fun _ h => h) rfl dX11_pool_26 ?_
        refine lv_aload_n hx hb dX11_pool_29 rfl (lv_at hl 0 rfl) ?_
        refine z_get (T := TX11) (N := 13) (ci := 11) (i := 0) (v := .ref (ad 1)) hx hb hts zi_X11_pool_X11 hown hK hW rfl rfl 2 (by decide) (hts (.fieldLink RX11 16 "PetrolBoard" "holders" "LPetrolBoard$Holders;") (List.mem_of_getElem? (i := 2) rfl)) (fun _ h => h) rfl dX11_pool_30 ?_
        refine lv_iload_n hx hb dX11_pool_33 rfl (lv_at hl 1 rfl) ?_
        refine lv_iload_n hx hb dX11_pool_34 rfl (lv_at hl 2 rfl) ?_
        refine z_ci hW hS hA (va_runV (As := [.ref (ad 1), .int a1, .int a2]) (rest := []) ⟨hx, hb, hml, hown, hts⟩ (ct_X3_poolOf l G ad a1 a2 _) (cwV 3 hts gX11_pool_X3_poolOf rfl rfl rfl (by decide +kernel) ⟨Nat.le_of_ble_eq_true rfl, Nat.le_of_ble_eq_true rfl⟩) (z_preV hK hW rfl rfl) rfl rfl hl.1 rfl (lv_room (Nat.le_of_ble_eq_true rfl)) dX11_pool_35 ⟨Nat.le_of_ble_eq_true rfl, Nat.le_of_ble_eq_true rfl⟩) (fun r u1 H locs hp hW hS => ?_)
        obtain ⟨e9, rfl⟩ := hp
        rw [e9] at hW
        refine lv_if_ne (tgt := 43) hx hb dX11_pool_38 (by decide) (fun c10 => absurd (by decide) c10) (fun c10 => ?_)
        refine lv_iconst (v := (-1)) hx hb dX11_pool_41 (by decide) ?_
        exact z_iret hx hb hr hK hS (Nat.le_of_ble_eq_true rfl) (Nat.le_of_ble_eq_true rfl) hlocks dX11_pool_42 (shX, ad, IX, JX, PX ad) hW rfl
      · refine lv_if_ne (tgt := 25) hx hb dX11_pool_20 (by decide) (fun c11 => absurd (by decide) c11) (fun c11 => ?_)
        refine lv_iconst (v := (-1)) hx hb dX11_pool_23 (by decide) ?_
        exact z_iret hx hb hr hK hS (Nat.le_of_ble_eq_true rfl) (Nat.le_of_ble_eq_true rfl) hlocks dX11_pool_24 (shX, ad, IX, JX, PX ad) hW rfl
    · refine lv_if_eq (tgt := 23) hx hb dX11_pool_11 (by decide) (fun c12 => ?_) (fun c12 => absurd (by decide) c12)
      refine lv_iconst (v := (-1)) hx hb dX11_pool_23 (by decide) ?_
      exact z_iret hx hb hr hK hS (Nat.le_of_ble_eq_true rfl) (Nat.le_of_ble_eq_true rfl) hlocks dX11_pool_24 (shX, ad, IX, JX, PX ad) hW rfl
  · refine lv_if_eq (tgt := 23) hx hb dX11_pool_4 (by decide) (fun c13 => ?_) (fun c13 => absurd (by decide) c13)
    refine lv_iconst (v := (-1)) hx hb dX11_pool_23 (by decide) ?_
    exact z_iret hx hb hr hK hS (Nat.le_of_ble_eq_true rfl) (Nat.le_of_ble_eq_true rfl) hlocks dX11_pool_24 (shX, ad, IX, JX, PX ad) hW rfl
theorem zi_X1_clear_X1 : ∀ w ∈ wsX10, w ∈ wsX1_clear := fun w h => (List.mem_cons_of_mem _ (List.mem_append_right _ h))
set_option maxHeartbeats 4000000 in
set_option maxRecDepth 100000 in
theorem ct_X1_clear (l : Launch) (G : z_G) (ad : Nat → Nat) : z_Mv l yX1_clear wsX1_clear { frames := 1, cells := 0, slots := 0, locals := 12 } [.ref (ad 72)] G (shX, ad, IX, JX, PX ad) (fun u1 => u1 = (shX, ad, IX, JX, PX ad)) 0 0 := by
  intro sz
  refine z_headQ (cc := cX1_clear) (maxL := 1) (ret := none) (by decide) rfl (Nat.le_of_ble_eq_true rfl) ?_
  intro p e s m below meth c ls hIn hK hsz hW hl
  obtain ⟨hx, hb, hr, hml, hown, hts, hlocks, hname⟩ := hIn
  subst hsz
  have hown : s.vm.findClass RX1 = some m.cls := hown
  have hA : ∀ q : Nat, s.heap.size ≤ q → z_A (shX, ad, IX, JX, PX ad) s.heap.size q := fun q h => Or.inr h
  generalize hAe : z_A (shX, ad, IX, JX, PX ad) s.heap.size = A at *
  have hS : va_S A s.heap s.heap [] := va_S.rf
  have hl : lv_has ls 1 [(0, .ref (ad 72))] := hl
  refine lv_aload_n hx hb dX1_clear_0 rfl (lv_at hl 0 rfl) ?_
  refine lv_iconst (v := 0) hx hb dX1_clear_1 (by decide) ?_
  refine z_put (T := TX1) (N := 3) (ci := 1) (i := 72) (v := .int 0) (I1 := (z_up IX 72 2 0)) (J1 := JX) (P1 := PX ad) hx hb hts zi_X1_clear_X1 tyX1 tyX1_ok nmX1 hown hK hW hS rfl rfl 2 (by decide) (hts (.fieldLink RX1 18 "PetrolBoard$Deal" "number" "I") (List.mem_of_getElem? (i := 1) rfl)) (fun _ h => h) rfl rfl rfl (by first | rfl | exact congrArg _ z_up_s) (fun a b h ty => z_vI h ty) dX1_clear_2 (fun H locs hz1 hW hS => ?_)
  rw [show (z_up IX 72 2 0) = IX from z_up_id rfl] at hW
  exact z_vret hx hb hr hK hS (Nat.le_of_ble_eq_true rfl) (Nat.le_of_ble_eq_true rfl) hlocks dX1_clear_5 (shX, ad, IX, JX, PX ad) hW rfl
theorem zi_X1_together_X1 : ∀ w ∈ wsX10, w ∈ wsX1_together := fun w h => (List.mem_cons_of_mem _ (List.mem_append_right _ h))
set_option maxHeartbeats 4000000 in
set_option maxRecDepth 100000 in
theorem ct_X1_together (l : Launch) (G : z_G) (ad : Nat → Nat) : z_M l yX1_together wsX1_together { frames := 1, cells := 0, slots := 0, locals := 12 } [.ref (ad 72)] G (shX, ad, IX, JX, PX ad) (fun r u1 => u1 = (shX, ad, IX, JX, PX ad) ∧ r = 0) 0 0 := by
  intro sz
  refine z_headQ (cc := cX1_together) (maxL := 3) (ret := (some .int)) (by decide) rfl (Nat.le_of_ble_eq_true rfl) ?_
  intro p e s m below meth c ls hIn hK hsz hW hl
  obtain ⟨hx, hb, hr, hml, hown, hts, hlocks, hname⟩ := hIn
  subst hsz
  have hown : s.vm.findClass RX1 = some m.cls := hown
  have hA : ∀ q : Nat, s.heap.size ≤ q → z_A (shX, ad, IX, JX, PX ad) s.heap.size q := fun q h => Or.inr h
  generalize hAe : z_A (shX, ad, IX, JX, PX ad) s.heap.size = A at *
  have hS : va_S A s.heap s.heap [] := va_S.rf
  have hl : lv_has ls 3 [(0, .ref (ad 72))] := hl
  refine lv_iconst (v := 0) hx hb dX1_together_0 (by decide) ?_
  refine lv_istore_n (lv' := [(1, .int 0), (0, .ref (ad 72))]) hx hb dX1_together_1 rfl hl (by decide) rfl (fun ls hl => ?_)
  refine lv_iconst (v := 0) hx hb dX1_together_2 (by decide) ?_
  refine lv_istore_n (lv' := [(2, .int 0), (1, .int 0), (0, .ref (ad 72))]) hx hb dX1_together_3 rfl hl (by decide) rfl (fun ls hl => ?_)
  refine lv_iload_n hx hb dX1_together_4 rfl (lv_at hl 0 rfl) ?_
  refine lv_aload_n hx hb dX1_together_5 rfl (lv_at hl 2 rfl) ?_
  refine z_get (T := TX1) (N := 3) (ci := 1) (i := 72) (v := .int 0) hx hb hts zi_X1_together_X1 hown hK hW rfl rfl 2 (by decide) (hts (.fieldLink RX1 18 "PetrolBoard$Deal" "number" "I") (List.mem_of_getElem? (i := 1) rfl)) (fun _ h => h) rfl dX1_together_6 ?_
  refine lv_icmp_ge (tgt := 36) hx hb dX1_together_9 (by decide) (fun c1 => ?_) (fun c1 => absurd (by decide) c1)
  refine lv_iload_n hx hb dX1_together_36 rfl (lv_at hl 1 rfl) ?_
  exact z_iret hx hb hr hK hS (Nat.le_of_ble_eq_true rfl) (Nat.le_of_ble_eq_true rfl) hlocks dX1_together_37 (shX, ad, IX, JX, PX ad) hW ⟨rfl, rfl⟩
theorem zi_X1_alike_X1 : ∀ w ∈ wsX10, w ∈ wsX1_alike := fun w h => (List.mem_cons_of_mem _ (List.mem_append_right _ h))
set_option maxHeartbeats 4000000 in
set_option maxRecDepth 100000 in
theorem ct_X1_alike (l : Launch) (G : z_G) (ad : Nat → Nat) : z_Mv l yX1_alike wsX1_alike { frames := 2, cells := 0, slots := 0, locals := 34 } [.ref (ad 72)] G (shX, ad, IX, JX, PX ad) (fun u1 => u1 = (shX, ad, IX, JX, PX ad)) 0 0 := by
  intro sz
  refine z_headQ (cc := cX1_alike) (maxL := 3) (ret := none) (by decide) rfl (Nat.le_of_ble_eq_true rfl) ?_
  intro p e s m below meth c ls hIn hK hsz hW hl
  obtain ⟨hx, hb, hr, hml, hown, hts, hlocks, hname⟩ := hIn
  subst hsz
  have hown : s.vm.findClass RX1 = some m.cls := hown
  have hA : ∀ q : Nat, s.heap.size ≤ q → z_A (shX, ad, IX, JX, PX ad) s.heap.size q := fun q h => Or.inr h
  generalize hAe : z_A (shX, ad, IX, JX, PX ad) s.heap.size = A at *
  have hS : va_S A s.heap s.heap [] := va_S.rf
  have hl : lv_has ls 3 [(0, .ref (ad 72))] := hl
  refine lv_aload_n hx hb dX1_alike_0 rfl (lv_at hl 0 rfl) ?_
  refine z_get (T := TX1) (N := 3) (ci := 1) (i := 72) (v := .int 0) hx hb hts zi_X1_alike_X1 hown hK hW rfl rfl 2 (by decide) (hts (.fieldLink RX1 18 "PetrolBoard$Deal" "number" "I") (List.mem_of_getElem? (i := 1) rfl)) (fun _ h => h) rfl dX1_alike_1 ?_
  refine lv_if_le (tgt := 19) hx hb dX1_alike_4 (by decide) (fun c1 => ?_) (fun c1 => absurd (by decide) c1)
  refine lv_iconst (v := 0) hx hb dX1_alike_19 (by decide) ?_
  refine lv_istore_n (lv' := [(1, .int 0), (0, .ref (ad 72))]) hx hb dX1_alike_20 rfl hl (by decide) rfl (fun ls hl => ?_)
  refine lv_iconst (v := 0) hx hb dX1_alike_21 (by decide) ?_
  refine lv_istore_n (lv' := [(2, .int 0), (1, .int 0), (0, .ref (ad 72))]) hx hb dX1_alike_22 rfl hl (by decide) rfl (fun ls hl => ?_)
  refine lv_iload_n hx hb dX1_alike_23 rfl (lv_at hl 0 rfl) ?_
  refine lv_aload_n hx hb dX1_alike_24 rfl (lv_at hl 2 rfl) ?_
  refine z_get (T := TX1) (N := 3) (ci := 1) (i := 72) (v := .int 0) hx hb hts zi_X1_alike_X1 hown hK hW rfl rfl 2 (by decide) (hts (.fieldLink RX1 18 "PetrolBoard$Deal" "number" "I") (List.mem_of_getElem? (i := 1) rfl)) (fun _ h => h) rfl dX1_alike_25 ?_
  refine lv_icmp_ge (tgt := 53) hx hb dX1_alike_28 (by decide) (fun c2 => ?_) (fun c2 => absurd (by decide) c2)
  exact z_vret hx hb hr hK hS (Nat.le_of_ble_eq_true rfl) (Nat.le_of_ble_eq_true rfl) hlocks dX1_alike_53 (shX, ad, IX, JX, PX ad) hW rfl
theorem zi_X1_sell_X1 : ∀ w ∈ wsX10, w ∈ wsX1_sell := fun w h => (List.mem_cons_of_mem _ (List.mem_append_left _ (List.mem_append_right _ h)))
set_option maxHeartbeats 4000000 in
set_option maxRecDepth 100000 in
theorem ct_X1_sell (l : Launch) (G : z_G) (ad : Nat → Nat) : z_Mv l yX1_sell wsX1_sell { frames := 2, cells := 0, slots := 0, locals := 40 } [.ref (ad 72), .ref (ad 1)] G (shX, ad, IX, JX, PX ad) (fun u1 => u1 = (shX, ad, IX, JX, PX ad)) 0 0 := by
  intro sz
  refine z_headQ (cc := cX1_sell) (maxL := 5) (ret := none) (by decide) rfl (Nat.le_of_ble_eq_true rfl) ?_
  intro p e s m below meth c ls hIn hK hsz hW hl
  obtain ⟨hx, hb, hr, hml, hown, hts, hlocks, hname⟩ := hIn
  subst hsz
  have hown : s.vm.findClass RX1 = some m.cls := hown
  have hA : ∀ q : Nat, s.heap.size ≤ q → z_A (shX, ad, IX, JX, PX ad) s.heap.size q := fun q h => Or.inr h
  generalize hAe : z_A (shX, ad, IX, JX, PX ad) s.heap.size = A at *
  have hS : va_S A s.heap s.heap [] := va_S.rf
  have hl : lv_has ls 5 [(0, .ref (ad 72)), (1, .ref (ad 1))] := hl
  refine lv_aload_n hx hb dX1_sell_0 rfl (lv_at hl 0 rfl) ?_
  refine z_ci hW hS hA (va_runV (As := []) (rest := []) ⟨hx, hb, hml, hown, hts⟩ (ct_X1_together l G ad  _) (cwV 0 hts gX1_sell_X1_together rfl rfl rfl (by decide +kernel) ⟨Nat.le_of_ble_eq_true rfl, Nat.le_of_ble_eq_true rfl⟩) (z_preV hK hW rfl rfl) rfl rfl hl.1 rfl (lv_room (Nat.le_of_ble_eq_true rfl)) dX1_sell_1 ⟨Nat.le_of_ble_eq_true rfl, Nat.le_of_ble_eq_true rfl⟩) (fun r u1 H locs hp hW hS => ?_)
  obtain ⟨e9, rfl⟩ := hp
  rw [e9] at hW
  refine lv_istore_n (lv' := [(2, .int 0), (0, .ref (ad 72)), (1, .ref (ad 1))]) hx hb dX1_sell_4 rfl hl (by decide) rfl (fun ls hl => ?_)
  refine lv_aload_n hx hb dX1_sell_5 rfl (lv_at hl 1 rfl) ?_
  refine z_get (T := TX1) (N := 3) (ci := 1) (i := 72) (v := .ref (ad 74)) hx hb hts zi_X1_sell_X1 hown hK hW rfl rfl 1 (by decide) (hts (.fieldLink RX1 15 "PetrolBoard$Deal" "served" "[I") (List.mem_of_getElem? (i := 1) rfl)) (fun _ h => h) rfl dX1_sell_6 ?_
  refine lv_iconst (v := 0) hx hb dX1_sell_9 (by decide) ?_
  refine z_cc hW hS hA (va_runS (As := [.ref (ad 74), .int 0]) (rest := []) ⟨hx, hb, hml, hown, hts⟩ (ct_fill l G 74 30 0 rfl (by decide) _) (va_cwS 2 hts gX1_sell_J7_fill_53178 rfl rfl rfl (by decide +kernel) ⟨Nat.le_of_ble_eq_true rfl, Nat.le_of_ble_eq_true rfl⟩) (z_preS hK hW) rfl rfl hl.1 rfl (lv_room (Nat.le_of_ble_eq_true rfl)) dX1_sell_10 ⟨Nat.le_of_ble_eq_true rfl, Nat.le_of_ble_eq_true rfl⟩) (fun H locs hz1 hW hS => ?_)
  rw [show (z_fi IX 74 0) = IX from z_fi_id (fun _ => rfl)] at hW
  refine lv_iconst (v := 0) hx hb dX1_sell_13 (by decide) ?_
  refine lv_istore_n (lv' := [(3, .int 0), (2, .int 0), (0, .ref (ad 72)), (1, .ref (ad 1))]) hx hb dX1_sell_14 rfl hl (by decide) rfl (fun ls hl => ?_)
  refine lv_iload_n hx hb dX1_sell_15 rfl (lv_at hl 0 rfl) ?_
  refine lv_aload_n hx hb dX1_sell_16 rfl (lv_at hl 2 rfl) ?_
  refine z_get (T := TX1) (N := 3) (ci := 1) (i := 72) (v := .int 0) hx hb hts zi_X1_sell_X1 hown hK hW rfl rfl 2 (by decide) (hts (.fieldLink RX1 18 "PetrolBoard$Deal" "number" "I") (List.mem_of_getElem? (i := 2) rfl)) (fun _ h => h) rfl dX1_sell_17 ?_
  refine lv_icmp_ge (tgt := 85) hx hb dX1_sell_20 (by decide) (fun c1 => ?_) (fun c1 => absurd (by decide) c1)
  exact z_vret hx hb hr hK hS (Nat.le_of_ble_eq_true rfl) (Nat.le_of_ble_eq_true rfl) hlocks dX1_sell_85 (shX, ad, IX, JX, PX ad) hW rfl
theorem zi_X11_dealOut_X2 : ∀ w ∈ wsX20, w ∈ wsX11_dealOut := fun w h => (List.mem_cons_of_mem _ (List.mem_append_left _ (List.mem_append_left _ (List.mem_append_left _ (List.mem_append_left _ (List.mem_append_right _ h))))))
theorem zi_X11_dealOut_X11 : ∀ w ∈ wsX110, w ∈ wsX11_dealOut := fun w h => (List.mem_cons_of_mem _ (List.mem_append_left _ (List.mem_append_left _ (List.mem_append_left _ (List.mem_append_left _ (List.mem_append_left _ (List.mem_append_right _ h)))))))
set_option maxHeartbeats 4000000 in
set_option maxRecDepth 100000 in
theorem ct_X11_dealOut (l : Launch) (G : z_G) (ad : Nat → Nat) (a1 : Int32) (a2 : Int32) : z_Mv l yX11_dealOut wsX11_dealOut { frames := 3, cells := 0, slots := 0, locals := 64 } [.ref (ad 0), .int a1, .int a2] G (shX, ad, IX, JX, PX ad) (fun u1 => u1 = (shX, ad, IX, JX, PX ad)) 0 0 := by
  intro sz
  refine z_headQ (cc := cX11_dealOut) (maxL := 4) (ret := none) (by decide) rfl (Nat.le_of_ble_eq_true rfl) ?_
  intro p e s m below meth c ls hIn hK hsz hW hl
  obtain ⟨hx, hb, hr, hml, hown, hts, hlocks, hname⟩ := hIn
  subst hsz
  have hown : s.vm.findClass RX11 = some m.cls := hown
  have hA : ∀ q : Nat, s.heap.size ≤ q → z_A (shX, ad, IX, JX, PX ad) s.heap.size q := fun q h => Or.inr h
  generalize hAe : z_A (shX, ad, IX, JX, PX ad) s.heap.size = A at *
  have hS : va_S A s.heap s.heap [] := va_S.rf
  have hl : lv_has ls 4 [(0, .ref (ad 0)), (1, .int a1), (2, .int a2)] := hl
  refine lv_aload_n hx hb dX11_dealOut_0 rfl (lv_at hl 0 rfl) ?_
  refine z_get (T := TX11) (N := 13) (ci := 11) (i := 0) (v := .ref (ad 72)) hx hb hts zi_X11_dealOut_X11 hown hK hW rfl rfl 12 (by decide) (hts (.fieldLink RX11 75 "PetrolBoard" "deal" "LPetrolBoard$Deal;") (List.mem_of_getElem? (i := 1) rfl)) (fun _ h => h) rfl dX11_dealOut_1 ?_
  refine z_cv hW hS hA (va_runV (As := []) (rest := []) ⟨hx, hb, hml, hown, hts⟩ (ct_X1_clear l G ad  _) (cwV 0 hts gX11_dealOut_X1_clear rfl rfl rfl (by decide +kernel) ⟨Nat.le_of_ble_eq_true rfl, Nat.le_of_ble_eq_true rfl⟩) (z_preV hK hW rfl rfl) rfl rfl hl.1 rfl (lv_room (Nat.le_of_ble_eq_true rfl)) dX11_dealOut_4 ⟨Nat.le_of_ble_eq_true rfl, Nat.le_of_ble_eq_true rfl⟩) (fun u1 H locs hp hW hS => ?_)
  rw [hp] at hW
  refine lv_iconst (v := 0) hx hb dX11_dealOut_7 (by decide) ?_
  refine lv_istore_n (lv' := [(3, .int 0), (0, .ref (ad 0)), (1, .int a1), (2, .int a2)]) hx hb dX11_dealOut_8 rfl hl (by decide) rfl (fun ls hl => ?_)
  refine lv_iload_n hx hb dX11_dealOut_9 rfl (lv_at hl 0 rfl) ?_
  refine lv_aload_n hx hb dX11_dealOut_10 rfl (lv_at hl 1 rfl) ?_
  refine z_get (T := TX11) (N := 13) (ci := 11) (i := 0) (v := .ref (ad 1)) hx hb hts zi_X11_dealOut_X11 hown hK hW rfl rfl 2 (by decide) (hts (.fieldLink RX11 16 "PetrolBoard" "holders" "LPetrolBoard$Holders;") (List.mem_of_getElem? (i := 2) rfl)) (fun _ h => h) rfl dX11_dealOut_11 ?_
  refine z_get (T := TX2) (N := 12) (ci := 2) (i := 1) (v := .int 0) hx hb hts zi_X11_dealOut_X2 hown hK hW rfl rfl 5 (by decide) (hts (.fieldLink RX11 373 "PetrolBoard$Holders" "number" "I") (List.mem_of_getElem? (i := 3) rfl)) (fun _ h => h) rfl dX11_dealOut_14 ?_
  refine lv_icmp_ge (tgt := 50) hx hb dX11_dealOut_17 (by decide) (fun c1 => ?_) (fun c1 => absurd (by decide) c1)
  refine lv_iload_n hx hb dX11_dealOut_50 rfl (lv_at hl 2 rfl) ?_
  refine lv_iconst (v := 1) hx hb dX11_dealOut_51 (by decide) ?_
  refine lv_icmp_ne (tgt := 65) hx hb dX11_dealOut_52 (by decide) (fun c2 => ?_) (fun c2 => ?_)
  · refine lv_iload_n hx hb dX11_dealOut_65 rfl (lv_at hl 2 rfl) ?_
    refine lv_iconst (v := 2) hx hb dX11_dealOut_66 (by decide) ?_
    refine lv_icmp_ne (tgt := 81) hx hb dX11_dealOut_67 (by decide) (fun c3 => ?_) (fun c3 => ?_)
    · exact z_vret hx hb hr hK hS (Nat.le_of_ble_eq_true rfl) (Nat.le_of_ble_eq_true rfl) hlocks dX11_dealOut_81 (shX, ad, IX, JX, PX ad) hW rfl
    · refine lv_aload_n hx hb dX11_dealOut_70 rfl (lv_at hl 1 rfl) ?_
      refine z_get (T := TX11) (N := 13) (ci := 11) (i := 0) (v := .ref (ad 72)) hx hb hts zi_X11_dealOut_X11 hown hK hW rfl rfl 12 (by decide) (hts (.fieldLink RX11 75 "PetrolBoard" "deal" "LPetrolBoard$Deal;") (List.mem_of_getElem? (i := 1) rfl)) (fun _ h => h) rfl dX11_dealOut_71 ?_
      refine lv_aload_n hx hb dX11_dealOut_74 rfl (lv_at hl 1 rfl) ?_
      refine z_get (T := TX11) (N := 13) (ci := 11) (i := 0) (v := .ref (ad 1)) hx hb hts zi_X11_dealOut_X11 hown hK hW rfl rfl 2 (by decide) (hts (.fieldLink RX11 16 "PetrolBoard" "holders" "LPetrolBoard$Holders;") (List.mem_of_getElem? (i := 2) rfl)) (fun _ h => h) rfl dX11_dealOut_75 ?_
      refine z_cv hW hS hA (va_runV (As := [.ref (ad 1)]) (rest := []) ⟨hx, hb, hml, hown, hts⟩ (ct_X1_sell l G ad  _) (cwV 1 hts gX11_dealOut_X1_sell rfl rfl rfl (by decide +kernel) ⟨Nat.le_of_ble_eq_true rfl, Nat.le_of_ble_eq_true rfl⟩) (z_preV hK hW rfl rfl) rfl rfl hl.1 rfl (lv_room (Nat.le_of_ble_eq_true rfl)) dX11_dealOut_78 ⟨Nat.le_of_ble_eq_true rfl, Nat.le_of_ble_eq_true rfl⟩) (fun u1 H locs hp hW hS => ?_)
      rw [hp] at hW
      exact z_vret hx hb hr hK hS (Nat.le_of_ble_eq_true rfl) (Nat.le_of_ble_eq_true rfl) hlocks dX11_dealOut_81 (shX, ad, IX, JX, PX ad) hW rfl
  · refine lv_aload_n hx hb dX11_dealOut_55 rfl (lv_at hl 1 rfl) ?_
    refine z_get (T := TX11) (N := 13) (ci := 11) (i := 0) (v := .ref (ad 72)) hx hb hts zi_X11_dealOut_X11 hown hK hW rfl rfl 12 (by decide) (hts (.fieldLink RX11 75 "PetrolBoard" "deal" "LPetrolBoard$Deal;") (List.mem_of_getElem? (i := 1) rfl)) (fun _ h => h) rfl dX11_dealOut_56 ?_
    refine z_cv hW hS hA (va_runV (As := []) (rest := []) ⟨hx, hb, hml, hown, hts⟩ (ct_X1_alike l G ad  _) (cwV 0 hts gX11_dealOut_X1_alike rfl rfl rfl (by decide +kernel) ⟨Nat.le_of_ble_eq_true rfl, Nat.le_of_ble_eq_true rfl⟩) (z_preV hK hW rfl rfl) rfl rfl hl.1 rfl (lv_room (Nat.le_of_ble_eq_true rfl)) dX11_dealOut_59 ⟨Nat.le_of_ble_eq_true rfl, Nat.le_of_ble_eq_true rfl⟩) (fun u1 H locs hp hW hS => ?_)
    rw [hp] at hW
    refine lv_goto (tgt := 81) hx hb dX11_dealOut_62 (by decide) ?_
    exact z_vret hx hb hr hK hS (Nat.le_of_ble_eq_true rfl) (Nat.le_of_ble_eq_true rfl) hlocks dX11_dealOut_81 (shX, ad, IX, JX, PX ad) hW rfl
theorem zi_X11_stays_X2 : ∀ w ∈ wsX20, w ∈ wsX11_stays := fun w h => (List.mem_cons_of_mem _ (List.mem_append_left _ (List.mem_append_left _ (List.mem_append_left _ (List.mem_append_left _ (List.mem_append_right _ h))))))
theorem zi_X11_stays_X11 : ∀ w ∈ wsX110, w ∈ wsX11_stays := fun w h => (List.mem_cons_of_mem _ (List.mem_append_left _ (List.mem_append_left _ (List.mem_append_left _ (List.mem_append_left _ (List.mem_append_left _ (List.mem_append_right _ h)))))))
set_option maxHeartbeats 4000000 in
set_option maxRecDepth 100000 in
theorem ct_X11_stays (l : Launch) (G : z_G) (ad : Nat → Nat) (a1 : Int32) (a2 : Int32) : z_M l yX11_stays wsX11_stays { frames := 4, cells := 0, slots := 0, locals := 87 } [.ref (ad 0), .int a1, .int a2] G (shX, ad, IX, JX, PX ad) (fun r u1 => r = fr_stays a1 a2) 0 0 := by
  intro sz
  refine z_headQ (cc := cX11_stays) (maxL := 5) (ret := (some .int)) (by decide) rfl (Nat.le_of_ble_eq_true rfl) ?_
  intro p e s m below meth c ls hIn hK hsz hW hl
  obtain ⟨hx, hb, hr, hml, hown, hts, hlocks, hname⟩ := hIn
  subst hsz
  have hown : s.vm.findClass RX11 = some m.cls := hown
  have hA : ∀ q : Nat, s.heap.size ≤ q → z_A (shX, ad, IX, JX, PX ad) s.heap.size q := fun q h => Or.inr h
  generalize hAe : z_A (shX, ad, IX, JX, PX ad) s.heap.size = A at *
  have hS : va_S A s.heap s.heap [] := va_S.rf
  have hl : lv_has ls 5 [(0, .ref (ad 0)), (1, .int a1), (2, .int a2)] := hl
  refine lv_iload_n hx hb dX11_stays_0 rfl (lv_at hl 1 rfl) ?_
  refine lv_iconst (v := 0) hx hb dX11_stays_1 (by decide) ?_
  refine lv_iconst (v := 2) hx hb dX11_stays_2 (by decide) ?_
  refine z_ci hW hS hA (va_runS (As := [.int a1, .int 0, .int 2]) (rest := []) ⟨hx, hb, hml, hown, hts⟩ (ct_X11_within l G (shX, ad, IX, JX, PX ad) a1 0 2 _) (va_cwS 3 hts gX11_stays_X11_within rfl rfl rfl (by decide +kernel) ⟨Nat.le_of_ble_eq_true rfl, Nat.le_of_ble_eq_true rfl⟩) (z_preS hK hW) rfl rfl hl.1 rfl (lv_room (Nat.le_of_ble_eq_true rfl)) dX11_stays_3 ⟨Nat.le_of_ble_eq_true rfl, Nat.le_of_ble_eq_true rfl⟩) (fun r u1 H locs hp hW hS => ?_)
  obtain ⟨e9, hp⟩ := hp
  rw [e9] at hW
  rcases hp with ⟨rfl, h1, h2⟩ | ⟨rfl, h3⟩
  · refine lv_if_eq (tgt := 16) hx hb dX11_stays_6 (by decide) (fun c4 => absurd c4 (by decide)) (fun c4 => ?_)
    refine lv_iload_n hx hb dX11_stays_9 rfl (lv_at hl 2 rfl) ?_
    refine z_ci hW hS hA (va_runS (As := [.int a2]) (rest := []) ⟨hx, hb, hml, hown, hts⟩ (ct_X11_isMonth l G (shX, ad, IX, JX, PX ad) a2 _) (va_cwS 1 hts gX11_stays_X11_isMonth rfl rfl rfl (by decide +kernel) ⟨Nat.le_of_ble_eq_true rfl, Nat.le_of_ble_eq_true rfl⟩) (z_preS hK hW) rfl rfl hl.1 rfl (lv_room (Nat.le_of_ble_eq_true rfl)) dX11_stays_10 ⟨Nat.le_of_ble_eq_true rfl, Nat.le_of_ble_eq_true rfl⟩) (fun r u1 H locs hp hW hS => ?_)
    obtain ⟨e9, hp⟩ := hp
    rw [e9] at hW
    rcases hp with ⟨rfl, h5, h6⟩ | ⟨rfl, h7⟩
    · refine lv_if_ne (tgt := 18) hx hb dX11_stays_13 (by decide) (fun c8 => ?_) (fun c8 => absurd c8 (by decide))
      refine lv_aload_n hx hb dX11_stays_18 rfl (lv_at hl 0 rfl) ?_
      refine lv_iload_n hx hb dX11_stays_19 rfl (lv_at hl 1 rfl) ?_
      refine lv_iload_n hx hb dX11_stays_20 rfl (lv_at hl 2 rfl) ?_
      refine z_cv hW hS hA (va_runV (As := [.int a1, .int a2]) (rest := []) ⟨hx, hb, hml, hown, hts⟩ (ct_X11_dealOut l G ad a1 a2 _) (cwV 2 hts gX11_stays_X11_dealOut rfl rfl rfl (by decide +kernel) ⟨Nat.le_of_ble_eq_true rfl, Nat.le_of_ble_eq_true rfl⟩) (z_preV hK hW rfl rfl) rfl rfl hl.1 rfl (lv_room (Nat.le_of_ble_eq_true rfl)) dX11_stays_21 ⟨Nat.le_of_ble_eq_true rfl, Nat.le_of_ble_eq_true rfl⟩) (fun u1 H locs hp hW hS => ?_)
      rw [hp] at hW
      refine lv_iconst (v := 0) hx hb dX11_stays_24 (by decide) ?_
      refine lv_istore_n (lv' := [(3, .int 0), (0, .ref (ad 0)), (1, .int a1), (2, .int a2)]) hx hb dX11_stays_25 rfl hl (by decide) rfl (fun ls hl => ?_)
      refine lv_iconst (v := 0) hx hb dX11_stays_26 (by decide) ?_
      refine lv_istore (lv' := [(4, .int 0), (3, .int 0), (0, .ref (ad 0)), (1, .int a1), (2, .int a2)]) hx hb dX11_stays_27 hl (by decide) rfl (fun ls hl => ?_)
      refine lv_iload hx hb dX11_stays_29 (lv_at hl 0 rfl) ?_
      refine lv_aload_n hx hb dX11_stays_31 rfl (lv_at hl 2 rfl) ?_
      refine z_get (T := TX11) (N := 13) (ci := 11) (i := 0) (v := .ref (ad 1)) hx hb hts zi_X11_stays_X11 hown hK hW rfl rfl 2 (by decide) (hts (.fieldLink RX11 16 "PetrolBoard" "holders" "LPetrolBoard$Holders;") (List.mem_of_getElem? (i := 1) rfl)) (fun _ h => h) rfl dX11_stays_32 ?_
      refine z_get (T := TX2) (N := 12) (ci := 2) (i := 1) (v := .int 0) hx hb hts zi_X11_stays_X2 hown hK hW rfl rfl 5 (by decide) (hts (.fieldLink RX11 373 "PetrolBoard$Holders" "number" "I") (List.mem_of_getElem? (i := 2) rfl)) (fun _ h => h) rfl dX11_stays_35 ?_
      refine lv_icmp_ge (tgt := 64) hx hb dX11_stays_38 (by decide) (fun c9 => ?_) (fun c9 => absurd (by decide) c9)
      refine lv_iload_n hx hb dX11_stays_64 rfl (lv_at hl 1 rfl) ?_
      exact z_iret hx hb hr hK hS (Nat.le_of_ble_eq_true rfl) (Nat.le_of_ble_eq_true rfl) hlocks dX11_stays_65 (shX, ad, IX, JX, PX ad) hW (by unfold fr_stays; split <;> first | rfl | decide | (rename_i q; exfalso; simp only [Int32.lt_iff_toInt_lt, Int32.le_iff_toInt_le, ← Int32.toInt_inj, z_l0, z_l1, z_l2, z_l23, true_and, and_true] at q h1 h2 h5 h6; omega))
    · refine lv_if_ne (tgt := 18) hx hb dX11_stays_13 (by decide) (fun c10 => absurd (by decide) c10) (fun c10 => ?_)
      refine lv_iconst (v := (-1)) hx hb dX11_stays_16 (by decide) ?_
      exact z_iret hx hb hr hK hS (Nat.le_of_ble_eq_true rfl) (Nat.le_of_ble_eq_true rfl) hlocks dX11_stays_17 (shX, ad, IX, JX, PX ad) hW (by unfold fr_stays; split <;> first | rfl | decide | (rename_i q; exfalso; simp only [Int32.lt_iff_toInt_lt, Int32.le_iff_toInt_le, ← Int32.toInt_inj, z_l0, z_l1, z_l2, z_l23, true_and, and_true] at q h1 h2 h7; omega))
  · refine lv_if_eq (tgt := 16) hx hb dX11_stays_6 (by decide) (fun c11 => ?_) (fun c11 => absurd (by decide) c11)
    refine lv_iconst (v := (-1)) hx hb dX11_stays_16 (by decide) ?_
    exact z_iret hx hb hr hK hS (Nat.le_of_ble_eq_true rfl) (Nat.le_of_ble_eq_true rfl) hlocks dX11_stays_17 (shX, ad, IX, JX, PX ad) hW (by unfold fr_stays; split <;> first | rfl | decide | (rename_i q; exfalso; simp only [Int32.lt_iff_toInt_lt, Int32.le_iff_toInt_le, ← Int32.toInt_inj, z_l0, z_l1, z_l2, z_l23, true_and, and_true] at q h3; omega))
theorem zi_X4_inPorts_X4 : ∀ w ∈ wsX40, w ∈ wsX4_inPorts := fun w h => (List.mem_cons_of_mem _ (List.mem_append_right _ h))
set_option maxHeartbeats 4000000 in
set_option maxRecDepth 100000 in
theorem ct_X4_inPorts (l : Launch) (G : z_G) (ad : Nat → Nat) : z_M l yX4_inPorts wsX4_inPorts { frames := 1, cells := 0, slots := 0, locals := 12 } [.ref (ad 41)] G (shX, ad, IX, JX, PX ad) (fun r u1 => u1 = (shX, ad, IX, JX, PX ad) ∧ r = 0) 0 0 := by
  intro sz
  refine z_headQ (cc := cX4_inPorts) (maxL := 3) (ret := (some .int)) (by decide) rfl (Nat.le_of_ble_eq_true rfl) ?_
  intro p e s m below meth c ls hIn hK hsz hW hl
  obtain ⟨hx, hb, hr, hml, hown, hts, hlocks, hname⟩ := hIn
  subst hsz
  have hown : s.vm.findClass RX4 = some m.cls := hown
  have hA : ∀ q : Nat, s.heap.size ≤ q → z_A (shX, ad, IX, JX, PX ad) s.heap.size q := fun q h => Or.inr h
  generalize hAe : z_A (shX, ad, IX, JX, PX ad) s.heap.size = A at *
  have hS : va_S A s.heap s.heap [] := va_S.rf
  have hl : lv_has ls 3 [(0, .ref (ad 41))] := hl
  refine lv_iconst (v := 0) hx hb dX4_inPorts_0 (by decide) ?_
  refine lv_istore_n (lv' := [(1, .int 0), (0, .ref (ad 41))]) hx hb dX4_inPorts_1 rfl hl (by decide) rfl (fun ls hl => ?_)
  refine lv_iconst (v := 0) hx hb dX4_inPorts_2 (by decide) ?_
  refine lv_istore_n (lv' := [(2, .int 0), (1, .int 0), (0, .ref (ad 41))]) hx hb dX4_inPorts_3 rfl hl (by decide) rfl (fun ls hl => ?_)
  refine lv_iload_n hx hb dX4_inPorts_4 rfl (lv_at hl 0 rfl) ?_
  refine lv_aload_n hx hb dX4_inPorts_5 rfl (lv_at hl 2 rfl) ?_
  refine z_get (T := TX4) (N := 13) (ci := 4) (i := 41) (v := .int 0) hx hb hts zi_X4_inPorts_X4 hown hK hW rfl rfl 10 (by decide) (hts (.fieldLink RX4 44 "PetrolBoard$Loads" "ports" "I") (List.mem_of_getElem? (i := 1) rfl)) (fun _ h => h) rfl dX4_inPorts_6 ?_
  refine lv_icmp_ge (tgt := 32) hx hb dX4_inPorts_9 (by decide) (fun c1 => ?_) (fun c1 => absurd (by decide) c1)
  refine lv_iload_n hx hb dX4_inPorts_32 rfl (lv_at hl 1 rfl) ?_
  exact z_iret hx hb hr hK hS (Nat.le_of_ble_eq_true rfl) (Nat.le_of_ble_eq_true rfl) hlocks dX4_inPorts_33 (shX, ad, IX, JX, PX ad) hW ⟨rfl, rfl⟩
theorem zi_X11_unitsTogether_X2 : ∀ w ∈ wsX20, w ∈ wsX11_unitsTogether := fun w h => (List.mem_cons_of_mem _ (List.mem_append_left _ (List.mem_append_left _ (List.mem_append_left _ (List.mem_append_right _ h)))))
theorem zi_X11_unitsTogether_X11 : ∀ w ∈ wsX110, w ∈ wsX11_unitsTogether := fun w h => (List.mem_cons_of_mem _ (List.mem_append_left _ (List.mem_append_left _ (List.mem_append_left _ (List.mem_append_left _ (List.mem_append_right _ h))))))
set_option maxHeartbeats 4000000 in
set_option maxRecDepth 100000 in
theorem ct_X11_unitsTogether (l : Launch) (G : z_G) (ad : Nat → Nat) (a1 : Int32) (a2 : Int32) : z_M l yX11_unitsTogether wsX11_unitsTogether { frames := 1, cells := 0, slots := 0, locals := 12 } [.ref (ad 0), .int a1, .int a2] G (shX, ad, IX, JX, PX ad) (fun r u1 => u1 = (shX, ad, IX, JX, PX ad) ∧ r = 0) 0 0 := by
  intro sz
  refine z_headQ (cc := cX11_unitsTogether) (maxL := 5) (ret := (some .int)) (by decide) rfl (Nat.le_of_ble_eq_true rfl) ?_
  intro p e s m below meth c ls hIn hK hsz hW hl
  obtain ⟨hx, hb, hr, hml, hown, hts, hlocks, hname⟩ := hIn
  subst hsz
  have hown : s.vm.findClass RX11 = some m.cls := hown
  have hA : ∀ q : Nat, s.heap.size ≤ q → z_A (shX, ad, IX, JX, PX ad) s.heap.size q := fun q h => Or.inr h
  generalize hAe : z_A (shX, ad, IX, JX, PX ad) s.heap.size = A at *
  have hS : va_S A s.heap s.heap [] := va_S.rf
  have hl : lv_has ls 5 [(0, .ref (ad 0)), (1, .int a1), (2, .int a2)] := hl
  refine lv_iconst (v := 0) hx hb dX11_unitsTogether_0 (by decide) ?_
  refine lv_istore_n (lv' := [(3, .int 0), (0, .ref (ad 0)), (1, .int a1), (2, .int a2)]) hx hb dX11_unitsTogether_1 rfl hl (by decide) rfl (fun ls hl => ?_)
  refine lv_iconst (v := 0) hx hb dX11_unitsTogether_2 (by decide) ?_
  refine lv_istore (lv' := [(4, .int 0), (3, .int 0), (0, .ref (ad 0)), (1, .int a1), (2, .int a2)]) hx hb dX11_unitsTogether_3 hl (by decide) rfl (fun ls hl => ?_)
  refine lv_iload hx hb dX11_unitsTogether_5 (lv_at hl 0 rfl) ?_
  refine lv_aload_n hx hb dX11_unitsTogether_7 rfl (lv_at hl 2 rfl) ?_
  refine z_get (T := TX11) (N := 13) (ci := 11) (i := 0) (v := .ref (ad 1)) hx hb hts zi_X11_unitsTogether_X11 hown hK hW rfl rfl 2 (by decide) (hts (.fieldLink RX11 16 "PetrolBoard" "holders" "LPetrolBoard$Holders;") (List.mem_of_getElem? (i := 1) rfl)) (fun _ h => h) rfl dX11_unitsTogether_8 ?_
  refine z_get (T := TX2) (N := 12) (ci := 2) (i := 1) (v := .int 0) hx hb hts zi_X11_unitsTogether_X2 hown hK hW rfl rfl 5 (by decide) (hts (.fieldLink RX11 373 "PetrolBoard$Holders" "number" "I") (List.mem_of_getElem? (i := 2) rfl)) (fun _ h => h) rfl dX11_unitsTogether_11 ?_
  refine lv_icmp_ge (tgt := 68) hx hb dX11_unitsTogether_14 (by decide) (fun c1 => ?_) (fun c1 => absurd (by decide) c1)
  refine lv_iload_n hx hb dX11_unitsTogether_68 rfl (lv_at hl 1 rfl) ?_
  exact z_iret hx hb hr hK hS (Nat.le_of_ble_eq_true rfl) (Nat.le_of_ble_eq_true rfl) hlocks dX11_unitsTogether_69 (shX, ad, IX, JX, PX ad) hW ⟨rfl, rfl⟩
theorem zi_X6_inForce_X6 : ∀ w ∈ wsX60, w ∈ wsX6_inForce := fun w h => (List.mem_cons_of_mem _ (List.mem_append_left _ (List.mem_append_right _ h)))
set_option maxHeartbeats 4000000 in
set_option maxRecDepth 100000 in
theorem ct_X6_inForce (l : Launch) (G : z_G) (ad : Nat → Nat) (a1 : Int32) (a2 : Int32) : z_M l yX6_inForce wsX6_inForce { frames := 1, cells := 0, slots := 0, locals := 12 } [.ref (ad 21), .int a1, .int a2] G (shX, ad, IX, JX, PX ad) (fun r u1 => u1 = (shX, ad, IX, JX, PX ad) ∧ r = -1) 0 0 := by
  intro sz
  refine z_headQ (cc := cX6_inForce) (maxL := 8) (ret := (some .int)) (by decide) rfl (Nat.le_of_ble_eq_true rfl) ?_
  intro p e s m below meth c ls hIn hK hsz hW hl
  obtain ⟨hx, hb, hr, hml, hown, hts, hlocks, hname⟩ := hIn
  subst hsz
  have hown : s.vm.findClass RX6 = some m.cls := hown
  have hA : ∀ q : Nat, s.heap.size ≤ q → z_A (shX, ad, IX, JX, PX ad) s.heap.size q := fun q h => Or.inr h
  generalize hAe : z_A (shX, ad, IX, JX, PX ad) s.heap.size = A at *
  have hS : va_S A s.heap s.heap [] := va_S.rf
  have hl : lv_has ls 8 [(0, .ref (ad 21)), (1, .int a1), (2, .int a2)] := hl
  refine lv_iconst (v := (-1)) hx hb dX6_inForce_0 (by decide) ?_
  refine lv_istore_n (lv' := [(3, .int (-1)), (0, .ref (ad 21)), (1, .int a1), (2, .int a2)]) hx hb dX6_inForce_1 rfl hl (by decide) rfl (fun ls hl => ?_)
  refine lv_iconst (v := (-1)) hx hb dX6_inForce_2 (by decide) ?_
  refine lv_istore (lv' := [(4, .int (-1)), (3, .int (-1)), (0, .ref (ad 21)), (1, .int a1), (2, .int a2)]) hx hb dX6_inForce_3 hl (by decide) rfl (fun ls hl => ?_)
  refine lv_iconst (v := 0) hx hb dX6_inForce_5 (by decide) ?_
  refine lv_istore (lv' := [(5, .int 0), (4, .int (-1)), (3, .int (-1)), (0, .ref (ad 21)), (1, .int a1), (2, .int a2)]) hx hb dX6_inForce_6 hl (by decide) rfl (fun ls hl => ?_)
  refine lv_iload hx hb dX6_inForce_8 (lv_at hl 0 rfl) ?_
  refine lv_aload_n hx hb dX6_inForce_10 rfl (lv_at hl 3 rfl) ?_
  refine z_get (T := TX6) (N := 3) (ci := 6) (i := 21) (v := .int 0) hx hb hts zi_X6_inForce_X6 hown hK hW rfl rfl 2 (by decide) (hts (.fieldLink RX6 24 "PetrolBoard$OrderBook" "number" "I") (List.mem_of_getElem? (i := 1) rfl)) (fun _ h => h) rfl dX6_inForce_11 ?_
  refine lv_icmp_ge (tgt := 97) hx hb dX6_inForce_14 (by decide) (fun c1 => ?_) (fun c1 => absurd (by decide) c1)
  refine lv_iload_n hx hb dX6_inForce_97 rfl (lv_at hl 2 rfl) ?_
  exact z_iret hx hb hr hK hS (Nat.le_of_ble_eq_true rfl) (Nat.le_of_ble_eq_true rfl) hlocks dX6_inForce_98 (shX, ad, IX, JX, PX ad) hW ⟨rfl, rfl⟩
set_option maxHeartbeats 4000000 in
set_option maxRecDepth 100000 in
theorem ct_X6_ordersOf (l : Launch) (G : z_G) (ad : Nat → Nat) (a1 : Int32) (a2 : Int32) : z_Mq l yX6_ordersOf wsX6_ordersOf { frames := 2, cells := 0, slots := 0, locals := 39 } [.ref (ad 21), .int a1, .int a2] G (shX, ad, IX, JX, PX ad) (fun r u1 => u1 = (shX, ad, IX, JX, PX ad) ∧ r = none) 0 0 := by
  intro sz
  refine z_headQ (cc := cX6_ordersOf) (maxL := 4) (ret := (some (.object "PetrolBoard$Orders"))) (by decide) rfl (Nat.le_of_ble_eq_true rfl) ?_
  intro p e s m below meth c ls hIn hK hsz hW hl
  obtain ⟨hx, hb, hr, hml, hown, hts, hlocks, hname⟩ := hIn
  subst hsz
  have hown : s.vm.findClass RX6 = some m.cls := hown
  have hA : ∀ q : Nat, s.heap.size ≤ q → z_A (shX, ad, IX, JX, PX ad) s.heap.size q := fun q h => Or.inr h
  generalize hAe : z_A (shX, ad, IX, JX, PX ad) s.heap.size = A at *
  have hS : va_S A s.heap s.heap [] := va_S.rf
  have hl : lv_has ls 4 [(0, .ref (ad 21)), (1, .int a1), (2, .int a2)] := hl
  refine lv_aload_n hx hb dX6_ordersOf_0 rfl (lv_at hl 0 rfl) ?_
  refine lv_iload_n hx hb dX6_ordersOf_1 rfl (lv_at hl 1 rfl) ?_
  refine lv_iload_n hx hb dX6_ordersOf_2 rfl (lv_at hl 2 rfl) ?_
  refine z_ci hW hS hA (va_runV (As := [.int a1, .int a2]) (rest := []) ⟨hx, hb, hml, hown, hts⟩ (ct_X6_inForce l G ad a1 a2 _) (cwV 2 hts gX6_ordersOf_X6_inForce rfl rfl rfl (by decide +kernel) ⟨Nat.le_of_ble_eq_true rfl, Nat.le_of_ble_eq_true rfl⟩) (z_preV hK hW rfl rfl) rfl rfl hl.1 rfl (lv_room (Nat.le_of_ble_eq_true rfl)) dX6_ordersOf_3 ⟨Nat.le_of_ble_eq_true rfl, Nat.le_of_ble_eq_true rfl⟩) (fun r u1 H locs hp hW hS => ?_)
  obtain ⟨e9, rfl⟩ := hp
  rw [e9] at hW
  refine lv_istore_n (lv' := [(3, .int (-1)), (0, .ref (ad 21)), (1, .int a1), (2, .int a2)]) hx hb dX6_ordersOf_6 rfl hl (by decide) rfl (fun ls hl => ?_)
  refine lv_iload_n hx hb dX6_ordersOf_7 rfl (lv_at hl 0 rfl) ?_
  refine lv_if_lt (tgt := 29) hx hb dX6_ordersOf_8 (by decide) (fun c1 => ?_) (fun c1 => absurd (by decide) c1)
  refine lv_null hx hb dX6_ordersOf_29 ?_
  exact z_nret hx hb hr hK hS (Nat.le_of_ble_eq_true rfl) (Nat.le_of_ble_eq_true rfl) hlocks dX6_ordersOf_30 (shX, ad, IX, JX, PX ad) hW ⟨rfl, rfl⟩
