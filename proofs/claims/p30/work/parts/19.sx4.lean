theorem dX1_clear_0 : decode cX1_clear 0 = .ok (.aload_n 0, 1) := z_dd_42 (by decide +kernel)
theorem dX1_clear_1 : decode cX1_clear 1 = .ok (.iconst 0, 1) := z_dd_3 (by decide +kernel)
theorem dX1_clear_2 : decode cX1_clear 2 = .ok (.putfield 18, 3) := z_dd_181 (by decide +kernel)
theorem dX1_clear_5 : decode cX1_clear 5 = .ok (.return_, 1) := z_dd_177 (by decide +kernel)
theorem dX1_put_0 : decode cX1_put 0 = .ok (.aload_n 0, 1) := z_dd_42 (by decide +kernel)
theorem dX1_put_1 : decode cX1_put 1 = .ok (.getfield 18, 3) := z_dd_180 (by decide +kernel)
theorem dX1_put_4 : decode cX1_put 4 = .ok (.aload_n 0, 1) := z_dd_42 (by decide +kernel)
theorem dX1_put_5 : decode cX1_put 5 = .ok (.getfield 9, 3) := z_dd_180 (by decide +kernel)
theorem dX1_put_8 : decode cX1_put 8 = .ok (.arraylength, 1) := z_dd_190 (by decide +kernel)
theorem dX1_put_9 : decode cX1_put 9 = .ok (.if_icmp .ge 23, 3) := z_dd_162 (by decide +kernel)
theorem dX1_put_32 : decode cX1_put 32 = .ok (.return_, 1) := z_dd_177 (by decide +kernel)
theorem dX1_put_12 : decode cX1_put 12 = .ok (.aload_n 0, 1) := z_dd_42 (by decide +kernel)
theorem dX1_put_13 : decode cX1_put 13 = .ok (.getfield 9, 3) := z_dd_180 (by decide +kernel)
theorem dX1_put_16 : decode cX1_put 16 = .ok (.aload_n 0, 1) := z_dd_42 (by decide +kernel)
theorem dX1_put_17 : decode cX1_put 17 = .ok (.getfield 18, 3) := z_dd_180 (by decide +kernel)
theorem dX1_put_20 : decode cX1_put 20 = .ok (.iload_n 1, 1) := z_dd_27 (by decide +kernel)
theorem dX1_put_21 : decode cX1_put 21 = .ok (.iastore, 1) := z_dd_79 (by decide +kernel)
theorem dX1_put_22 : decode cX1_put 22 = .ok (.aload_n 0, 1) := z_dd_42 (by decide +kernel)
theorem dX1_put_23 : decode cX1_put 23 = .ok (.dup, 1) := z_dd_89 (by decide +kernel)
theorem dX1_put_24 : decode cX1_put 24 = .ok (.getfield 18, 3) := z_dd_180 (by decide +kernel)
theorem dX1_put_27 : decode cX1_put 27 = .ok (.iconst 1, 1) := z_dd_4 (by decide +kernel)
theorem dX1_put_28 : decode cX1_put 28 = .ok (.iadd, 1) := z_dd_96 (by decide +kernel)
theorem dX1_put_29 : decode cX1_put 29 = .ok (.putfield 18, 3) := z_dd_181 (by decide +kernel)
theorem dX1_unitsOf_0 : decode cX1_unitsOf 0 = .ok (.iload_n 1, 1) := z_dd_27 (by decide +kernel)
theorem dX1_unitsOf_1 : decode cX1_unitsOf 1 = .ok (.ifCond .lt 29, 3) := z_dd_155 (by decide +kernel)
theorem dX1_unitsOf_30 : decode cX1_unitsOf 30 = .ok (.iconst (-1), 1) := z_dd_2 (by decide +kernel)
theorem dX1_unitsOf_31 : decode cX1_unitsOf 31 = .ok (.ireturn, 1) := z_dd_172 (by decide +kernel)
theorem dX1_unitsOf_4 : decode cX1_unitsOf 4 = .ok (.iload_n 1, 1) := z_dd_27 (by decide +kernel)
theorem dX1_unitsOf_5 : decode cX1_unitsOf 5 = .ok (.aload_n 0, 1) := z_dd_42 (by decide +kernel)
theorem dX1_unitsOf_6 : decode cX1_unitsOf 6 = .ok (.getfield 18, 3) := z_dd_180 (by decide +kernel)
theorem dX1_unitsOf_9 : decode cX1_unitsOf 9 = .ok (.if_icmp .ge 21, 3) := z_dd_162 (by decide +kernel)
theorem dX1_unitsOf_12 : decode cX1_unitsOf 12 = .ok (.iload_n 1, 1) := z_dd_27 (by decide +kernel)
theorem dX1_unitsOf_13 : decode cX1_unitsOf 13 = .ok (.aload_n 0, 1) := z_dd_42 (by decide +kernel)
theorem dX1_unitsOf_14 : decode cX1_unitsOf 14 = .ok (.getfield 9, 3) := z_dd_180 (by decide +kernel)
theorem dX1_unitsOf_17 : decode cX1_unitsOf 17 = .ok (.arraylength, 1) := z_dd_190 (by decide +kernel)
theorem dX1_unitsOf_18 : decode cX1_unitsOf 18 = .ok (.if_icmp .ge 12, 3) := z_dd_162 (by decide +kernel)
theorem dX1_unitsOf_21 : decode cX1_unitsOf 21 = .ok (.aload_n 0, 1) := z_dd_42 (by decide +kernel)
theorem dX1_unitsOf_22 : decode cX1_unitsOf 22 = .ok (.getfield 9, 3) := z_dd_180 (by decide +kernel)
theorem dX1_unitsOf_25 : decode cX1_unitsOf 25 = .ok (.iload_n 1, 1) := z_dd_27 (by decide +kernel)
theorem dX1_unitsOf_26 : decode cX1_unitsOf 26 = .ok (.iaload, 1) := z_dd_46 (by decide +kernel)
theorem dX1_unitsOf_27 : decode cX1_unitsOf 27 = .ok (.goto 4, 3) := z_dd_167 (by decide +kernel)
theorem dX1_together_0 : decode cX1_together 0 = .ok (.iconst 0, 1) := z_dd_3 (by decide +kernel)
theorem dX1_together_1 : decode cX1_together 1 = .ok (.istore_n 1, 1) := z_dd_60 (by decide +kernel)
theorem dX1_together_2 : decode cX1_together 2 = .ok (.iconst 0, 1) := z_dd_3 (by decide +kernel)
theorem dX1_together_3 : decode cX1_together 3 = .ok (.istore_n 2, 1) := z_dd_61 (by decide +kernel)
theorem dX1_together_4 : decode cX1_together 4 = .ok (.iload_n 2, 1) := z_dd_28 (by decide +kernel)
theorem dX1_together_5 : decode cX1_together 5 = .ok (.aload_n 0, 1) := z_dd_42 (by decide +kernel)
theorem dX1_together_6 : decode cX1_together 6 = .ok (.getfield 18, 3) := z_dd_180 (by decide +kernel)
theorem dX1_together_9 : decode cX1_together 9 = .ok (.if_icmp .ge 27, 3) := z_dd_162 (by decide +kernel)
theorem dX1_together_36 : decode cX1_together 36 = .ok (.iload_n 1, 1) := z_dd_27 (by decide +kernel)
theorem dX1_together_37 : decode cX1_together 37 = .ok (.ireturn, 1) := z_dd_172 (by decide +kernel)
theorem dX1_together_12 : decode cX1_together 12 = .ok (.iload_n 2, 1) := z_dd_28 (by decide +kernel)
theorem dX1_together_13 : decode cX1_together 13 = .ok (.aload_n 0, 1) := z_dd_42 (by decide +kernel)
theorem dX1_together_14 : decode cX1_together 14 = .ok (.getfield 9, 3) := z_dd_180 (by decide +kernel)
theorem dX1_together_17 : decode cX1_together 17 = .ok (.arraylength, 1) := z_dd_190 (by decide +kernel)
theorem dX1_together_18 : decode cX1_together 18 = .ok (.if_icmp .ge 18, 3) := z_dd_162 (by decide +kernel)
theorem dX1_together_21 : decode cX1_together 21 = .ok (.iload_n 1, 1) := z_dd_27 (by decide +kernel)
theorem dX1_together_22 : decode cX1_together 22 = .ok (.aload_n 0, 1) := z_dd_42 (by decide +kernel)
theorem dX1_together_23 : decode cX1_together 23 = .ok (.getfield 9, 3) := z_dd_180 (by decide +kernel)
theorem dX1_together_26 : decode cX1_together 26 = .ok (.iload_n 2, 1) := z_dd_28 (by decide +kernel)
theorem dX1_together_27 : decode cX1_together 27 = .ok (.iaload, 1) := z_dd_46 (by decide +kernel)
theorem dX1_together_28 : decode cX1_together 28 = .ok (.iadd, 1) := z_dd_96 (by decide +kernel)
theorem dX1_together_29 : decode cX1_together 29 = .ok (.istore_n 1, 1) := z_dd_60 (by decide +kernel)
theorem dX1_together_30 : decode cX1_together 30 = .ok (.iinc 2 1, 3) := z_dd_132 (by decide +kernel)
theorem dX1_together_33 : decode cX1_together 33 = .ok (.goto (-29), 3) := z_dd_167 (by decide +kernel)
theorem dX1_alike_0 : decode cX1_alike 0 = .ok (.aload_n 0, 1) := z_dd_42 (by decide +kernel)
theorem dX1_alike_1 : decode cX1_alike 1 = .ok (.getfield 18, 3) := z_dd_180 (by decide +kernel)
theorem dX1_alike_4 : decode cX1_alike 4 = .ok (.ifCond .le 15, 3) := z_dd_158 (by decide +kernel)
theorem dX1_alike_19 : decode cX1_alike 19 = .ok (.iconst 0, 1) := z_dd_3 (by decide +kernel)
theorem dX1_alike_20 : decode cX1_alike 20 = .ok (.istore_n 1, 1) := z_dd_60 (by decide +kernel)
theorem dX1_alike_21 : decode cX1_alike 21 = .ok (.iconst 0, 1) := z_dd_3 (by decide +kernel)
theorem dX1_alike_22 : decode cX1_alike 22 = .ok (.istore_n 2, 1) := z_dd_61 (by decide +kernel)
theorem dX1_alike_23 : decode cX1_alike 23 = .ok (.iload_n 2, 1) := z_dd_28 (by decide +kernel)
theorem dX1_alike_24 : decode cX1_alike 24 = .ok (.aload_n 0, 1) := z_dd_42 (by decide +kernel)
theorem dX1_alike_25 : decode cX1_alike 25 = .ok (.getfield 18, 3) := z_dd_180 (by decide +kernel)
theorem dX1_alike_28 : decode cX1_alike 28 = .ok (.if_icmp .ge 25, 3) := z_dd_162 (by decide +kernel)
theorem dX1_alike_53 : decode cX1_alike 53 = .ok (.return_, 1) := z_dd_177 (by decide +kernel)
theorem dX1_alike_31 : decode cX1_alike 31 = .ok (.iload_n 2, 1) := z_dd_28 (by decide +kernel)
theorem dX1_alike_32 : decode cX1_alike 32 = .ok (.aload_n 0, 1) := z_dd_42 (by decide +kernel)
theorem dX1_alike_33 : decode cX1_alike 33 = .ok (.getfield 9, 3) := z_dd_180 (by decide +kernel)
theorem dX1_alike_36 : decode cX1_alike 36 = .ok (.arraylength, 1) := z_dd_190 (by decide +kernel)
theorem dX1_alike_37 : decode cX1_alike 37 = .ok (.if_icmp .ge 16, 3) := z_dd_162 (by decide +kernel)
theorem dX1_alike_40 : decode cX1_alike 40 = .ok (.aload_n 0, 1) := z_dd_42 (by decide +kernel)
theorem dX1_alike_41 : decode cX1_alike 41 = .ok (.getfield 9, 3) := z_dd_180 (by decide +kernel)
theorem dX1_alike_44 : decode cX1_alike 44 = .ok (.iload_n 2, 1) := z_dd_28 (by decide +kernel)
theorem dX1_alike_45 : decode cX1_alike 45 = .ok (.iload_n 1, 1) := z_dd_27 (by decide +kernel)
theorem dX1_alike_46 : decode cX1_alike 46 = .ok (.iastore, 1) := z_dd_79 (by decide +kernel)
theorem dX1_alike_47 : decode cX1_alike 47 = .ok (.iinc 2 1, 3) := z_dd_132 (by decide +kernel)
theorem dX1_alike_50 : decode cX1_alike 50 = .ok (.goto (-27), 3) := z_dd_167 (by decide +kernel)
theorem dX1_alike_7 : decode cX1_alike 7 = .ok (.aload_n 0, 1) := z_dd_42 (by decide +kernel)
set_option maxRecDepth 20000 in
theorem ggX1_alike_X1_together : GoodIn wsX1_alike wsX1_together := goodIn_sub (fa_c (me_s (me_l (List.mem_of_getElem? (i := 6) rfl))) (fa_a (fa_c (me_s (me_l (List.mem_of_getElem? (i := 0) rfl))) (fa_c (me_s (me_l (List.mem_of_getElem? (i := 1) rfl))) fa_n)) (fun w h => (me_s (me_r h))))) (by decide +kernel)
set_option maxRecDepth 20000 in
theorem gX1_alike_X1_together : GoodIn wsX1_alike (wsV RX1 22 RX1 yX1_together wsX1_together) := goodIn_app (goodIn_sub (fa_c (me_s (me_l (List.mem_of_getElem? (i := 2) rfl))) (fa_c (me_s (me_l (List.mem_of_getElem? (i := 3) rfl))) (fa_c (me_s (me_l (List.mem_of_getElem? (i := 4) rfl))) (fa_c (me_s (me_l (List.mem_of_getElem? (i := 5) rfl))) fa_n)))) (by decide +kernel)) ggX1_alike_X1_together
theorem dX1_alike_8 : decode cX1_alike 8 = .ok (.invokevirtual 22, 3) := z_dd_182 (by decide +kernel)
theorem dX1_alike_11 : decode cX1_alike 11 = .ok (.aload_n 0, 1) := z_dd_42 (by decide +kernel)
theorem dX1_alike_12 : decode cX1_alike 12 = .ok (.getfield 18, 3) := z_dd_180 (by decide +kernel)
theorem dX1_alike_15 : decode cX1_alike 15 = .ok (.idiv, 1) := z_dd_108 (by decide +kernel)
theorem dX1_alike_16 : decode cX1_alike 16 = .ok (.goto 4, 3) := z_dd_167 (by decide +kernel)
theorem dX1_bestBidder_0 : decode cX1_bestBidder 0 = .ok (.iconst (-1), 1) := z_dd_2 (by decide +kernel)
theorem dX1_bestBidder_1 : decode cX1_bestBidder 1 = .ok (.istore_n 2, 1) := z_dd_61 (by decide +kernel)
theorem dX1_bestBidder_2 : decode cX1_bestBidder 2 = .ok (.iconst 0, 1) := z_dd_3 (by decide +kernel)
theorem dX1_bestBidder_3 : decode cX1_bestBidder 3 = .ok (.istore_n 3, 1) := z_dd_62 (by decide +kernel)
theorem dX1_bestBidder_4 : decode cX1_bestBidder 4 = .ok (.iload_n 3, 1) := z_dd_29 (by decide +kernel)
theorem dX1_bestBidder_5 : decode cX1_bestBidder 5 = .ok (.aload_n 0, 1) := z_dd_42 (by decide +kernel)
theorem dX1_bestBidder_6 : decode cX1_bestBidder 6 = .ok (.getfield 18, 3) := z_dd_180 (by decide +kernel)
theorem dX1_bestBidder_9 : decode cX1_bestBidder 9 = .ok (.if_icmp .ge 48, 3) := z_dd_162 (by decide +kernel)
theorem dX1_bestBidder_57 : decode cX1_bestBidder 57 = .ok (.iload_n 2, 1) := z_dd_28 (by decide +kernel)
theorem dX1_bestBidder_58 : decode cX1_bestBidder 58 = .ok (.ireturn, 1) := z_dd_172 (by decide +kernel)
theorem dX1_bestBidder_12 : decode cX1_bestBidder 12 = .ok (.aload_n 1, 1) := z_dd_43 (by decide +kernel)
theorem dX1_bestBidder_13 : decode cX1_bestBidder 13 = .ok (.iload_n 3, 1) := z_dd_29 (by decide +kernel)
set_option maxRecDepth 20000 in
theorem ggX1_bestBidder_X2_has : GoodIn wsX1_bestBidder wsX2_has := goodIn_sub (fa_c (me_s (me_l (me_l (List.mem_of_getElem? (i := 7) rfl)))) (fa_a (fa_c (me_s (me_l (me_l (List.mem_of_getElem? (i := 8) rfl)))) fa_n) (fun w h => (me_s (me_r h))))) (by decide +kernel)
set_option maxRecDepth 20000 in
theorem gX1_bestBidder_X2_has : GoodIn wsX1_bestBidder (wsV RX1 47 RX2 yX2_has wsX2_has) := goodIn_app (goodIn_sub (fa_c (me_s (me_l (me_l (List.mem_of_getElem? (i := 3) rfl)))) (fa_c (me_s (me_l (me_l (List.mem_of_getElem? (i := 4) rfl)))) (fa_c (me_s (me_l (me_l (List.mem_of_getElem? (i := 5) rfl)))) (fa_c (me_s (me_l (me_l (List.mem_of_getElem? (i := 6) rfl)))) fa_n)))) (by decide +kernel)) ggX1_bestBidder_X2_has
theorem dX1_bestBidder_14 : decode cX1_bestBidder 14 = .ok (.invokevirtual 47, 3) := z_dd_182 (by decide +kernel)
theorem dX1_bestBidder_17 : decode cX1_bestBidder 17 = .ok (.ifCond .eq 40, 3) := z_dd_153 (by decide +kernel)
theorem dX1_bestBidder_20 : decode cX1_bestBidder 20 = .ok (.aload_n 0, 1) := z_dd_42 (by decide +kernel)
theorem dX1_bestBidder_21 : decode cX1_bestBidder 21 = .ok (.getfield 15, 3) := z_dd_180 (by decide +kernel)
theorem dX1_bestBidder_24 : decode cX1_bestBidder 24 = .ok (.iload_n 3, 1) := z_dd_29 (by decide +kernel)
theorem dX1_bestBidder_25 : decode cX1_bestBidder 25 = .ok (.iaload, 1) := z_dd_46 (by decide +kernel)
theorem dX1_bestBidder_26 : decode cX1_bestBidder 26 = .ok (.ifCond .ne 25, 3) := z_dd_154 (by decide +kernel)
theorem dX1_bestBidder_51 : decode cX1_bestBidder 51 = .ok (.iinc 3 1, 3) := z_dd_132 (by decide +kernel)
theorem dX1_bestBidder_54 : decode cX1_bestBidder 54 = .ok (.goto (-50), 3) := z_dd_167 (by decide +kernel)
theorem dX1_bestBidder_29 : decode cX1_bestBidder 29 = .ok (.iload_n 2, 1) := z_dd_28 (by decide +kernel)
theorem dX1_bestBidder_30 : decode cX1_bestBidder 30 = .ok (.iconst (-1), 1) := z_dd_2 (by decide +kernel)
theorem dX1_bestBidder_31 : decode cX1_bestBidder 31 = .ok (.if_icmp .eq 18, 3) := z_dd_159 (by decide +kernel)
theorem dX1_bestBidder_49 : decode cX1_bestBidder 49 = .ok (.iload_n 3, 1) := z_dd_29 (by decide +kernel)
theorem dX1_bestBidder_50 : decode cX1_bestBidder 50 = .ok (.istore_n 2, 1) := z_dd_61 (by decide +kernel)
theorem dX1_bestBidder_34 : decode cX1_bestBidder 34 = .ok (.aload_n 1, 1) := z_dd_43 (by decide +kernel)
theorem dX1_bestBidder_35 : decode cX1_bestBidder 35 = .ok (.getfield 51, 3) := z_dd_180 (by decide +kernel)
theorem dX1_bestBidder_38 : decode cX1_bestBidder 38 = .ok (.iload_n 3, 1) := z_dd_29 (by decide +kernel)
theorem dX1_bestBidder_39 : decode cX1_bestBidder 39 = .ok (.iaload, 1) := z_dd_46 (by decide +kernel)
theorem dX1_bestBidder_40 : decode cX1_bestBidder 40 = .ok (.aload_n 1, 1) := z_dd_43 (by decide +kernel)
theorem dX1_bestBidder_41 : decode cX1_bestBidder 41 = .ok (.getfield 51, 3) := z_dd_180 (by decide +kernel)
theorem dX1_bestBidder_44 : decode cX1_bestBidder 44 = .ok (.iload_n 2, 1) := z_dd_28 (by decide +kernel)
theorem dX1_bestBidder_45 : decode cX1_bestBidder 45 = .ok (.iaload, 1) := z_dd_46 (by decide +kernel)
theorem dX1_bestBidder_46 : decode cX1_bestBidder 46 = .ok (.if_icmp .le 5, 3) := z_dd_164 (by decide +kernel)
theorem dX1_sell_0 : decode cX1_sell 0 = .ok (.aload_n 0, 1) := z_dd_42 (by decide +kernel)
set_option maxRecDepth 20000 in
theorem ggX1_sell_X1_together : GoodIn wsX1_sell wsX1_together := goodIn_sub (fa_c (me_s (me_l (me_l (me_l (List.mem_of_getElem? (i := 12) rfl))))) (fa_a (fa_c (me_s (me_l (me_l (me_l (List.mem_of_getElem? (i := 1) rfl))))) (fa_c (me_s (me_l (me_l (me_l (List.mem_of_getElem? (i := 2) rfl))))) fa_n)) (fun w h => (me_s (me_l (me_r h)))))) (by decide +kernel)
set_option maxRecDepth 20000 in
theorem gX1_sell_X1_together : GoodIn wsX1_sell (wsV RX1 22 RX1 yX1_together wsX1_together) := goodIn_app (goodIn_sub (fa_c (me_s (me_l (me_l (me_l (List.mem_of_getElem? (i := 8) rfl))))) (fa_c (me_s (me_l (me_l (me_l (List.mem_of_getElem? (i := 9) rfl))))) (fa_c (me_s (me_l (me_l (me_l (List.mem_of_getElem? (i := 10) rfl))))) (fa_c (me_s (me_l (me_l (me_l (List.mem_of_getElem? (i := 11) rfl))))) fa_n)))) (by decide +kernel)) ggX1_sell_X1_together
theorem dX1_sell_1 : decode cX1_sell 1 = .ok (.invokevirtual 22, 3) := z_dd_182 (by decide +kernel)
theorem dX1_sell_4 : decode cX1_sell 4 = .ok (.istore_n 2, 1) := z_dd_61 (by decide +kernel)
theorem dX1_sell_5 : decode cX1_sell 5 = .ok (.aload_n 0, 1) := z_dd_42 (by decide +kernel)
theorem dX1_sell_6 : decode cX1_sell 6 = .ok (.getfield 15, 3) := z_dd_180 (by decide +kernel)
theorem dX1_sell_9 : decode cX1_sell 9 = .ok (.iconst 0, 1) := z_dd_3 (by decide +kernel)
set_option maxRecDepth 20000 in
theorem ggX1_sell_J7_fill_53178 : GoodIn wsX1_sell wsJ7_fill_53178 := goodIn_sub (fa_c (me_s (me_l (me_l (me_l (List.mem_of_getElem? (i := 16) rfl))))) fa_n) (by decide +kernel)
set_option maxRecDepth 20000 in
theorem gX1_sell_J7_fill_53178 : GoodIn wsX1_sell (va_wsS RX1 26 yJ7_fill_53178 wsJ7_fill_53178) := goodIn_app (goodIn_sub (fa_c (me_s (me_l (me_l (me_l (List.mem_of_getElem? (i := 13) rfl))))) (fa_c (me_s (me_l (me_l (me_l (List.mem_of_getElem? (i := 14) rfl))))) (fa_c (me_s (me_l (me_l (me_l (List.mem_of_getElem? (i := 15) rfl))))) fa_n))) (by decide +kernel)) ggX1_sell_J7_fill_53178
theorem dX1_sell_10 : decode cX1_sell 10 = .ok (.invokestatic 26, 3) := z_dd_184 (by decide +kernel)
theorem dX1_sell_13 : decode cX1_sell 13 = .ok (.iconst 0, 1) := z_dd_3 (by decide +kernel)
theorem dX1_sell_14 : decode cX1_sell 14 = .ok (.istore_n 3, 1) := z_dd_62 (by decide +kernel)
theorem dX1_sell_15 : decode cX1_sell 15 = .ok (.iload_n 3, 1) := z_dd_29 (by decide +kernel)
theorem dX1_sell_16 : decode cX1_sell 16 = .ok (.aload_n 0, 1) := z_dd_42 (by decide +kernel)
theorem dX1_sell_17 : decode cX1_sell 17 = .ok (.getfield 18, 3) := z_dd_180 (by decide +kernel)
theorem dX1_sell_20 : decode cX1_sell 20 = .ok (.if_icmp .ge 65, 3) := z_dd_162 (by decide +kernel)
theorem dX1_sell_85 : decode cX1_sell 85 = .ok (.return_, 1) := z_dd_177 (by decide +kernel)
theorem dX1_sell_23 : decode cX1_sell 23 = .ok (.aload_n 0, 1) := z_dd_42 (by decide +kernel)
theorem dX1_sell_24 : decode cX1_sell 24 = .ok (.aload_n 1, 1) := z_dd_43 (by decide +kernel)
set_option maxRecDepth 20000 in
theorem ggX1_sell_X1_bestBidder : GoodIn wsX1_sell wsX1_bestBidder := goodIn_sub (fa_c (me_s (me_l (me_l (me_l (List.mem_of_getElem? (i := 20) rfl))))) (fa_a (fa_a (fa_c (me_s (me_l (me_l (me_l (List.mem_of_getElem? (i := 1) rfl))))) (fa_c (me_s (me_l (me_l (me_l (List.mem_of_getElem? (i := 0) rfl))))) (fa_c (me_s (me_l (me_l (me_l (List.mem_of_getElem? (i := 21) rfl))))) (fa_c (me_s (me_l (me_l (me_l (List.mem_of_getElem? (i := 22) rfl))))) (fa_c (me_s (me_l (me_l (me_l (List.mem_of_getElem? (i := 23) rfl))))) (fa_c (me_s (me_l (me_l (me_r (List.mem_of_getElem? (i := 0) rfl))))) (fa_c (me_s (me_l (me_l (me_r (List.mem_of_getElem? (i := 1) rfl))))) (fa_c (me_s (me_l (me_l (me_r (List.mem_of_getElem? (i := 2) rfl))))) (fa_c (me_s (me_l (me_l (me_r (List.mem_of_getElem? (i := 3) rfl))))) fa_n))))))))) (fun w h => (me_s (me_l (me_r h))))) (fun w h => (me_s (me_r h))))) (by decide +kernel)
set_option maxRecDepth 20000 in
theorem gX1_sell_X1_bestBidder : GoodIn wsX1_sell (wsV RX1 32 RX1 yX1_bestBidder wsX1_bestBidder) := goodIn_app (goodIn_sub (fa_c (me_s (me_l (me_l (me_l (List.mem_of_getElem? (i := 17) rfl))))) (fa_c (me_s (me_l (me_l (me_l (List.mem_of_getElem? (i := 18) rfl))))) (fa_c (me_s (me_l (me_l (me_l (List.mem_of_getElem? (i := 19) rfl))))) (fa_c (me_s (me_l (me_l (me_l (List.mem_of_getElem? (i := 11) rfl))))) fa_n)))) (by decide +kernel)) ggX1_sell_X1_bestBidder
theorem dX1_sell_25 : decode cX1_sell 25 = .ok (.invokevirtual 32, 3) := z_dd_182 (by decide +kernel)
theorem dX1_sell_28 : decode cX1_sell 28 = .ok (.istore 4, 2) := z_dd_54 (by decide +kernel)
theorem dX1_sell_30 : decode cX1_sell 30 = .ok (.iload 4, 2) := z_dd_21 (by decide +kernel)
theorem dX1_sell_32 : decode cX1_sell 32 = .ok (.ifCond .lt 10, 3) := z_dd_155 (by decide +kernel)
theorem dX1_sell_42 : decode cX1_sell 42 = .ok (.return_, 1) := z_dd_177 (by decide +kernel)
theorem dX1_sell_35 : decode cX1_sell 35 = .ok (.iload 4, 2) := z_dd_21 (by decide +kernel)
theorem dX1_sell_37 : decode cX1_sell 37 = .ok (.bipush 30, 2) := z_dd_16 (by decide +kernel)
theorem dX1_sell_39 : decode cX1_sell 39 = .ok (.if_icmp .lt 4, 3) := z_dd_161 (by decide +kernel)
theorem dX1_sell_43 : decode cX1_sell 43 = .ok (.aload_n 0, 1) := z_dd_42 (by decide +kernel)
theorem dX1_sell_44 : decode cX1_sell 44 = .ok (.getfield 15, 3) := z_dd_180 (by decide +kernel)
theorem dX1_sell_47 : decode cX1_sell 47 = .ok (.iload 4, 2) := z_dd_21 (by decide +kernel)
theorem dX1_sell_49 : decode cX1_sell 49 = .ok (.iconst 1, 1) := z_dd_4 (by decide +kernel)
theorem dX1_sell_50 : decode cX1_sell 50 = .ok (.iastore, 1) := z_dd_79 (by decide +kernel)
theorem dX1_sell_51 : decode cX1_sell 51 = .ok (.aload_n 0, 1) := z_dd_42 (by decide +kernel)
theorem dX1_sell_52 : decode cX1_sell 52 = .ok (.getfield 9, 3) := z_dd_180 (by decide +kernel)
theorem dX1_sell_55 : decode cX1_sell 55 = .ok (.iload 4, 2) := z_dd_21 (by decide +kernel)
theorem dX1_sell_57 : decode cX1_sell 57 = .ok (.iload_n 2, 1) := z_dd_28 (by decide +kernel)
theorem dX1_sell_58 : decode cX1_sell 58 = .ok (.aload_n 1, 1) := z_dd_43 (by decide +kernel)
theorem dX1_sell_59 : decode cX1_sell 59 = .ok (.getfield 36, 3) := z_dd_180 (by decide +kernel)
theorem dX1_sell_62 : decode cX1_sell 62 = .ok (.iload 4, 2) := z_dd_21 (by decide +kernel)
theorem dX1_sell_64 : decode cX1_sell 64 = .ok (.iaload, 1) := z_dd_46 (by decide +kernel)
theorem dX1_sell_65 : decode cX1_sell 65 = .ok (.invokestatic 41, 3) := z_dd_184 (by decide +kernel)
theorem dX1_sell_68 : decode cX1_sell 68 = .ok (.iastore, 1) := z_dd_79 (by decide +kernel)
theorem dX1_sell_69 : decode cX1_sell 69 = .ok (.iload_n 2, 1) := z_dd_28 (by decide +kernel)
theorem dX1_sell_70 : decode cX1_sell 70 = .ok (.aload_n 0, 1) := z_dd_42 (by decide +kernel)
theorem dX1_sell_71 : decode cX1_sell 71 = .ok (.getfield 9, 3) := z_dd_180 (by decide +kernel)
theorem dX1_sell_74 : decode cX1_sell 74 = .ok (.iload 4, 2) := z_dd_21 (by decide +kernel)
theorem dX1_sell_76 : decode cX1_sell 76 = .ok (.iaload, 1) := z_dd_46 (by decide +kernel)
theorem dX1_sell_77 : decode cX1_sell 77 = .ok (.isub, 1) := z_dd_100 (by decide +kernel)
theorem dX1_sell_78 : decode cX1_sell 78 = .ok (.istore_n 2, 1) := z_dd_61 (by decide +kernel)
theorem dX1_sell_79 : decode cX1_sell 79 = .ok (.iinc 3 1, 3) := z_dd_132 (by decide +kernel)
theorem dX1_sell_82 : decode cX1_sell 82 = .ok (.goto (-67), 3) := z_dd_167 (by decide +kernel)
theorem dJ6_bitCount_0f7a4_0 : decode cJ6_bitCount_0f7a4 0 = .ok (.iload_n 0, 1) := z_dd_26 (by decide +kernel)
theorem dJ6_bitCount_0f7a4_1 : decode cJ6_bitCount_0f7a4 1 = .ok (.iload_n 0, 1) := z_dd_26 (by decide +kernel)
theorem dJ6_bitCount_0f7a4_2 : decode cJ6_bitCount_0f7a4 2 = .ok (.iconst 1, 1) := z_dd_4 (by decide +kernel)
theorem dJ6_bitCount_0f7a4_3 : decode cJ6_bitCount_0f7a4 3 = .ok (.iushr, 1) := z_dd_124 (by decide +kernel)
theorem dJ6_bitCount_0f7a4_4 : decode cJ6_bitCount_0f7a4 4 = .ok (.ldc_w 265, 3) := z_dd_19 (by decide +kernel)
theorem dJ6_bitCount_0f7a4_7 : decode cJ6_bitCount_0f7a4 7 = .ok (.iand, 1) := z_dd_126 (by decide +kernel)
theorem dJ6_bitCount_0f7a4_8 : decode cJ6_bitCount_0f7a4 8 = .ok (.isub, 1) := z_dd_100 (by decide +kernel)
theorem dJ6_bitCount_0f7a4_9 : decode cJ6_bitCount_0f7a4 9 = .ok (.istore_n 0, 1) := z_dd_59 (by decide +kernel)
theorem dJ6_bitCount_0f7a4_10 : decode cJ6_bitCount_0f7a4 10 = .ok (.iload_n 0, 1) := z_dd_26 (by decide +kernel)
theorem dJ6_bitCount_0f7a4_11 : decode cJ6_bitCount_0f7a4 11 = .ok (.ldc_w 266, 3) := z_dd_19 (by decide +kernel)
theorem dJ6_bitCount_0f7a4_14 : decode cJ6_bitCount_0f7a4 14 = .ok (.iand, 1) := z_dd_126 (by decide +kernel)
theorem dJ6_bitCount_0f7a4_15 : decode cJ6_bitCount_0f7a4 15 = .ok (.iload_n 0, 1) := z_dd_26 (by decide +kernel)
theorem dJ6_bitCount_0f7a4_16 : decode cJ6_bitCount_0f7a4 16 = .ok (.iconst 2, 1) := z_dd_5 (by decide +kernel)
theorem dJ6_bitCount_0f7a4_17 : decode cJ6_bitCount_0f7a4 17 = .ok (.iushr, 1) := z_dd_124 (by decide +kernel)
theorem dJ6_bitCount_0f7a4_18 : decode cJ6_bitCount_0f7a4 18 = .ok (.ldc_w 266, 3) := z_dd_19 (by decide +kernel)
theorem dJ6_bitCount_0f7a4_21 : decode cJ6_bitCount_0f7a4 21 = .ok (.iand, 1) := z_dd_126 (by decide +kernel)
theorem dJ6_bitCount_0f7a4_22 : decode cJ6_bitCount_0f7a4 22 = .ok (.iadd, 1) := z_dd_96 (by decide +kernel)
theorem dJ6_bitCount_0f7a4_23 : decode cJ6_bitCount_0f7a4 23 = .ok (.istore_n 0, 1) := z_dd_59 (by decide +kernel)
theorem dJ6_bitCount_0f7a4_24 : decode cJ6_bitCount_0f7a4 24 = .ok (.iload_n 0, 1) := z_dd_26 (by decide +kernel)
theorem dJ6_bitCount_0f7a4_25 : decode cJ6_bitCount_0f7a4 25 = .ok (.iload_n 0, 1) := z_dd_26 (by decide +kernel)
theorem dJ6_bitCount_0f7a4_26 : decode cJ6_bitCount_0f7a4 26 = .ok (.iconst 4, 1) := z_dd_7 (by decide +kernel)
theorem dJ6_bitCount_0f7a4_27 : decode cJ6_bitCount_0f7a4 27 = .ok (.iushr, 1) := z_dd_124 (by decide +kernel)
theorem dJ6_bitCount_0f7a4_28 : decode cJ6_bitCount_0f7a4 28 = .ok (.iadd, 1) := z_dd_96 (by decide +kernel)
theorem dJ6_bitCount_0f7a4_29 : decode cJ6_bitCount_0f7a4 29 = .ok (.ldc_w 267, 3) := z_dd_19 (by decide +kernel)
theorem dJ6_bitCount_0f7a4_32 : decode cJ6_bitCount_0f7a4 32 = .ok (.iand, 1) := z_dd_126 (by decide +kernel)
theorem dJ6_bitCount_0f7a4_33 : decode cJ6_bitCount_0f7a4 33 = .ok (.istore_n 0, 1) := z_dd_59 (by decide +kernel)
theorem dJ6_bitCount_0f7a4_34 : decode cJ6_bitCount_0f7a4 34 = .ok (.iload_n 0, 1) := z_dd_26 (by decide +kernel)
theorem dJ6_bitCount_0f7a4_35 : decode cJ6_bitCount_0f7a4 35 = .ok (.iload_n 0, 1) := z_dd_26 (by decide +kernel)
theorem dJ6_bitCount_0f7a4_36 : decode cJ6_bitCount_0f7a4 36 = .ok (.bipush 8, 2) := z_dd_16 (by decide +kernel)
theorem dJ6_bitCount_0f7a4_38 : decode cJ6_bitCount_0f7a4 38 = .ok (.iushr, 1) := z_dd_124 (by decide +kernel)
theorem dJ6_bitCount_0f7a4_39 : decode cJ6_bitCount_0f7a4 39 = .ok (.iadd, 1) := z_dd_96 (by decide +kernel)
theorem dJ6_bitCount_0f7a4_40 : decode cJ6_bitCount_0f7a4 40 = .ok (.istore_n 0, 1) := z_dd_59 (by decide +kernel)
theorem dJ6_bitCount_0f7a4_41 : decode cJ6_bitCount_0f7a4 41 = .ok (.iload_n 0, 1) := z_dd_26 (by decide +kernel)
theorem dJ6_bitCount_0f7a4_42 : decode cJ6_bitCount_0f7a4 42 = .ok (.iload_n 0, 1) := z_dd_26 (by decide +kernel)
theorem dJ6_bitCount_0f7a4_43 : decode cJ6_bitCount_0f7a4 43 = .ok (.bipush 16, 2) := z_dd_16 (by decide +kernel)
theorem dJ6_bitCount_0f7a4_45 : decode cJ6_bitCount_0f7a4 45 = .ok (.iushr, 1) := z_dd_124 (by decide +kernel)
theorem dJ6_bitCount_0f7a4_46 : decode cJ6_bitCount_0f7a4 46 = .ok (.iadd, 1) := z_dd_96 (by decide +kernel)
theorem dJ6_bitCount_0f7a4_47 : decode cJ6_bitCount_0f7a4 47 = .ok (.istore_n 0, 1) := z_dd_59 (by decide +kernel)
theorem dJ6_bitCount_0f7a4_48 : decode cJ6_bitCount_0f7a4 48 = .ok (.iload_n 0, 1) := z_dd_26 (by decide +kernel)
theorem dJ6_bitCount_0f7a4_49 : decode cJ6_bitCount_0f7a4 49 = .ok (.bipush 63, 2) := z_dd_16 (by decide +kernel)
theorem dJ6_bitCount_0f7a4_51 : decode cJ6_bitCount_0f7a4 51 = .ok (.iand, 1) := z_dd_126 (by decide +kernel)
theorem dJ6_bitCount_0f7a4_52 : decode cJ6_bitCount_0f7a4 52 = .ok (.ireturn, 1) := z_dd_172 (by decide +kernel)
theorem dX3_has_12 : decode cX3_has 12 = .ok (.iload_n 1, 1) := z_dd_27 (by decide +kernel)
theorem dX3_has_13 : decode cX3_has 13 = .ok (.bipush 60, 2) := z_dd_16 (by decide +kernel)
theorem dX3_has_15 : decode cX3_has 15 = .ok (.if_icmp .ge 7, 3) := z_dd_162 (by decide +kernel)
theorem dX3_has_18 : decode cX3_has 18 = .ok (.iconst 1, 1) := z_dd_4 (by decide +kernel)
theorem dX3_has_19 : decode cX3_has 19 = .ok (.goto 4, 3) := z_dd_167 (by decide +kernel)
theorem dX3_add_0 : decode cX3_add 0 = .ok (.aload_n 0, 1) := z_dd_42 (by decide +kernel)
theorem dX3_add_1 : decode cX3_add 1 = .ok (.getfield 45, 3) := z_dd_180 (by decide +kernel)
theorem dX3_add_4 : decode cX3_add 4 = .ok (.bipush 60, 2) := z_dd_16 (by decide +kernel)
theorem dX3_add_6 : decode cX3_add 6 = .ok (.if_icmp .lt 5, 3) := z_dd_161 (by decide +kernel)
theorem dX3_add_11 : decode cX3_add 11 = .ok (.aload_n 0, 1) := z_dd_42 (by decide +kernel)
theorem dX3_add_12 : decode cX3_add 12 = .ok (.getfield 9, 3) := z_dd_180 (by decide +kernel)
theorem dX3_add_15 : decode cX3_add 15 = .ok (.aload_n 0, 1) := z_dd_42 (by decide +kernel)
theorem dX3_add_16 : decode cX3_add 16 = .ok (.getfield 45, 3) := z_dd_180 (by decide +kernel)
theorem dX3_add_19 : decode cX3_add 19 = .ok (.iload_n 1, 1) := z_dd_27 (by decide +kernel)
theorem dX3_add_20 : decode cX3_add 20 = .ok (.iastore, 1) := z_dd_79 (by decide +kernel)
theorem dX3_add_21 : decode cX3_add 21 = .ok (.aload_n 0, 1) := z_dd_42 (by decide +kernel)
theorem dX3_add_22 : decode cX3_add 22 = .ok (.getfield 15, 3) := z_dd_180 (by decide +kernel)
theorem dX3_add_25 : decode cX3_add 25 = .ok (.aload_n 0, 1) := z_dd_42 (by decide +kernel)
theorem dX3_add_26 : decode cX3_add 26 = .ok (.getfield 45, 3) := z_dd_180 (by decide +kernel)
theorem dX3_add_29 : decode cX3_add 29 = .ok (.iload_n 2, 1) := z_dd_28 (by decide +kernel)
theorem dX3_add_30 : decode cX3_add 30 = .ok (.iastore, 1) := z_dd_79 (by decide +kernel)
theorem dX3_add_31 : decode cX3_add 31 = .ok (.aload_n 0, 1) := z_dd_42 (by decide +kernel)
theorem dX3_add_32 : decode cX3_add 32 = .ok (.getfield 18, 3) := z_dd_180 (by decide +kernel)
theorem dX3_add_35 : decode cX3_add 35 = .ok (.aload_n 0, 1) := z_dd_42 (by decide +kernel)
theorem dX3_add_36 : decode cX3_add 36 = .ok (.getfield 45, 3) := z_dd_180 (by decide +kernel)
theorem dX3_add_39 : decode cX3_add 39 = .ok (.iload_n 3, 1) := z_dd_29 (by decide +kernel)
theorem dX3_add_40 : decode cX3_add 40 = .ok (.iastore, 1) := z_dd_79 (by decide +kernel)
theorem dX3_add_41 : decode cX3_add 41 = .ok (.aload_n 0, 1) := z_dd_42 (by decide +kernel)
theorem dX3_add_42 : decode cX3_add 42 = .ok (.getfield 21, 3) := z_dd_180 (by decide +kernel)
theorem dX3_add_45 : decode cX3_add 45 = .ok (.aload_n 0, 1) := z_dd_42 (by decide +kernel)
theorem dX3_add_46 : decode cX3_add 46 = .ok (.getfield 45, 3) := z_dd_180 (by decide +kernel)
theorem dX3_add_49 : decode cX3_add 49 = .ok (.iload 4, 2) := z_dd_21 (by decide +kernel)
theorem dX3_add_51 : decode cX3_add 51 = .ok (.iastore, 1) := z_dd_79 (by decide +kernel)
theorem dX3_add_52 : decode cX3_add 52 = .ok (.aload_n 0, 1) := z_dd_42 (by decide +kernel)
theorem dX3_add_53 : decode cX3_add 53 = .ok (.getfield 24, 3) := z_dd_180 (by decide +kernel)
theorem dX3_add_56 : decode cX3_add 56 = .ok (.aload_n 0, 1) := z_dd_42 (by decide +kernel)
theorem dX3_add_57 : decode cX3_add 57 = .ok (.getfield 45, 3) := z_dd_180 (by decide +kernel)
theorem dX3_add_60 : decode cX3_add 60 = .ok (.iload 5, 2) := z_dd_21 (by decide +kernel)
theorem dX3_add_62 : decode cX3_add 62 = .ok (.iastore, 1) := z_dd_79 (by decide +kernel)
theorem dX3_add_63 : decode cX3_add 63 = .ok (.aload_n 0, 1) := z_dd_42 (by decide +kernel)
theorem dX3_add_64 : decode cX3_add 64 = .ok (.getfield 27, 3) := z_dd_180 (by decide +kernel)
theorem dX3_add_67 : decode cX3_add 67 = .ok (.aload_n 0, 1) := z_dd_42 (by decide +kernel)
theorem dX3_add_68 : decode cX3_add 68 = .ok (.getfield 45, 3) := z_dd_180 (by decide +kernel)
theorem dX3_add_71 : decode cX3_add 71 = .ok (.iload 6, 2) := z_dd_21 (by decide +kernel)
theorem dX3_add_73 : decode cX3_add 73 = .ok (.iastore, 1) := z_dd_79 (by decide +kernel)
theorem dX3_add_74 : decode cX3_add 74 = .ok (.aload_n 0, 1) := z_dd_42 (by decide +kernel)
theorem dX3_add_75 : decode cX3_add 75 = .ok (.dup, 1) := z_dd_89 (by decide +kernel)
theorem dX3_add_76 : decode cX3_add 76 = .ok (.getfield 45, 3) := z_dd_180 (by decide +kernel)
theorem dX3_add_79 : decode cX3_add 79 = .ok (.iconst 1, 1) := z_dd_4 (by decide +kernel)
theorem dX3_add_80 : decode cX3_add 80 = .ok (.iadd, 1) := z_dd_96 (by decide +kernel)
theorem dX3_add_81 : decode cX3_add 81 = .ok (.putfield 45, 3) := z_dd_181 (by decide +kernel)
theorem dX3_add_84 : decode cX3_add 84 = .ok (.aload_n 0, 1) := z_dd_42 (by decide +kernel)
theorem dX3_add_85 : decode cX3_add 85 = .ok (.getfield 45, 3) := z_dd_180 (by decide +kernel)
theorem dX3_add_88 : decode cX3_add 88 = .ok (.iconst 1, 1) := z_dd_4 (by decide +kernel)
theorem dX3_add_89 : decode cX3_add 89 = .ok (.isub, 1) := z_dd_100 (by decide +kernel)
theorem dX3_add_90 : decode cX3_add 90 = .ok (.ireturn, 1) := z_dd_172 (by decide +kernel)
theorem dX3_add_9 : decode cX3_add 9 = .ok (.iconst (-1), 1) := z_dd_2 (by decide +kernel)
theorem dX3_add_10 : decode cX3_add 10 = .ok (.ireturn, 1) := z_dd_172 (by decide +kernel)
theorem dX3_tell_0 : decode cX3_tell 0 = .ok (.aload_n 0, 1) := z_dd_42 (by decide +kernel)
theorem dX3_tell_1 : decode cX3_tell 1 = .ok (.iload_n 1, 1) := z_dd_27 (by decide +kernel)
set_option maxRecDepth 20000 in
theorem ggX3_tell_X3_has : GoodIn wsX3_tell wsX3_has := goodIn_sub (fa_c (me_s (me_l (List.mem_of_getElem? (i := 12) rfl))) (fa_a (fa_c (me_s (me_l (List.mem_of_getElem? (i := 13) rfl))) fa_n) (fun w h => (me_s (me_r h))))) (by decide +kernel)
set_option maxRecDepth 20000 in
theorem gX3_tell_X3_has : GoodIn wsX3_tell (wsV RX3 49 RX3 yX3_has wsX3_has) := goodIn_app (goodIn_sub (fa_c (me_s (me_l (List.mem_of_getElem? (i := 8) rfl))) (fa_c (me_s (me_l (List.mem_of_getElem? (i := 9) rfl))) (fa_c (me_s (me_l (List.mem_of_getElem? (i := 10) rfl))) (fa_c (me_s (me_l (List.mem_of_getElem? (i := 11) rfl))) fa_n)))) (by decide +kernel)) ggX3_tell_X3_has
theorem dX3_tell_2 : decode cX3_tell 2 = .ok (.invokevirtual 49, 3) := z_dd_182 (by decide +kernel)
theorem dX3_tell_5 : decode cX3_tell 5 = .ok (.ifCond .ne 5, 3) := z_dd_154 (by decide +kernel)
theorem dX3_tell_10 : decode cX3_tell 10 = .ok (.iload_n 2, 1) := z_dd_28 (by decide +kernel)
theorem dX3_tell_11 : decode cX3_tell 11 = .ok (.tableswitch 101 0 7 #[45, 52, 59, 66, 73, 80, 87, 94], 45) := by decide +kernel
theorem dX3_tell_56 : decode cX3_tell 56 = .ok (.aload_n 0, 1) := z_dd_42 (by decide +kernel)
theorem dX3_tell_57 : decode cX3_tell 57 = .ok (.getfield 9, 3) := z_dd_180 (by decide +kernel)
theorem dX3_tell_60 : decode cX3_tell 60 = .ok (.iload_n 1, 1) := z_dd_27 (by decide +kernel)
theorem dX3_tell_61 : decode cX3_tell 61 = .ok (.iaload, 1) := z_dd_46 (by decide +kernel)
theorem dX3_tell_62 : decode cX3_tell 62 = .ok (.ireturn, 1) := z_dd_172 (by decide +kernel)
theorem dX3_tell_63 : decode cX3_tell 63 = .ok (.aload_n 0, 1) := z_dd_42 (by decide +kernel)
theorem dX3_tell_64 : decode cX3_tell 64 = .ok (.getfield 15, 3) := z_dd_180 (by decide +kernel)
theorem dX3_tell_67 : decode cX3_tell 67 = .ok (.iload_n 1, 1) := z_dd_27 (by decide +kernel)
theorem dX3_tell_68 : decode cX3_tell 68 = .ok (.iaload, 1) := z_dd_46 (by decide +kernel)
theorem dX3_tell_69 : decode cX3_tell 69 = .ok (.ireturn, 1) := z_dd_172 (by decide +kernel)
theorem dX3_tell_70 : decode cX3_tell 70 = .ok (.aload_n 0, 1) := z_dd_42 (by decide +kernel)
theorem dX3_tell_71 : decode cX3_tell 71 = .ok (.getfield 18, 3) := z_dd_180 (by decide +kernel)
theorem dX3_tell_74 : decode cX3_tell 74 = .ok (.iload_n 1, 1) := z_dd_27 (by decide +kernel)
theorem dX3_tell_75 : decode cX3_tell 75 = .ok (.iaload, 1) := z_dd_46 (by decide +kernel)
theorem dX3_tell_76 : decode cX3_tell 76 = .ok (.ireturn, 1) := z_dd_172 (by decide +kernel)
theorem dX3_tell_77 : decode cX3_tell 77 = .ok (.aload_n 0, 1) := z_dd_42 (by decide +kernel)
theorem dX3_tell_78 : decode cX3_tell 78 = .ok (.getfield 21, 3) := z_dd_180 (by decide +kernel)
theorem dX3_tell_81 : decode cX3_tell 81 = .ok (.iload_n 1, 1) := z_dd_27 (by decide +kernel)
theorem dX3_tell_82 : decode cX3_tell 82 = .ok (.iaload, 1) := z_dd_46 (by decide +kernel)
theorem dX3_tell_83 : decode cX3_tell 83 = .ok (.ireturn, 1) := z_dd_172 (by decide +kernel)
theorem dX3_tell_84 : decode cX3_tell 84 = .ok (.aload_n 0, 1) := z_dd_42 (by decide +kernel)
theorem dX3_tell_85 : decode cX3_tell 85 = .ok (.getfield 24, 3) := z_dd_180 (by decide +kernel)
theorem dX3_tell_88 : decode cX3_tell 88 = .ok (.iload_n 1, 1) := z_dd_27 (by decide +kernel)
theorem dX3_tell_89 : decode cX3_tell 89 = .ok (.iaload, 1) := z_dd_46 (by decide +kernel)
theorem dX3_tell_90 : decode cX3_tell 90 = .ok (.ireturn, 1) := z_dd_172 (by decide +kernel)
theorem dX3_tell_91 : decode cX3_tell 91 = .ok (.aload_n 0, 1) := z_dd_42 (by decide +kernel)
theorem dX3_tell_92 : decode cX3_tell 92 = .ok (.getfield 27, 3) := z_dd_180 (by decide +kernel)
theorem dX3_tell_95 : decode cX3_tell 95 = .ok (.iload_n 1, 1) := z_dd_27 (by decide +kernel)
theorem dX3_tell_96 : decode cX3_tell 96 = .ok (.iaload, 1) := z_dd_46 (by decide +kernel)
theorem dX3_tell_97 : decode cX3_tell 97 = .ok (.ireturn, 1) := z_dd_172 (by decide +kernel)
theorem dX3_tell_98 : decode cX3_tell 98 = .ok (.aload_n 0, 1) := z_dd_42 (by decide +kernel)
theorem dX3_tell_99 : decode cX3_tell 99 = .ok (.getfield 33, 3) := z_dd_180 (by decide +kernel)
theorem dX3_tell_102 : decode cX3_tell 102 = .ok (.iload_n 1, 1) := z_dd_27 (by decide +kernel)
theorem dX3_tell_103 : decode cX3_tell 103 = .ok (.iaload, 1) := z_dd_46 (by decide +kernel)
theorem dX3_tell_104 : decode cX3_tell 104 = .ok (.ireturn, 1) := z_dd_172 (by decide +kernel)
theorem dX3_tell_105 : decode cX3_tell 105 = .ok (.aload_n 0, 1) := z_dd_42 (by decide +kernel)
theorem dX3_tell_106 : decode cX3_tell 106 = .ok (.getfield 36, 3) := z_dd_180 (by decide +kernel)
theorem dX3_tell_109 : decode cX3_tell 109 = .ok (.iload_n 1, 1) := z_dd_27 (by decide +kernel)
theorem dX3_tell_110 : decode cX3_tell 110 = .ok (.iaload, 1) := z_dd_46 (by decide +kernel)
theorem dX3_tell_111 : decode cX3_tell 111 = .ok (.ireturn, 1) := z_dd_172 (by decide +kernel)
theorem dX3_tell_112 : decode cX3_tell 112 = .ok (.iconst (-1), 1) := z_dd_2 (by decide +kernel)
theorem dX3_tell_113 : decode cX3_tell 113 = .ok (.ireturn, 1) := z_dd_172 (by decide +kernel)
theorem dX3_tell_8 : decode cX3_tell 8 = .ok (.iconst (-1), 1) := z_dd_2 (by decide +kernel)
theorem dX3_tell_9 : decode cX3_tell 9 = .ok (.ireturn, 1) := z_dd_172 (by decide +kernel)
theorem dX3_isLike_0 : decode cX3_isLike 0 = .ok (.aload_n 0, 1) := z_dd_42 (by decide +kernel)
theorem dX3_isLike_1 : decode cX3_isLike 1 = .ok (.iload_n 2, 1) := z_dd_28 (by decide +kernel)
set_option maxRecDepth 20000 in
theorem ggX3_isLike_X3_has : GoodIn wsX3_isLike wsX3_has := goodIn_sub (fa_c (me_s (me_l (me_l (me_l (List.mem_of_getElem? (i := 14) rfl))))) (fa_a (fa_c (me_s (me_l (me_l (me_l (List.mem_of_getElem? (i := 15) rfl))))) fa_n) (fun w h => (me_s (me_l (me_r h)))))) (by decide +kernel)
set_option maxRecDepth 20000 in
theorem gX3_isLike_X3_has : GoodIn wsX3_isLike (wsV RX3 49 RX3 yX3_has wsX3_has) := goodIn_app (goodIn_sub (fa_c (me_s (me_l (me_l (me_l (List.mem_of_getElem? (i := 10) rfl))))) (fa_c (me_s (me_l (me_l (me_l (List.mem_of_getElem? (i := 11) rfl))))) (fa_c (me_s (me_l (me_l (me_l (List.mem_of_getElem? (i := 12) rfl))))) (fa_c (me_s (me_l (me_l (me_l (List.mem_of_getElem? (i := 13) rfl))))) fa_n)))) (by decide +kernel)) ggX3_isLike_X3_has
theorem dX3_isLike_2 : decode cX3_isLike 2 = .ok (.invokevirtual 49, 3) := z_dd_182 (by decide +kernel)
theorem dX3_isLike_5 : decode cX3_isLike 5 = .ok (.ifCond .eq 31, 3) := z_dd_153 (by decide +kernel)
theorem dX3_isLike_8 : decode cX3_isLike 8 = .ok (.aload_n 0, 1) := z_dd_42 (by decide +kernel)
theorem dX3_isLike_9 : decode cX3_isLike 9 = .ok (.iload_n 3, 1) := z_dd_29 (by decide +kernel)
theorem dX3_isLike_10 : decode cX3_isLike 10 = .ok (.invokevirtual 49, 3) := z_dd_182 (by decide +kernel)
theorem dX3_isLike_13 : decode cX3_isLike 13 = .ok (.ifCond .eq 23, 3) := z_dd_153 (by decide +kernel)
theorem dX3_isLike_16 : decode cX3_isLike 16 = .ok (.iload_n 2, 1) := z_dd_28 (by decide +kernel)
theorem dX3_isLike_17 : decode cX3_isLike 17 = .ok (.iload_n 3, 1) := z_dd_29 (by decide +kernel)
theorem dX3_isLike_18 : decode cX3_isLike 18 = .ok (.if_icmp .eq 18, 3) := z_dd_159 (by decide +kernel)
theorem dX3_isLike_36 : decode cX3_isLike 36 = .ok (.iconst 0, 1) := z_dd_3 (by decide +kernel)
theorem dX3_isLike_37 : decode cX3_isLike 37 = .ok (.ireturn, 1) := z_dd_172 (by decide +kernel)
theorem dX3_isLike_21 : decode cX3_isLike 21 = .ok (.aload_n 0, 1) := z_dd_42 (by decide +kernel)
theorem dX3_isLike_22 : decode cX3_isLike 22 = .ok (.getfield 33, 3) := z_dd_180 (by decide +kernel)
theorem dX3_isLike_25 : decode cX3_isLike 25 = .ok (.iload_n 2, 1) := z_dd_28 (by decide +kernel)
theorem dX3_isLike_26 : decode cX3_isLike 26 = .ok (.iaload, 1) := z_dd_46 (by decide +kernel)
theorem dX3_isLike_27 : decode cX3_isLike 27 = .ok (.aload_n 0, 1) := z_dd_42 (by decide +kernel)
theorem dX3_isLike_28 : decode cX3_isLike 28 = .ok (.getfield 33, 3) := z_dd_180 (by decide +kernel)
theorem dX3_isLike_31 : decode cX3_isLike 31 = .ok (.iload_n 3, 1) := z_dd_29 (by decide +kernel)
theorem dX3_isLike_32 : decode cX3_isLike 32 = .ok (.iaload, 1) := z_dd_46 (by decide +kernel)
theorem dX3_isLike_33 : decode cX3_isLike 33 = .ok (.if_icmp .ne 5, 3) := z_dd_160 (by decide +kernel)
theorem dX3_isLike_38 : decode cX3_isLike 38 = .ok (.aload_n 0, 1) := z_dd_42 (by decide +kernel)
theorem dX3_isLike_39 : decode cX3_isLike 39 = .ok (.getfield 21, 3) := z_dd_180 (by decide +kernel)
theorem dX3_isLike_42 : decode cX3_isLike 42 = .ok (.iload_n 2, 1) := z_dd_28 (by decide +kernel)
theorem dX3_isLike_43 : decode cX3_isLike 43 = .ok (.iaload, 1) := z_dd_46 (by decide +kernel)
theorem dX3_isLike_44 : decode cX3_isLike 44 = .ok (.aload_n 0, 1) := z_dd_42 (by decide +kernel)
theorem dX3_isLike_45 : decode cX3_isLike 45 = .ok (.getfield 21, 3) := z_dd_180 (by decide +kernel)
theorem dX3_isLike_48 : decode cX3_isLike 48 = .ok (.iload_n 3, 1) := z_dd_29 (by decide +kernel)
theorem dX3_isLike_49 : decode cX3_isLike 49 = .ok (.iaload, 1) := z_dd_46 (by decide +kernel)
theorem dX3_isLike_50 : decode cX3_isLike 50 = .ok (.if_icmp .ne 18, 3) := z_dd_160 (by decide +kernel)
theorem dX3_isLike_68 : decode cX3_isLike 68 = .ok (.iconst 0, 1) := z_dd_3 (by decide +kernel)
theorem dX3_isLike_69 : decode cX3_isLike 69 = .ok (.ireturn, 1) := z_dd_172 (by decide +kernel)
theorem dX3_isLike_53 : decode cX3_isLike 53 = .ok (.aload_n 0, 1) := z_dd_42 (by decide +kernel)
theorem dX3_isLike_54 : decode cX3_isLike 54 = .ok (.getfield 18, 3) := z_dd_180 (by decide +kernel)
theorem dX3_isLike_57 : decode cX3_isLike 57 = .ok (.iload_n 2, 1) := z_dd_28 (by decide +kernel)
theorem dX3_isLike_58 : decode cX3_isLike 58 = .ok (.iaload, 1) := z_dd_46 (by decide +kernel)
theorem dX3_isLike_59 : decode cX3_isLike 59 = .ok (.aload_n 0, 1) := z_dd_42 (by decide +kernel)
theorem dX3_isLike_60 : decode cX3_isLike 60 = .ok (.getfield 18, 3) := z_dd_180 (by decide +kernel)
theorem dX3_isLike_63 : decode cX3_isLike 63 = .ok (.iload_n 3, 1) := z_dd_29 (by decide +kernel)
theorem dX3_isLike_64 : decode cX3_isLike 64 = .ok (.iaload, 1) := z_dd_46 (by decide +kernel)
theorem dX3_isLike_65 : decode cX3_isLike 65 = .ok (.if_icmp .eq 5, 3) := z_dd_159 (by decide +kernel)
theorem dX3_isLike_70 : decode cX3_isLike 70 = .ok (.aload_n 0, 1) := z_dd_42 (by decide +kernel)
theorem dX3_isLike_71 : decode cX3_isLike 71 = .ok (.getfield 15, 3) := z_dd_180 (by decide +kernel)
theorem dX3_isLike_74 : decode cX3_isLike 74 = .ok (.iload_n 2, 1) := z_dd_28 (by decide +kernel)
theorem dX3_isLike_75 : decode cX3_isLike 75 = .ok (.iaload, 1) := z_dd_46 (by decide +kernel)
theorem dX3_isLike_76 : decode cX3_isLike 76 = .ok (.aload_n 0, 1) := z_dd_42 (by decide +kernel)
theorem dX3_isLike_77 : decode cX3_isLike 77 = .ok (.getfield 15, 3) := z_dd_180 (by decide +kernel)
theorem dX3_isLike_80 : decode cX3_isLike 80 = .ok (.iload_n 3, 1) := z_dd_29 (by decide +kernel)
theorem dX3_isLike_81 : decode cX3_isLike 81 = .ok (.iaload, 1) := z_dd_46 (by decide +kernel)
theorem dX3_isLike_82 : decode cX3_isLike 82 = .ok (.isub, 1) := z_dd_100 (by decide +kernel)
theorem dX3_isLike_83 : decode cX3_isLike 83 = .ok (.invokestatic 57, 3) := z_dd_184 (by decide +kernel)
theorem dX3_isLike_86 : decode cX3_isLike 86 = .ok (.aload_n 0, 1) := z_dd_42 (by decide +kernel)
theorem dX3_isLike_87 : decode cX3_isLike 87 = .ok (.getfield 15, 3) := z_dd_180 (by decide +kernel)
theorem dX3_isLike_90 : decode cX3_isLike 90 = .ok (.iload_n 2, 1) := z_dd_28 (by decide +kernel)
theorem dX3_isLike_91 : decode cX3_isLike 91 = .ok (.iaload, 1) := z_dd_46 (by decide +kernel)
theorem dX3_isLike_92 : decode cX3_isLike 92 = .ok (.bipush 10, 2) := z_dd_16 (by decide +kernel)
theorem dX3_isLike_94 : decode cX3_isLike 94 = .ok (.idiv, 1) := z_dd_108 (by decide +kernel)
theorem dX3_isLike_95 : decode cX3_isLike 95 = .ok (.if_icmp .le 5, 3) := z_dd_164 (by decide +kernel)
theorem dX3_isLike_100 : decode cX3_isLike 100 = .ok (.aload_n 1, 1) := z_dd_43 (by decide +kernel)
theorem dX3_isLike_101 : decode cX3_isLike 101 = .ok (.aload_n 0, 1) := z_dd_42 (by decide +kernel)
theorem dX3_isLike_102 : decode cX3_isLike 102 = .ok (.getfield 9, 3) := z_dd_180 (by decide +kernel)
theorem dX3_isLike_105 : decode cX3_isLike 105 = .ok (.iload_n 2, 1) := z_dd_28 (by decide +kernel)
theorem dX3_isLike_106 : decode cX3_isLike 106 = .ok (.iaload, 1) := z_dd_46 (by decide +kernel)
theorem dX3_isLike_107 : decode cX3_isLike 107 = .ok (.aload_n 0, 1) := z_dd_42 (by decide +kernel)
theorem dX3_isLike_108 : decode cX3_isLike 108 = .ok (.getfield 24, 3) := z_dd_180 (by decide +kernel)
theorem dX3_isLike_111 : decode cX3_isLike 111 = .ok (.iload_n 2, 1) := z_dd_28 (by decide +kernel)
theorem dX3_isLike_112 : decode cX3_isLike 112 = .ok (.iaload, 1) := z_dd_46 (by decide +kernel)
theorem dX3_isLike_113 : decode cX3_isLike 113 = .ok (.iload 4, 2) := z_dd_21 (by decide +kernel)
set_option maxRecDepth 20000 in
theorem ggX3_isLike_X2_kindOn : GoodIn wsX3_isLike wsX2_kindOn := goodIn_sub (fa_c (me_s (me_l (me_l (me_l (List.mem_of_getElem? (i := 20) rfl))))) (fa_a (fa_c (me_s (me_l (me_l (me_l (List.mem_of_getElem? (i := 21) rfl))))) (fa_c (me_s (me_l (me_l (me_l (List.mem_of_getElem? (i := 22) rfl))))) (fa_c (me_s (me_l (me_l (me_l (List.mem_of_getElem? (i := 23) rfl))))) (fa_c (me_s (me_l (me_l (me_r (List.mem_of_getElem? (i := 0) rfl))))) (fa_c (me_s (me_l (me_l (me_r (List.mem_of_getElem? (i := 1) rfl))))) (fa_c (me_s (me_l (me_l (me_r (List.mem_of_getElem? (i := 2) rfl))))) fa_n)))))) (fun w h => (me_s (me_r h))))) (by decide +kernel)
set_option maxRecDepth 20000 in
theorem gX3_isLike_X2_kindOn : GoodIn wsX3_isLike (wsV RX3 63 RX2 yX2_kindOn wsX2_kindOn) := goodIn_app (goodIn_sub (fa_c (me_s (me_l (me_l (me_l (List.mem_of_getElem? (i := 16) rfl))))) (fa_c (me_s (me_l (me_l (me_l (List.mem_of_getElem? (i := 17) rfl))))) (fa_c (me_s (me_l (me_l (me_l (List.mem_of_getElem? (i := 18) rfl))))) (fa_c (me_s (me_l (me_l (me_l (List.mem_of_getElem? (i := 19) rfl))))) fa_n)))) (by decide +kernel)) ggX3_isLike_X2_kindOn
theorem dX3_isLike_115 : decode cX3_isLike 115 = .ok (.invokevirtual 63, 3) := z_dd_182 (by decide +kernel)
theorem dX3_isLike_118 : decode cX3_isLike 118 = .ok (.aload_n 1, 1) := z_dd_43 (by decide +kernel)
theorem dX3_isLike_119 : decode cX3_isLike 119 = .ok (.aload_n 0, 1) := z_dd_42 (by decide +kernel)
theorem dX3_isLike_120 : decode cX3_isLike 120 = .ok (.getfield 9, 3) := z_dd_180 (by decide +kernel)
theorem dX3_isLike_123 : decode cX3_isLike 123 = .ok (.iload_n 3, 1) := z_dd_29 (by decide +kernel)
theorem dX3_isLike_124 : decode cX3_isLike 124 = .ok (.iaload, 1) := z_dd_46 (by decide +kernel)
theorem dX3_isLike_125 : decode cX3_isLike 125 = .ok (.aload_n 0, 1) := z_dd_42 (by decide +kernel)
theorem dX3_isLike_126 : decode cX3_isLike 126 = .ok (.getfield 24, 3) := z_dd_180 (by decide +kernel)
theorem dX3_isLike_129 : decode cX3_isLike 129 = .ok (.iload_n 3, 1) := z_dd_29 (by decide +kernel)
theorem dX3_isLike_130 : decode cX3_isLike 130 = .ok (.iaload, 1) := z_dd_46 (by decide +kernel)
theorem dX3_isLike_131 : decode cX3_isLike 131 = .ok (.iload 4, 2) := z_dd_21 (by decide +kernel)
theorem dX3_isLike_133 : decode cX3_isLike 133 = .ok (.invokevirtual 63, 3) := z_dd_182 (by decide +kernel)
theorem dX3_isLike_136 : decode cX3_isLike 136 = .ok (.if_icmp .ne 7, 3) := z_dd_160 (by decide +kernel)
theorem dX3_isLike_143 : decode cX3_isLike 143 = .ok (.iconst 0, 1) := z_dd_3 (by decide +kernel)
theorem dX3_isLike_144 : decode cX3_isLike 144 = .ok (.ireturn, 1) := z_dd_172 (by decide +kernel)
theorem dX3_isLike_139 : decode cX3_isLike 139 = .ok (.iconst 1, 1) := z_dd_4 (by decide +kernel)
theorem dX3_isLike_140 : decode cX3_isLike 140 = .ok (.goto 4, 3) := z_dd_167 (by decide +kernel)
theorem dX3_isLike_98 : decode cX3_isLike 98 = .ok (.iconst 0, 1) := z_dd_3 (by decide +kernel)
theorem dX3_isLike_99 : decode cX3_isLike 99 = .ok (.ireturn, 1) := z_dd_172 (by decide +kernel)
theorem dX3_likeOf_0 : decode cX3_likeOf 0 = .ok (.iconst 0, 1) := z_dd_3 (by decide +kernel)
theorem dX3_likeOf_1 : decode cX3_likeOf 1 = .ok (.istore 5, 2) := z_dd_54 (by decide +kernel)
theorem dX3_likeOf_3 : decode cX3_likeOf 3 = .ok (.iconst 0, 1) := z_dd_3 (by decide +kernel)
theorem dX3_likeOf_4 : decode cX3_likeOf 4 = .ok (.istore 6, 2) := z_dd_54 (by decide +kernel)
theorem dX3_likeOf_6 : decode cX3_likeOf 6 = .ok (.iload 6, 2) := z_dd_21 (by decide +kernel)
theorem dX3_likeOf_8 : decode cX3_likeOf 8 = .ok (.aload_n 0, 1) := z_dd_42 (by decide +kernel)
theorem dX3_likeOf_9 : decode cX3_likeOf 9 = .ok (.getfield 45, 3) := z_dd_180 (by decide +kernel)
theorem dX3_likeOf_12 : decode cX3_likeOf 12 = .ok (.if_icmp .ge 41, 3) := z_dd_162 (by decide +kernel)
theorem dX3_likeOf_53 : decode cX3_likeOf 53 = .ok (.iconst (-1), 1) := z_dd_2 (by decide +kernel)
theorem dX3_likeOf_54 : decode cX3_likeOf 54 = .ok (.ireturn, 1) := z_dd_172 (by decide +kernel)
theorem dX3_likeOf_15 : decode cX3_likeOf 15 = .ok (.iload 6, 2) := z_dd_21 (by decide +kernel)
theorem dX3_likeOf_17 : decode cX3_likeOf 17 = .ok (.bipush 60, 2) := z_dd_16 (by decide +kernel)
theorem dX3_likeOf_19 : decode cX3_likeOf 19 = .ok (.if_icmp .ge 34, 3) := z_dd_162 (by decide +kernel)
theorem dX3_likeOf_22 : decode cX3_likeOf 22 = .ok (.aload_n 0, 1) := z_dd_42 (by decide +kernel)
theorem dX3_likeOf_23 : decode cX3_likeOf 23 = .ok (.aload_n 1, 1) := z_dd_43 (by decide +kernel)
theorem dX3_likeOf_24 : decode cX3_likeOf 24 = .ok (.iload_n 2, 1) := z_dd_28 (by decide +kernel)
theorem dX3_likeOf_25 : decode cX3_likeOf 25 = .ok (.iload 6, 2) := z_dd_21 (by decide +kernel)
theorem dX3_likeOf_27 : decode cX3_likeOf 27 = .ok (.iload 4, 2) := z_dd_21 (by decide +kernel)
set_option maxRecDepth 20000 in
theorem ggX3_likeOf_X3_isLike : GoodIn wsX3_likeOf wsX3_isLike := goodIn_sub (fa_c (me_s (me_l (me_l (me_l (List.mem_of_getElem? (i := 5) rfl))))) (fa_a (fa_a (fa_a (fa_c (me_s (me_l (me_l (me_l (List.mem_of_getElem? (i := 6) rfl))))) (fa_c (me_s (me_l (me_l (me_l (List.mem_of_getElem? (i := 7) rfl))))) (fa_c (me_s (me_l (me_l (me_l (List.mem_of_getElem? (i := 8) rfl))))) (fa_c (me_s (me_l (me_l (me_l (List.mem_of_getElem? (i := 9) rfl))))) (fa_c (me_s (me_l (me_l (me_l (List.mem_of_getElem? (i := 10) rfl))))) (fa_c (me_s (me_l (me_l (me_l (List.mem_of_getElem? (i := 11) rfl))))) (fa_c (me_s (me_l (me_l (me_l (List.mem_of_getElem? (i := 12) rfl))))) (fa_c (me_s (me_l (me_l (me_l (List.mem_of_getElem? (i := 13) rfl))))) (fa_c (me_s (me_l (me_l (me_l (List.mem_of_getElem? (i := 14) rfl))))) (fa_c (me_s (me_l (me_l (me_l (List.mem_of_getElem? (i := 15) rfl))))) (fa_c (me_s (me_l (me_l (me_l (List.mem_of_getElem? (i := 16) rfl))))) (fa_c (me_s (me_l (me_l (me_l (List.mem_of_getElem? (i := 17) rfl))))) (fa_c (me_s (me_l (me_l (me_l (List.mem_of_getElem? (i := 18) rfl))))) (fa_c (me_s (me_l (me_l (me_l (List.mem_of_getElem? (i := 4) rfl))))) (fa_c (me_s (me_l (me_l (me_l (List.mem_of_getElem? (i := 19) rfl))))) (fa_c (me_s (me_l (me_l (me_l (List.mem_of_getElem? (i := 0) rfl))))) (fa_c (me_s (me_l (me_l (me_l (List.mem_of_getElem? (i := 20) rfl))))) (fa_c (me_s (me_l (me_l (me_l (List.mem_of_getElem? (i := 21) rfl))))) (fa_c (me_s (me_l (me_l (me_l (List.mem_of_getElem? (i := 22) rfl))))) (fa_c (me_s (me_l (me_l (me_l (List.mem_of_getElem? (i := 23) rfl))))) (fa_c (me_s (me_l (me_l (me_r (List.mem_of_getElem? (i := 0) rfl))))) (fa_c (me_s (me_l (me_l (me_r (List.mem_of_getElem? (i := 1) rfl))))) (fa_c (me_s (me_l (me_l (me_r (List.mem_of_getElem? (i := 2) rfl))))) (fa_c (me_s (me_l (me_l (me_r (List.mem_of_getElem? (i := 3) rfl))))) fa_n)))))))))))))))))))))))) (fa_c (me_s (me_l (me_l (me_r (List.mem_of_getElem? (i := 4) rfl))))) (fa_c (me_s (me_l (me_l (me_r (List.mem_of_getElem? (i := 5) rfl))))) (fa_c (me_s (me_l (me_l (me_r (List.mem_of_getElem? (i := 6) rfl))))) fa_n)))) (fun w h => (me_s (me_l (me_r h))))) (fun w h => (me_s (me_r h))))) (by decide +kernel)
set_option maxRecDepth 20000 in
theorem gX3_likeOf_X3_isLike : GoodIn wsX3_likeOf (wsV RX3 53 RX3 yX3_isLike wsX3_isLike) := goodIn_app (goodIn_sub (fa_c (me_s (me_l (me_l (me_l (List.mem_of_getElem? (i := 1) rfl))))) (fa_c (me_s (me_l (me_l (me_l (List.mem_of_getElem? (i := 2) rfl))))) (fa_c (me_s (me_l (me_l (me_l (List.mem_of_getElem? (i := 3) rfl))))) (fa_c (me_s (me_l (me_l (me_l (List.mem_of_getElem? (i := 4) rfl))))) fa_n)))) (by decide +kernel)) ggX3_likeOf_X3_isLike
theorem dX3_likeOf_29 : decode cX3_likeOf 29 = .ok (.invokevirtual 53, 3) := z_dd_182 (by decide +kernel)
theorem dX3_likeOf_32 : decode cX3_likeOf 32 = .ok (.ifCond .eq 15, 3) := z_dd_153 (by decide +kernel)
theorem dX3_likeOf_35 : decode cX3_likeOf 35 = .ok (.iload 5, 2) := z_dd_21 (by decide +kernel)
theorem dX3_likeOf_37 : decode cX3_likeOf 37 = .ok (.iload_n 3, 1) := z_dd_29 (by decide +kernel)
theorem dX3_likeOf_38 : decode cX3_likeOf 38 = .ok (.if_icmp .ne 6, 3) := z_dd_160 (by decide +kernel)
theorem dX3_likeOf_44 : decode cX3_likeOf 44 = .ok (.iinc 5 1, 3) := z_dd_132 (by decide +kernel)
theorem dX3_likeOf_47 : decode cX3_likeOf 47 = .ok (.iinc 6 1, 3) := z_dd_132 (by decide +kernel)
theorem dX3_likeOf_50 : decode cX3_likeOf 50 = .ok (.goto (-44), 3) := z_dd_167 (by decide +kernel)
theorem dX3_likeOf_41 : decode cX3_likeOf 41 = .ok (.iload 6, 2) := z_dd_21 (by decide +kernel)
theorem dX3_likeOf_43 : decode cX3_likeOf 43 = .ok (.ireturn, 1) := z_dd_172 (by decide +kernel)
theorem dX3_gather_0 : decode cX3_gather 0 = .ok (.aload_n 0, 1) := z_dd_42 (by decide +kernel)
theorem dX3_gather_1 : decode cX3_gather 1 = .ok (.iconst 0, 1) := z_dd_3 (by decide +kernel)
theorem dX3_gather_2 : decode cX3_gather 2 = .ok (.putfield 76, 3) := z_dd_181 (by decide +kernel)
theorem dX3_gather_5 : decode cX3_gather 5 = .ok (.aload_n 0, 1) := z_dd_42 (by decide +kernel)
theorem dX3_gather_6 : decode cX3_gather 6 = .ok (.iconst 0, 1) := z_dd_3 (by decide +kernel)
theorem dX3_gather_7 : decode cX3_gather 7 = .ok (.putfield 87, 3) := z_dd_181 (by decide +kernel)
theorem dX3_gather_10 : decode cX3_gather 10 = .ok (.iconst 0, 1) := z_dd_3 (by decide +kernel)
theorem dX3_gather_11 : decode cX3_gather 11 = .ok (.istore 4, 2) := z_dd_54 (by decide +kernel)
theorem dX3_gather_13 : decode cX3_gather 13 = .ok (.iload 4, 2) := z_dd_21 (by decide +kernel)
theorem dX3_gather_15 : decode cX3_gather 15 = .ok (.aload_n 0, 1) := z_dd_42 (by decide +kernel)
theorem dX3_gather_16 : decode cX3_gather 16 = .ok (.getfield 45, 3) := z_dd_180 (by decide +kernel)
theorem dX3_gather_19 : decode cX3_gather 19 = .ok (.if_icmp .ge 137, 3) := z_dd_162 (by decide +kernel)
theorem dX3_gather_156 : decode cX3_gather 156 = .ok (.return_, 1) := z_dd_177 (by decide +kernel)
theorem dX3_gather_22 : decode cX3_gather 22 = .ok (.iload 4, 2) := z_dd_21 (by decide +kernel)
theorem dX3_gather_24 : decode cX3_gather 24 = .ok (.bipush 60, 2) := z_dd_16 (by decide +kernel)
theorem dX3_gather_26 : decode cX3_gather 26 = .ok (.if_icmp .ge 130, 3) := z_dd_162 (by decide +kernel)
theorem dX3_gather_29 : decode cX3_gather 29 = .ok (.aload_n 0, 1) := z_dd_42 (by decide +kernel)
theorem dX3_gather_30 : decode cX3_gather 30 = .ok (.getfield 76, 3) := z_dd_180 (by decide +kernel)
theorem dX3_gather_33 : decode cX3_gather 33 = .ok (.bipush 12, 2) := z_dd_16 (by decide +kernel)
theorem dX3_gather_35 : decode cX3_gather 35 = .ok (.if_icmp .ge 121, 3) := z_dd_162 (by decide +kernel)
theorem dX3_gather_38 : decode cX3_gather 38 = .ok (.aload_n 0, 1) := z_dd_42 (by decide +kernel)
theorem dX3_gather_39 : decode cX3_gather 39 = .ok (.getfield 24, 3) := z_dd_180 (by decide +kernel)
theorem dX3_gather_42 : decode cX3_gather 42 = .ok (.iload 4, 2) := z_dd_21 (by decide +kernel)
theorem dX3_gather_44 : decode cX3_gather 44 = .ok (.iaload, 1) := z_dd_46 (by decide +kernel)
theorem dX3_gather_45 : decode cX3_gather 45 = .ok (.iload_n 2, 1) := z_dd_28 (by decide +kernel)
theorem dX3_gather_46 : decode cX3_gather 46 = .ok (.if_icmp .ne 104, 3) := z_dd_160 (by decide +kernel)
theorem dX3_gather_150 : decode cX3_gather 150 = .ok (.iinc 4 1, 3) := z_dd_132 (by decide +kernel)
theorem dX3_gather_153 : decode cX3_gather 153 = .ok (.goto (-140), 3) := z_dd_167 (by decide +kernel)
theorem dX3_gather_49 : decode cX3_gather 49 = .ok (.aload_n 0, 1) := z_dd_42 (by decide +kernel)
theorem dX3_gather_50 : decode cX3_gather 50 = .ok (.getfield 27, 3) := z_dd_180 (by decide +kernel)
theorem dX3_gather_53 : decode cX3_gather 53 = .ok (.iload 4, 2) := z_dd_21 (by decide +kernel)
theorem dX3_gather_55 : decode cX3_gather 55 = .ok (.iaload, 1) := z_dd_46 (by decide +kernel)
theorem dX3_gather_56 : decode cX3_gather 56 = .ok (.iload_n 3, 1) := z_dd_29 (by decide +kernel)
theorem dX3_gather_57 : decode cX3_gather 57 = .ok (.if_icmp .ne 93, 3) := z_dd_160 (by decide +kernel)
theorem dX3_gather_60 : decode cX3_gather 60 = .ok (.aload_n 1, 1) := z_dd_43 (by decide +kernel)
theorem dX3_gather_61 : decode cX3_gather 61 = .ok (.aload_n 0, 1) := z_dd_42 (by decide +kernel)
theorem dX3_gather_62 : decode cX3_gather 62 = .ok (.getfield 9, 3) := z_dd_180 (by decide +kernel)
theorem dX3_gather_65 : decode cX3_gather 65 = .ok (.iload 4, 2) := z_dd_21 (by decide +kernel)
theorem dX3_gather_67 : decode cX3_gather 67 = .ok (.iaload, 1) := z_dd_46 (by decide +kernel)
set_option maxRecDepth 20000 in
theorem ggX3_gather_X2_has : GoodIn wsX3_gather wsX2_has := goodIn_sub (fa_c (me_s (me_l (me_l (List.mem_of_getElem? (i := 16) rfl)))) (fa_a (fa_c (me_s (me_l (me_l (List.mem_of_getElem? (i := 17) rfl)))) fa_n) (fun w h => (me_s (me_r h))))) (by decide +kernel)
set_option maxRecDepth 20000 in
theorem gX3_gather_X2_has : GoodIn wsX3_gather (wsV RX3 90 RX2 yX2_has wsX2_has) := goodIn_app (goodIn_sub (fa_c (me_s (me_l (me_l (List.mem_of_getElem? (i := 12) rfl)))) (fa_c (me_s (me_l (me_l (List.mem_of_getElem? (i := 13) rfl)))) (fa_c (me_s (me_l (me_l (List.mem_of_getElem? (i := 14) rfl)))) (fa_c (me_s (me_l (me_l (List.mem_of_getElem? (i := 15) rfl)))) fa_n)))) (by decide +kernel)) ggX3_gather_X2_has
theorem dX3_gather_68 : decode cX3_gather 68 = .ok (.invokevirtual 90, 3) := z_dd_182 (by decide +kernel)
theorem dX3_gather_71 : decode cX3_gather 71 = .ok (.ifCond .eq 79, 3) := z_dd_153 (by decide +kernel)
theorem dX3_gather_74 : decode cX3_gather 74 = .ok (.aload_n 0, 1) := z_dd_42 (by decide +kernel)
theorem dX3_gather_75 : decode cX3_gather 75 = .ok (.getfield 39, 3) := z_dd_180 (by decide +kernel)
theorem dX3_gather_78 : decode cX3_gather 78 = .ok (.aload_n 0, 1) := z_dd_42 (by decide +kernel)
theorem dX3_gather_79 : decode cX3_gather 79 = .ok (.getfield 76, 3) := z_dd_180 (by decide +kernel)
theorem dX3_gather_82 : decode cX3_gather 82 = .ok (.aload_n 1, 1) := z_dd_43 (by decide +kernel)
theorem dX3_gather_83 : decode cX3_gather 83 = .ok (.getfield 91, 3) := z_dd_180 (by decide +kernel)
theorem dX3_gather_86 : decode cX3_gather 86 = .ok (.aload_n 0, 1) := z_dd_42 (by decide +kernel)
theorem dX3_gather_87 : decode cX3_gather 87 = .ok (.getfield 9, 3) := z_dd_180 (by decide +kernel)
theorem dX3_gather_90 : decode cX3_gather 90 = .ok (.iload 4, 2) := z_dd_21 (by decide +kernel)
theorem dX3_gather_92 : decode cX3_gather 92 = .ok (.iaload, 1) := z_dd_46 (by decide +kernel)
theorem dX3_gather_93 : decode cX3_gather 93 = .ok (.iaload, 1) := z_dd_46 (by decide +kernel)
theorem dX3_gather_94 : decode cX3_gather 94 = .ok (.iastore, 1) := z_dd_79 (by decide +kernel)
theorem dX3_gather_95 : decode cX3_gather 95 = .ok (.aload_n 0, 1) := z_dd_42 (by decide +kernel)
theorem dX3_gather_96 : decode cX3_gather 96 = .ok (.getfield 42, 3) := z_dd_180 (by decide +kernel)
theorem dX3_gather_99 : decode cX3_gather 99 = .ok (.aload_n 0, 1) := z_dd_42 (by decide +kernel)
theorem dX3_gather_100 : decode cX3_gather 100 = .ok (.getfield 76, 3) := z_dd_180 (by decide +kernel)
theorem dX3_gather_103 : decode cX3_gather 103 = .ok (.aload_n 0, 1) := z_dd_42 (by decide +kernel)
theorem dX3_gather_104 : decode cX3_gather 104 = .ok (.getfield 15, 3) := z_dd_180 (by decide +kernel)
theorem dX3_gather_107 : decode cX3_gather 107 = .ok (.iload 4, 2) := z_dd_21 (by decide +kernel)
theorem dX3_gather_109 : decode cX3_gather 109 = .ok (.iaload, 1) := z_dd_46 (by decide +kernel)
theorem dX3_gather_110 : decode cX3_gather 110 = .ok (.aload_n 1, 1) := z_dd_43 (by decide +kernel)
theorem dX3_gather_111 : decode cX3_gather 111 = .ok (.getfield 94, 3) := z_dd_180 (by decide +kernel)
theorem dX3_gather_114 : decode cX3_gather 114 = .ok (.aload_n 0, 1) := z_dd_42 (by decide +kernel)
theorem dX3_gather_115 : decode cX3_gather 115 = .ok (.getfield 9, 3) := z_dd_180 (by decide +kernel)
theorem dX3_gather_118 : decode cX3_gather 118 = .ok (.iload 4, 2) := z_dd_21 (by decide +kernel)
theorem dX3_gather_120 : decode cX3_gather 120 = .ok (.iaload, 1) := z_dd_46 (by decide +kernel)
theorem dX3_gather_121 : decode cX3_gather 121 = .ok (.iaload, 1) := z_dd_46 (by decide +kernel)
theorem dX3_gather_122 : decode cX3_gather 122 = .ok (.imul, 1) := z_dd_104 (by decide +kernel)
theorem dX3_gather_123 : decode cX3_gather 123 = .ok (.iastore, 1) := z_dd_79 (by decide +kernel)
theorem dX3_gather_124 : decode cX3_gather 124 = .ok (.aload_n 0, 1) := z_dd_42 (by decide +kernel)
theorem dX3_gather_125 : decode cX3_gather 125 = .ok (.dup, 1) := z_dd_89 (by decide +kernel)
theorem dX3_gather_126 : decode cX3_gather 126 = .ok (.getfield 87, 3) := z_dd_180 (by decide +kernel)
theorem dX3_gather_129 : decode cX3_gather 129 = .ok (.aload_n 0, 1) := z_dd_42 (by decide +kernel)
theorem dX3_gather_130 : decode cX3_gather 130 = .ok (.getfield 18, 3) := z_dd_180 (by decide +kernel)
theorem dX3_gather_133 : decode cX3_gather 133 = .ok (.iload 4, 2) := z_dd_21 (by decide +kernel)
theorem dX3_gather_135 : decode cX3_gather 135 = .ok (.iaload, 1) := z_dd_46 (by decide +kernel)
theorem dX3_gather_136 : decode cX3_gather 136 = .ok (.iadd, 1) := z_dd_96 (by decide +kernel)
theorem dX3_gather_137 : decode cX3_gather 137 = .ok (.putfield 87, 3) := z_dd_181 (by decide +kernel)
theorem dX3_gather_140 : decode cX3_gather 140 = .ok (.aload_n 0, 1) := z_dd_42 (by decide +kernel)
theorem dX3_gather_141 : decode cX3_gather 141 = .ok (.dup, 1) := z_dd_89 (by decide +kernel)
theorem dX3_gather_142 : decode cX3_gather 142 = .ok (.getfield 76, 3) := z_dd_180 (by decide +kernel)
theorem dX3_gather_145 : decode cX3_gather 145 = .ok (.iconst 1, 1) := z_dd_4 (by decide +kernel)
theorem dX3_gather_146 : decode cX3_gather 146 = .ok (.iadd, 1) := z_dd_96 (by decide +kernel)
theorem dX3_gather_147 : decode cX3_gather 147 = .ok (.putfield 76, 3) := z_dd_181 (by decide +kernel)
theorem dX3_weigh_0 : decode cX3_weigh 0 = .ok (.iconst 0, 1) := z_dd_3 (by decide +kernel)
theorem dX3_weigh_1 : decode cX3_weigh 1 = .ok (.istore_n 2, 1) := z_dd_61 (by decide +kernel)
theorem dX3_weigh_2 : decode cX3_weigh 2 = .ok (.iconst 0, 1) := z_dd_3 (by decide +kernel)
theorem dX3_weigh_3 : decode cX3_weigh 3 = .ok (.istore_n 3, 1) := z_dd_62 (by decide +kernel)
theorem dX3_weigh_4 : decode cX3_weigh 4 = .ok (.iconst 0, 1) := z_dd_3 (by decide +kernel)
theorem dX3_weigh_5 : decode cX3_weigh 5 = .ok (.istore 4, 2) := z_dd_54 (by decide +kernel)
theorem dX3_weigh_7 : decode cX3_weigh 7 = .ok (.iload 4, 2) := z_dd_21 (by decide +kernel)
theorem dX3_weigh_9 : decode cX3_weigh 9 = .ok (.aload_n 0, 1) := z_dd_42 (by decide +kernel)
theorem dX3_weigh_10 : decode cX3_weigh 10 = .ok (.getfield 76, 3) := z_dd_180 (by decide +kernel)
theorem dX3_weigh_13 : decode cX3_weigh 13 = .ok (.if_icmp .ge 46, 3) := z_dd_162 (by decide +kernel)
theorem dX3_weigh_59 : decode cX3_weigh 59 = .ok (.iload_n 1, 1) := z_dd_27 (by decide +kernel)
set_option maxRecDepth 20000 in
theorem ggX3_weigh_J6_bitCount_0f7a4 : GoodIn wsX3_weigh wsJ6_bitCount_0f7a4 := goodIn_sub (fa_c (me_s (me_l (List.mem_of_getElem? (i := 10) rfl))) (fa_c (me_s (me_l (List.mem_of_getElem? (i := 11) rfl))) (fa_c (me_s (me_l (List.mem_of_getElem? (i := 12) rfl))) (fa_c (me_s (me_l (List.mem_of_getElem? (i := 13) rfl))) fa_n)))) (by decide +kernel)
set_option maxRecDepth 20000 in
theorem gX3_weigh_J6_bitCount_0f7a4 : GoodIn wsX3_weigh (va_wsS RX3 97 yJ6_bitCount_0f7a4 wsJ6_bitCount_0f7a4) := goodIn_app (goodIn_sub (fa_c (me_s (me_l (List.mem_of_getElem? (i := 7) rfl))) (fa_c (me_s (me_l (List.mem_of_getElem? (i := 8) rfl))) (fa_c (me_s (me_l (List.mem_of_getElem? (i := 9) rfl))) fa_n))) (by decide +kernel)) ggX3_weigh_J6_bitCount_0f7a4
theorem dX3_weigh_60 : decode cX3_weigh 60 = .ok (.invokestatic 97, 3) := z_dd_184 (by decide +kernel)
theorem dX3_weigh_63 : decode cX3_weigh 63 = .ok (.istore 4, 2) := z_dd_54 (by decide +kernel)
theorem dX3_weigh_65 : decode cX3_weigh 65 = .ok (.aload_n 0, 1) := z_dd_42 (by decide +kernel)
theorem dX3_weigh_66 : decode cX3_weigh 66 = .ok (.getfield 73, 3) := z_dd_180 (by decide +kernel)
theorem dX3_weigh_69 : decode cX3_weigh 69 = .ok (.ifCond .eq 29, 3) := z_dd_153 (by decide +kernel)
theorem dX3_weigh_98 : decode cX3_weigh 98 = .ok (.iconst 1, 1) := z_dd_4 (by decide +kernel)
theorem dX3_weigh_99 : decode cX3_weigh 99 = .ok (.goto 4, 3) := z_dd_167 (by decide +kernel)
theorem dX3_weigh_103 : decode cX3_weigh 103 = .ok (.istore 5, 2) := z_dd_54 (by decide +kernel)
theorem dX3_weigh_105 : decode cX3_weigh 105 = .ok (.iload_n 2, 1) := z_dd_28 (by decide +kernel)
theorem dX3_weigh_106 : decode cX3_weigh 106 = .ok (.aload_n 0, 1) := z_dd_42 (by decide +kernel)
theorem dX3_weigh_107 : decode cX3_weigh 107 = .ok (.getfield 87, 3) := z_dd_180 (by decide +kernel)
theorem dX3_weigh_110 : decode cX3_weigh 110 = .ok (.if_icmp .lt 24, 3) := z_dd_161 (by decide +kernel)
theorem dX3_weigh_134 : decode cX3_weigh 134 = .ok (.return_, 1) := z_dd_177 (by decide +kernel)
theorem dX3_weigh_113 : decode cX3_weigh 113 = .ok (.iload 5, 2) := z_dd_21 (by decide +kernel)
theorem dX3_weigh_115 : decode cX3_weigh 115 = .ok (.ifCond .eq 19, 3) := z_dd_153 (by decide +kernel)
theorem dX3_weigh_118 : decode cX3_weigh 118 = .ok (.aload_n 0, 1) := z_dd_42 (by decide +kernel)
theorem dX3_weigh_119 : decode cX3_weigh 119 = .ok (.iload_n 1, 1) := z_dd_27 (by decide +kernel)
theorem dX3_weigh_120 : decode cX3_weigh 120 = .ok (.putfield 73, 3) := z_dd_181 (by decide +kernel)
theorem dX3_weigh_123 : decode cX3_weigh 123 = .ok (.aload_n 0, 1) := z_dd_42 (by decide +kernel)
theorem dX3_weigh_124 : decode cX3_weigh 124 = .ok (.iload 4, 2) := z_dd_21 (by decide +kernel)
theorem dX3_weigh_126 : decode cX3_weigh 126 = .ok (.putfield 102, 3) := z_dd_181 (by decide +kernel)
theorem dX3_weigh_129 : decode cX3_weigh 129 = .ok (.aload_n 0, 1) := z_dd_42 (by decide +kernel)
theorem dX3_weigh_130 : decode cX3_weigh 130 = .ok (.iload_n 3, 1) := z_dd_29 (by decide +kernel)
theorem dX3_weigh_131 : decode cX3_weigh 131 = .ok (.putfield 105, 3) := z_dd_181 (by decide +kernel)
theorem dX3_weigh_72 : decode cX3_weigh 72 = .ok (.iload 4, 2) := z_dd_21 (by decide +kernel)
theorem dX3_weigh_74 : decode cX3_weigh 74 = .ok (.aload_n 0, 1) := z_dd_42 (by decide +kernel)
theorem dX3_weigh_75 : decode cX3_weigh 75 = .ok (.getfield 102, 3) := z_dd_180 (by decide +kernel)
theorem dX3_weigh_78 : decode cX3_weigh 78 = .ok (.if_icmp .lt 20, 3) := z_dd_161 (by decide +kernel)
theorem dX3_weigh_81 : decode cX3_weigh 81 = .ok (.iload 4, 2) := z_dd_21 (by decide +kernel)
theorem dX3_weigh_83 : decode cX3_weigh 83 = .ok (.aload_n 0, 1) := z_dd_42 (by decide +kernel)
theorem dX3_weigh_84 : decode cX3_weigh 84 = .ok (.getfield 102, 3) := z_dd_180 (by decide +kernel)
theorem dX3_weigh_87 : decode cX3_weigh 87 = .ok (.if_icmp .ne 15, 3) := z_dd_160 (by decide +kernel)
theorem dX3_weigh_102 : decode cX3_weigh 102 = .ok (.iconst 0, 1) := z_dd_3 (by decide +kernel)
theorem dX3_weigh_90 : decode cX3_weigh 90 = .ok (.iload_n 3, 1) := z_dd_29 (by decide +kernel)
theorem dX3_weigh_91 : decode cX3_weigh 91 = .ok (.aload_n 0, 1) := z_dd_42 (by decide +kernel)
theorem dX3_weigh_92 : decode cX3_weigh 92 = .ok (.getfield 105, 3) := z_dd_180 (by decide +kernel)
theorem dX3_weigh_95 : decode cX3_weigh 95 = .ok (.if_icmp .ge 7, 3) := z_dd_162 (by decide +kernel)
theorem dX3_weigh_16 : decode cX3_weigh 16 = .ok (.iload 4, 2) := z_dd_21 (by decide +kernel)
theorem dX3_weigh_18 : decode cX3_weigh 18 = .ok (.bipush 12, 2) := z_dd_16 (by decide +kernel)
theorem dX3_weigh_20 : decode cX3_weigh 20 = .ok (.if_icmp .ge 39, 3) := z_dd_162 (by decide +kernel)
theorem dX3_weigh_23 : decode cX3_weigh 23 = .ok (.iload_n 1, 1) := z_dd_27 (by decide +kernel)
theorem dX3_weigh_24 : decode cX3_weigh 24 = .ok (.iload 4, 2) := z_dd_21 (by decide +kernel)
theorem dX3_weigh_26 : decode cX3_weigh 26 = .ok (.ishr, 1) := z_dd_122 (by decide +kernel)
theorem dX3_weigh_27 : decode cX3_weigh 27 = .ok (.iconst 1, 1) := z_dd_4 (by decide +kernel)
theorem dX3_weigh_28 : decode cX3_weigh 28 = .ok (.iand, 1) := z_dd_126 (by decide +kernel)
theorem dX3_weigh_29 : decode cX3_weigh 29 = .ok (.iconst 1, 1) := z_dd_4 (by decide +kernel)
theorem dX3_weigh_30 : decode cX3_weigh 30 = .ok (.if_icmp .ne 23, 3) := z_dd_160 (by decide +kernel)
theorem dX3_weigh_53 : decode cX3_weigh 53 = .ok (.iinc 4 1, 3) := z_dd_132 (by decide +kernel)
theorem dX3_weigh_56 : decode cX3_weigh 56 = .ok (.goto (-49), 3) := z_dd_167 (by decide +kernel)
theorem dX3_weigh_33 : decode cX3_weigh 33 = .ok (.iload_n 2, 1) := z_dd_28 (by decide +kernel)
theorem dX3_weigh_34 : decode cX3_weigh 34 = .ok (.aload_n 0, 1) := z_dd_42 (by decide +kernel)
theorem dX3_weigh_35 : decode cX3_weigh 35 = .ok (.getfield 39, 3) := z_dd_180 (by decide +kernel)
theorem dX3_weigh_38 : decode cX3_weigh 38 = .ok (.iload 4, 2) := z_dd_21 (by decide +kernel)
theorem dX3_weigh_40 : decode cX3_weigh 40 = .ok (.iaload, 1) := z_dd_46 (by decide +kernel)
theorem dX3_weigh_41 : decode cX3_weigh 41 = .ok (.iadd, 1) := z_dd_96 (by decide +kernel)
theorem dX3_weigh_42 : decode cX3_weigh 42 = .ok (.istore_n 2, 1) := z_dd_61 (by decide +kernel)
theorem dX3_weigh_43 : decode cX3_weigh 43 = .ok (.iload_n 3, 1) := z_dd_29 (by decide +kernel)
theorem dX3_weigh_44 : decode cX3_weigh 44 = .ok (.aload_n 0, 1) := z_dd_42 (by decide +kernel)
theorem dX3_weigh_45 : decode cX3_weigh 45 = .ok (.getfield 42, 3) := z_dd_180 (by decide +kernel)
theorem dX3_weigh_48 : decode cX3_weigh 48 = .ok (.iload 4, 2) := z_dd_21 (by decide +kernel)
theorem dX3_weigh_50 : decode cX3_weigh 50 = .ok (.iaload, 1) := z_dd_46 (by decide +kernel)
theorem dX3_weigh_51 : decode cX3_weigh 51 = .ok (.iadd, 1) := z_dd_96 (by decide +kernel)
theorem dX3_weigh_52 : decode cX3_weigh 52 = .ok (.istore_n 3, 1) := z_dd_62 (by decide +kernel)
theorem dX3_poolOf_0 : decode cX3_poolOf 0 = .ok (.aload_n 0, 1) := z_dd_42 (by decide +kernel)
theorem dX3_poolOf_1 : decode cX3_poolOf 1 = .ok (.aload_n 1, 1) := z_dd_43 (by decide +kernel)
theorem dX3_poolOf_2 : decode cX3_poolOf 2 = .ok (.iload_n 2, 1) := z_dd_28 (by decide +kernel)
theorem dX3_poolOf_3 : decode cX3_poolOf 3 = .ok (.iload_n 3, 1) := z_dd_29 (by decide +kernel)
set_option maxRecDepth 20000 in
theorem ggX3_poolOf_X3_gather : GoodIn wsX3_poolOf wsX3_gather := goodIn_sub (fa_c (me_s (me_l (me_l (me_l (List.mem_of_getElem? (i := 10) rfl))))) (fa_a (fa_a (fa_c (me_s (me_l (me_l (me_l (List.mem_of_getElem? (i := 1) rfl))))) (fa_c (me_s (me_l (me_l (me_l (List.mem_of_getElem? (i := 11) rfl))))) (fa_c (me_s (me_l (me_l (me_l (List.mem_of_getElem? (i := 12) rfl))))) (fa_c (me_s (me_l (me_l (me_l (List.mem_of_getElem? (i := 13) rfl))))) (fa_c (me_s (me_l (me_l (me_l (List.mem_of_getElem? (i := 14) rfl))))) (fa_c (me_s (me_l (me_l (me_l (List.mem_of_getElem? (i := 15) rfl))))) (fa_c (me_s (me_l (me_l (me_l (List.mem_of_getElem? (i := 16) rfl))))) (fa_c (me_s (me_l (me_l (me_l (List.mem_of_getElem? (i := 17) rfl))))) (fa_c (me_s (me_l (me_l (me_l (List.mem_of_getElem? (i := 18) rfl))))) (fa_c (me_s (me_l (me_l (me_l (List.mem_of_getElem? (i := 19) rfl))))) (fa_c (me_s (me_l (me_l (me_l (List.mem_of_getElem? (i := 20) rfl))))) (fa_c (me_s (me_l (me_l (me_l (List.mem_of_getElem? (i := 21) rfl))))) (fa_c (me_s (me_l (me_l (me_l (List.mem_of_getElem? (i := 22) rfl))))) (fa_c (me_s (me_l (me_l (me_l (List.mem_of_getElem? (i := 23) rfl))))) (fa_c (me_s (me_l (me_l (me_r (List.mem_of_getElem? (i := 0) rfl))))) (fa_c (me_s (me_l (me_l (me_r (List.mem_of_getElem? (i := 1) rfl))))) (fa_c (me_s (me_l (me_l (me_r (List.mem_of_getElem? (i := 2) rfl))))) (fa_c (me_s (me_l (me_l (me_r (List.mem_of_getElem? (i := 3) rfl))))) fa_n)))))))))))))))))) (fun w h => (me_s (me_l (me_r h))))) (fun w h => (me_s (me_r h))))) (by decide +kernel)
set_option maxRecDepth 20000 in
theorem gX3_poolOf_X3_gather : GoodIn wsX3_poolOf (wsV RX3 69 RX3 yX3_gather wsX3_gather) := goodIn_app (goodIn_sub (fa_c (me_s (me_l (me_l (me_l (List.mem_of_getElem? (i := 6) rfl))))) (fa_c (me_s (me_l (me_l (me_l (List.mem_of_getElem? (i := 7) rfl))))) (fa_c (me_s (me_l (me_l (me_l (List.mem_of_getElem? (i := 8) rfl))))) (fa_c (me_s (me_l (me_l (me_l (List.mem_of_getElem? (i := 9) rfl))))) fa_n)))) (by decide +kernel)) ggX3_poolOf_X3_gather
theorem dX3_poolOf_4 : decode cX3_poolOf 4 = .ok (.invokevirtual 69, 3) := z_dd_182 (by decide +kernel)
theorem dX3_poolOf_7 : decode cX3_poolOf 7 = .ok (.aload_n 0, 1) := z_dd_42 (by decide +kernel)
theorem dX3_poolOf_8 : decode cX3_poolOf 8 = .ok (.iconst 0, 1) := z_dd_3 (by decide +kernel)
theorem dX3_poolOf_9 : decode cX3_poolOf 9 = .ok (.putfield 73, 3) := z_dd_181 (by decide +kernel)
theorem dX3_poolOf_12 : decode cX3_poolOf 12 = .ok (.iconst 1, 1) := z_dd_4 (by decide +kernel)
theorem dX3_poolOf_13 : decode cX3_poolOf 13 = .ok (.aload_n 0, 1) := z_dd_42 (by decide +kernel)
theorem dX3_poolOf_14 : decode cX3_poolOf 14 = .ok (.getfield 76, 3) := z_dd_180 (by decide +kernel)
theorem dX3_poolOf_17 : decode cX3_poolOf 17 = .ok (.bipush 12, 2) := z_dd_16 (by decide +kernel)
theorem dX3_poolOf_19 : decode cX3_poolOf 19 = .ok (.invokestatic 79, 3) := z_dd_184 (by decide +kernel)
theorem dX3_poolOf_22 : decode cX3_poolOf 22 = .ok (.ishl, 1) := z_dd_120 (by decide +kernel)
theorem dX3_poolOf_23 : decode cX3_poolOf 23 = .ok (.istore 4, 2) := z_dd_54 (by decide +kernel)
theorem dX3_poolOf_25 : decode cX3_poolOf 25 = .ok (.iconst 1, 1) := z_dd_4 (by decide +kernel)
theorem dX3_poolOf_26 : decode cX3_poolOf 26 = .ok (.istore 5, 2) := z_dd_54 (by decide +kernel)
theorem dX3_poolOf_28 : decode cX3_poolOf 28 = .ok (.iload 5, 2) := z_dd_21 (by decide +kernel)
theorem dX3_poolOf_30 : decode cX3_poolOf 30 = .ok (.iload 4, 2) := z_dd_21 (by decide +kernel)
theorem dX3_poolOf_32 : decode cX3_poolOf 32 = .ok (.if_icmp .ge 15, 3) := z_dd_162 (by decide +kernel)
theorem dX3_poolOf_47 : decode cX3_poolOf 47 = .ok (.aload_n 0, 1) := z_dd_42 (by decide +kernel)
theorem dX3_poolOf_48 : decode cX3_poolOf 48 = .ok (.getfield 73, 3) := z_dd_180 (by decide +kernel)
theorem dX3_poolOf_51 : decode cX3_poolOf 51 = .ok (.ifCond .eq 7, 3) := z_dd_153 (by decide +kernel)
theorem dX3_poolOf_58 : decode cX3_poolOf 58 = .ok (.iconst 0, 1) := z_dd_3 (by decide +kernel)
theorem dX3_poolOf_59 : decode cX3_poolOf 59 = .ok (.ireturn, 1) := z_dd_172 (by decide +kernel)
theorem dX3_poolOf_54 : decode cX3_poolOf 54 = .ok (.iconst 1, 1) := z_dd_4 (by decide +kernel)
theorem dX3_poolOf_55 : decode cX3_poolOf 55 = .ok (.goto 4, 3) := z_dd_167 (by decide +kernel)
theorem dX3_poolOf_35 : decode cX3_poolOf 35 = .ok (.aload_n 0, 1) := z_dd_42 (by decide +kernel)
theorem dX3_poolOf_36 : decode cX3_poolOf 36 = .ok (.iload 5, 2) := z_dd_21 (by decide +kernel)
set_option maxRecDepth 20000 in
theorem ggX3_poolOf_X3_weigh : GoodIn wsX3_poolOf wsX3_weigh := goodIn_sub (fa_c (me_s (me_l (me_l (me_r (List.mem_of_getElem? (i := 7) rfl))))) (fa_a (fa_c (me_s (me_l (me_l (me_l (List.mem_of_getElem? (i := 1) rfl))))) (fa_c (me_s (me_l (me_l (me_l (List.mem_of_getElem? (i := 16) rfl))))) (fa_c (me_s (me_l (me_l (me_l (List.mem_of_getElem? (i := 18) rfl))))) (fa_c (me_s (me_l (me_l (me_l (List.mem_of_getElem? (i := 0) rfl))))) (fa_c (me_s (me_l (me_l (me_r (List.mem_of_getElem? (i := 8) rfl))))) (fa_c (me_s (me_l (me_l (me_r (List.mem_of_getElem? (i := 9) rfl))))) (fa_c (me_s (me_l (me_l (me_l (List.mem_of_getElem? (i := 11) rfl))))) (fa_c (me_s (me_l (me_l (me_r (List.mem_of_getElem? (i := 10) rfl))))) (fa_c (me_s (me_l (me_l (me_r (List.mem_of_getElem? (i := 11) rfl))))) (fa_c (me_s (me_l (me_l (me_r (List.mem_of_getElem? (i := 12) rfl))))) (fa_c (me_s (me_l (me_l (me_r (List.mem_of_getElem? (i := 13) rfl))))) (fa_c (me_s (me_l (me_l (me_r (List.mem_of_getElem? (i := 14) rfl))))) (fa_c (me_s (me_l (me_l (me_r (List.mem_of_getElem? (i := 15) rfl))))) (fa_c (me_s (me_l (me_l (me_r (List.mem_of_getElem? (i := 16) rfl))))) fa_n)))))))))))))) (fun w h => (me_s (me_l (me_r h)))))) (by decide +kernel)
set_option maxRecDepth 20000 in
theorem gX3_poolOf_X3_weigh : GoodIn wsX3_poolOf (wsV RX3 83 RX3 yX3_weigh wsX3_weigh) := goodIn_app (goodIn_sub (fa_c (me_s (me_l (me_l (me_r (List.mem_of_getElem? (i := 4) rfl))))) (fa_c (me_s (me_l (me_l (me_r (List.mem_of_getElem? (i := 5) rfl))))) (fa_c (me_s (me_l (me_l (me_r (List.mem_of_getElem? (i := 6) rfl))))) (fa_c (me_s (me_l (me_l (me_l (List.mem_of_getElem? (i := 9) rfl))))) fa_n)))) (by decide +kernel)) ggX3_poolOf_X3_weigh
theorem dX3_poolOf_38 : decode cX3_poolOf 38 = .ok (.invokevirtual 83, 3) := z_dd_182 (by decide +kernel)
theorem dX3_poolOf_41 : decode cX3_poolOf 41 = .ok (.iinc 5 1, 3) := z_dd_132 (by decide +kernel)
theorem dX3_poolOf_44 : decode cX3_poolOf 44 = .ok (.goto (-16), 3) := z_dd_167 (by decide +kernel)
theorem z_l16 : (16 : Int32).toInt = 16 := by decide
theorem z_l59 : (59 : Int32).toInt = 59 := by decide
theorem z_l60 : (60 : Int32).toInt = 60 := by decide
noncomputable def L_X1_clear : z_L := [(72, 2)]
theorem zj_X1_clear_X1 : ∀ w ∈ wsX10, w ∈ wsX1_clear := fun w h => (List.mem_cons_of_mem _ (List.mem_append_right _ h))
set_option maxHeartbeats 8000000 in
set_option maxRecDepth 100000 in
theorem sx_X1_clear (l : Launch) (G : z_G) (ad : Nat → Nat) (c : z_C) (I : z_I) (hD : z_iD I) : z_Mv l yX1_clear wsX1_clear { frames := 1, cells := 0, slots := 0, locals := 12 } [.ref (ad 72)] G (shC c, ad, I, JX, PC c ad) (fun u1 => ∃ I1 : z_I, u1 = (shC c, ad, I1, JX, PC c ad) ∧ z_iD I1 ∧ z_fr L_X1_clear I1 I) 0 0 := by
  intro sz
  refine z_headQ (cc := cX1_clear) (maxL := 1) (ret := none) (by decide) rfl (Nat.le_of_ble_eq_true rfl) ?_
  intro p e s m below meth c0 ls hIn hK hsz hW hl
  obtain ⟨hx, hb, hr, hml, hown, hts, hlocks, hname⟩ := hIn
  subst hsz
  have hown : s.vm.findClass RX1 = some m.cls := hown
  have hA : ∀ q : Nat, s.heap.size ≤ q → z_A (shC c, ad, I, JX, PC c ad) s.heap.size q := fun q h => Or.inr h
  generalize hAe : z_A (shC c, ad, I, JX, PC c ad) s.heap.size = A at *
  have hS : va_S A s.heap s.heap [] := va_S.rf
  have hl : lv_has ls 1 [(0, .ref (ad 72))] := hl
  refine lv_aload_n hx hb dX1_clear_0 rfl (lv_at hl 0 rfl) ?_
  refine lv_iconst (v := 0) hx hb dX1_clear_1 (by decide) ?_
  refine z_put (T := TX1) (N := 3) (ci := 1) (i := 72) (v := .int 0) (I1 := z_up I 72 2 0) (J1 := JX) (P1 := PC c ad) hx hb hts zj_X1_clear_X1 tyX1 tyX1_ok nmX1 hown hK hW hS rfl rfl 2 (by decide) (hts (.fieldLink RX1 18 "PetrolBoard$Deal" "number" "I") (me_s (me_l (List.mem_of_getElem? (i := 0) rfl)))) (fun _ h => h) rfl rfl rfl (by first | rfl | exact congrArg _ z_up_s) (fun a b h ty => z_vI h ty) dX1_clear_2 (fun H locs hz1 hW hS => ?_)
  obtain ⟨I1, eI1⟩ : ∃ K : z_I, K = z_up I 72 2 0 := ⟨_, rfl⟩
  rw [← eI1] at hW
  have f2 := z_fr_k z_fr_0 (show z_wr L_X1_clear 72 2 = true by decide) eI1
  exact z_vret hx hb hr hK hS (Nat.le_of_ble_eq_true rfl) (Nat.le_of_ble_eq_true rfl) hlocks dX1_clear_5 (shC c, ad, I1, JX, PC c ad) hW ⟨I1, rfl, (by show 0 ≤ (I1 72 2).toInt ∧ (I1 72 2).toInt ≤ 30; rw [eI1, z_up_s]; decide), f2⟩
noncomputable def L_X1_put : z_L := [(73, 999), (72, 2)]
theorem zj_X1_put_X1 : ∀ w ∈ wsX10, w ∈ wsX1_put := fun w h => (List.mem_cons_of_mem _ (List.mem_append_right _ h))
set_option maxHeartbeats 8000000 in
set_option maxRecDepth 100000 in
theorem sx_X1_put (l : Launch) (G : z_G) (ad : Nat → Nat) (c : z_C) (I : z_I) (hD : z_iD I) (a1 : Int32) : z_Mv l yX1_put wsX1_put { frames := 1, cells := 0, slots := 0, locals := 12 } [.ref (ad 72), .int a1] G (shC c, ad, I, JX, PC c ad) (fun u1 => ∃ I1 : z_I, u1 = (shC c, ad, I1, JX, PC c ad) ∧ z_iD I1 ∧ z_fr L_X1_put I1 I) 0 0 := by
  intro sz
  refine z_headQ (cc := cX1_put) (maxL := 2) (ret := none) (by decide) rfl (Nat.le_of_ble_eq_true rfl) ?_
  intro p e s m below meth c0 ls hIn hK hsz hW hl
  obtain ⟨hx, hb, hr, hml, hown, hts, hlocks, hname⟩ := hIn
  subst hsz
  have hown : s.vm.findClass RX1 = some m.cls := hown
  have hA : ∀ q : Nat, s.heap.size ≤ q → z_A (shC c, ad, I, JX, PC c ad) s.heap.size q := fun q h => Or.inr h
  generalize hAe : z_A (shC c, ad, I, JX, PC c ad) s.heap.size = A at *
  have hS : va_S A s.heap s.heap [] := va_S.rf
  have hl : lv_has ls 2 [(0, .ref (ad 72)), (1, .int a1)] := hl
  refine lv_aload_n hx hb dX1_put_0 rfl (lv_at hl 0 rfl) ?_
  have r1 : 0 ≤ (I 72 2).toInt ∧ (I 72 2).toInt ≤ 30 := hD
  refine z_get (T := TX1) (N := 3) (ci := 1) (i := 72) (v := .int (I 72 2)) hx hb hts zj_X1_put_X1 hown hK hW rfl rfl 2 (by decide) (hts (.fieldLink RX1 18 "PetrolBoard$Deal" "number" "I") (me_s (me_l (List.mem_of_getElem? (i := 0) rfl)))) (fun _ h => h) rfl dX1_put_1 ?_
  refine lv_aload_n hx hb dX1_put_4 rfl (lv_at hl 0 rfl) ?_
  refine z_get (T := TX1) (N := 3) (ci := 1) (i := 72) (v := .ref (ad 73)) hx hb hts zj_X1_put_X1 hown hK hW rfl rfl 0 (by decide) (hts (.fieldLink RX1 9 "PetrolBoard$Deal" "units" "[I") (me_s (me_l (List.mem_of_getElem? (i := 1) rfl)))) (fun _ h => h) rfl dX1_put_5 ?_
  refine z_alen (i := 73) (v := 30) hx hb hK hW rfl (by simp [z_tys]) (by rfl) dX1_put_8 ?_
  refine lv_icmp_ge (tgt := 32) hx hb dX1_put_9 (by decide) (fun c2 => ?_) (fun c2 => ?_)
  · have g3 := z_f_ge rfl z_l30 c2
    exact z_vret hx hb hr hK hS (Nat.le_of_ble_eq_true rfl) (Nat.le_of_ble_eq_true rfl) hlocks dX1_put_32 (shC c, ad, I, JX, PC c ad) hW ⟨I, rfl, (by show 0 ≤ (I 72 2).toInt ∧ (I 72 2).toInt ≤ 30; exact hD), z_fr_0⟩
  · have g4 := z_f_nge rfl z_l30 c2
    refine lv_aload_n hx hb dX1_put_12 rfl (lv_at hl 0 rfl) ?_
    refine z_get (T := TX1) (N := 3) (ci := 1) (i := 72) (v := .ref (ad 73)) hx hb hts zj_X1_put_X1 hown hK hW rfl rfl 0 (by decide) (hts (.fieldLink RX1 9 "PetrolBoard$Deal" "units" "[I") (me_s (me_l (List.mem_of_getElem? (i := 1) rfl)))) (fun _ h => h) rfl dX1_put_13 ?_
    refine lv_aload_n hx hb dX1_put_16 rfl (lv_at hl 0 rfl) ?_
    refine z_get (T := TX1) (N := 3) (ci := 1) (i := 72) (v := .int (I 72 2)) hx hb hts zj_X1_put_X1 hown hK hW rfl rfl 2 (by decide) (hts (.fieldLink RX1 18 "PetrolBoard$Deal" "number" "I") (me_s (me_l (List.mem_of_getElem? (i := 0) rfl)))) (fun _ h => h) rfl dX1_put_17 ?_
    refine lv_iload_n hx hb dX1_put_20 rfl (lv_at hl 1 rfl) ?_
    refine z_iast (i := 73) hx hb hK hW hS rfl (z_ix rfl (by omega) (by omega)) dX1_put_21 (fun H locs hz1 hW hS => ?_)
    obtain ⟨I5, eI5⟩ : ∃ K : z_I, K = z_up I 73 (I 72 2).toNatClampNeg a1 := ⟨_, rfl⟩
    rw [← eI5] at hW
    have f6 := z_fr_a z_fr_0 (show z_wa L_X1_put 73 = true by decide) eI5
    refine lv_aload_n hx hb dX1_put_22 rfl (lv_at hl 0 rfl) ?_
    refine lv_dup hx hb dX1_put_23 rfl ?_
    refine z_get (T := TX1) (N := 3) (ci := 1) (i := 72) (v := .int (I 72 2)) hx hb hts zj_X1_put_X1 hown hK hW rfl rfl 2 (by decide) (hts (.fieldLink RX1 18 "PetrolBoard$Deal" "number" "I") (me_s (me_l (List.mem_of_getElem? (i := 0) rfl)))) (fun _ h => h) (congrArg Value.int (by rw [eI5, z_up_n (by decide)])) dX1_put_24 ?_
    refine lv_iconst (v := 1) hx hb dX1_put_27 (by decide) ?_
    refine lv_iadd hx hb dX1_put_28 ?_
    refine lv_topi (fun x7 ex7 => ?_)
    have tx7 : x7.toInt = (I 72 2).toInt + 1 := z_tadd ex7 rfl z_l1 (by omega) (by omega)
    refine z_put (T := TX1) (N := 3) (ci := 1) (i := 72) (v := .int x7) (I1 := z_up I5 72 2 x7) (J1 := JX) (P1 := PC c ad) hx hb hts zj_X1_put_X1 tyX1 tyX1_ok nmX1 hown hK hW hS rfl rfl 2 (by decide) (hts (.fieldLink RX1 18 "PetrolBoard$Deal" "number" "I") (me_s (me_l (List.mem_of_getElem? (i := 0) rfl)))) (fun _ h => h) rfl rfl rfl (by first | rfl | exact congrArg _ z_up_s) (fun a b h ty => z_vI h ty) dX1_put_29 (fun H locs hz1 hW hS => ?_)
    obtain ⟨I8, eI8⟩ : ∃ K : z_I, K = z_up I5 72 2 x7 := ⟨_, rfl⟩
    rw [← eI8] at hW
    have f9 := z_fr_k f6 (show z_wr L_X1_put 72 2 = true by decide) eI8
    exact z_vret hx hb hr hK hS (Nat.le_of_ble_eq_true rfl) (Nat.le_of_ble_eq_true rfl) hlocks dX1_put_32 (shC c, ad, I8, JX, PC c ad) hW ⟨I8, rfl, (by show 0 ≤ (I8 72 2).toInt ∧ (I8 72 2).toInt ≤ 30; rw [eI8, z_up_s]; omega), f9⟩
theorem zj_X1_unitsOf_X1 : ∀ w ∈ wsX10, w ∈ wsX1_unitsOf := fun w h => (List.mem_cons_of_mem _ (List.mem_append_right _ h))
set_option maxHeartbeats 8000000 in
set_option maxRecDepth 100000 in
theorem sx_X1_unitsOf (l : Launch) (G : z_G) (ad : Nat → Nat) (c : z_C) (I : z_I) (hD : z_iD I) (a1 : Int32) : z_M l yX1_unitsOf wsX1_unitsOf { frames := 1, cells := 0, slots := 0, locals := 12 } [.ref (ad 72), .int a1] G (shC c, ad, I, JX, PC c ad) (fun r u1 => u1 = (shC c, ad, I, JX, PC c ad)) 0 0 := by
  intro sz
  refine z_headQ (cc := cX1_unitsOf) (maxL := 2) (ret := (some .int)) (by decide) rfl (Nat.le_of_ble_eq_true rfl) ?_
  intro p e s m below meth c0 ls hIn hK hsz hW hl
  obtain ⟨hx, hb, hr, hml, hown, hts, hlocks, hname⟩ := hIn
  subst hsz
  have hown : s.vm.findClass RX1 = some m.cls := hown
  have hA : ∀ q : Nat, s.heap.size ≤ q → z_A (shC c, ad, I, JX, PC c ad) s.heap.size q := fun q h => Or.inr h
  generalize hAe : z_A (shC c, ad, I, JX, PC c ad) s.heap.size = A at *
  have hS : va_S A s.heap s.heap [] := va_S.rf
  have hl : lv_has ls 2 [(0, .ref (ad 72)), (1, .int a1)] := hl
  refine lv_iload_n hx hb dX1_unitsOf_0 rfl (lv_at hl 1 rfl) ?_
  refine lv_if_lt (tgt := 30) hx hb dX1_unitsOf_1 (by decide) (fun c1 => ?_) (fun c1 => ?_)
  · have g2 := z_f_lt rfl z_l0 c1
    have b3 := Int32.toInt_lt a1
    refine lv_iconst (v := (-1)) hx hb dX1_unitsOf_30 (by decide) ?_
    exact z_iret hx hb hr hK hS (Nat.le_of_ble_eq_true rfl) (Nat.le_of_ble_eq_true rfl) hlocks dX1_unitsOf_31 (shC c, ad, I, JX, PC c ad) hW rfl
  · have g4 := z_f_nlt rfl z_l0 c1
    have b5 := Int32.toInt_lt a1
    refine lv_iload_n hx hb dX1_unitsOf_4 rfl (lv_at hl 1 rfl) ?_
    refine lv_aload_n hx hb dX1_unitsOf_5 rfl (lv_at hl 0 rfl) ?_
    have r6 : 0 ≤ (I 72 2).toInt ∧ (I 72 2).toInt ≤ 30 := hD
    refine z_get (T := TX1) (N := 3) (ci := 1) (i := 72) (v := .int (I 72 2)) hx hb hts zj_X1_unitsOf_X1 hown hK hW rfl rfl 2 (by decide) (hts (.fieldLink RX1 18 "PetrolBoard$Deal" "number" "I") (me_s (me_l (List.mem_of_getElem? (i := 0) rfl)))) (fun _ h => h) rfl dX1_unitsOf_6 ?_
    refine lv_icmp_ge (tgt := 30) hx hb dX1_unitsOf_9 (by decide) (fun c7 => ?_) (fun c7 => ?_)
    · have g8 := z_f_ge rfl rfl c7
      refine lv_iconst (v := (-1)) hx hb dX1_unitsOf_30 (by decide) ?_
      exact z_iret hx hb hr hK hS (Nat.le_of_ble_eq_true rfl) (Nat.le_of_ble_eq_true rfl) hlocks dX1_unitsOf_31 (shC c, ad, I, JX, PC c ad) hW rfl
    · have g9 := z_f_nge rfl rfl c7
      refine lv_iload_n hx hb dX1_unitsOf_12 rfl (lv_at hl 1 rfl) ?_
      refine lv_aload_n hx hb dX1_unitsOf_13 rfl (lv_at hl 0 rfl) ?_
      refine z_get (T := TX1) (N := 3) (ci := 1) (i := 72) (v := .ref (ad 73)) hx hb hts zj_X1_unitsOf_X1 hown hK hW rfl rfl 0 (by decide) (hts (.fieldLink RX1 9 "PetrolBoard$Deal" "units" "[I") (me_s (me_l (List.mem_of_getElem? (i := 1) rfl)))) (fun _ h => h) rfl dX1_unitsOf_14 ?_
      refine z_alen (i := 73) (v := 30) hx hb hK hW rfl (by simp [z_tys]) (by rfl) dX1_unitsOf_17 ?_
      refine lv_icmp_ge (tgt := 30) hx hb dX1_unitsOf_18 (by decide) (fun c10 => (by have g := z_f_ge rfl z_l30 c10; omega)) (fun c10 => ?_)
      have g11 := z_f_nge rfl z_l30 c10
      refine lv_aload_n hx hb dX1_unitsOf_21 rfl (lv_at hl 0 rfl) ?_
      refine z_get (T := TX1) (N := 3) (ci := 1) (i := 72) (v := .ref (ad 73)) hx hb hts zj_X1_unitsOf_X1 hown hK hW rfl rfl 0 (by decide) (hts (.fieldLink RX1 9 "PetrolBoard$Deal" "units" "[I") (me_s (me_l (List.mem_of_getElem? (i := 1) rfl)))) (fun _ h => h) rfl dX1_unitsOf_22 ?_
      refine lv_iload_n hx hb dX1_unitsOf_25 rfl (lv_at hl 1 rfl) ?_
      refine z_iald (i := 73) hx hb hK hW rfl (z_ix rfl (by omega) (by omega)) dX1_unitsOf_26 ?_
      refine lv_topi (fun x12 ex12 => ?_)
      refine lv_goto (tgt := 31) hx hb dX1_unitsOf_27 (by decide) ?_
      exact z_iret hx hb hr hK hS (Nat.le_of_ble_eq_true rfl) (Nat.le_of_ble_eq_true rfl) hlocks dX1_unitsOf_31 (shC c, ad, I, JX, PC c ad) hW rfl
theorem zj_X1_together_X1 : ∀ w ∈ wsX10, w ∈ wsX1_together := fun w h => (List.mem_cons_of_mem _ (List.mem_append_right _ h))
set_option maxHeartbeats 8000000 in
set_option maxRecDepth 100000 in
theorem sx_X1_together (l : Launch) (G : z_G) (ad : Nat → Nat) (c : z_C) (I : z_I) (hD : z_iD I) : z_M l yX1_together wsX1_together { frames := 1, cells := 0, slots := 0, locals := 12 } [.ref (ad 72)] G (shC c, ad, I, JX, PC c ad) (fun r u1 => u1 = (shC c, ad, I, JX, PC c ad)) 0 0 := by
  intro sz
  refine z_headQ (cc := cX1_together) (maxL := 3) (ret := (some .int)) (by decide) rfl (Nat.le_of_ble_eq_true rfl) ?_
  intro p e s m below meth c0 ls hIn hK hsz hW hl
  obtain ⟨hx, hb, hr, hml, hown, hts, hlocks, hname⟩ := hIn
  subst hsz
  have hown : s.vm.findClass RX1 = some m.cls := hown
  have hA : ∀ q : Nat, s.heap.size ≤ q → z_A (shC c, ad, I, JX, PC c ad) s.heap.size q := fun q h => Or.inr h
  generalize hAe : z_A (shC c, ad, I, JX, PC c ad) s.heap.size = A at *
  have hS : va_S A s.heap s.heap [] := va_S.rf
  have hl : lv_has ls 3 [(0, .ref (ad 72))] := hl
  refine lv_iconst (v := 0) hx hb dX1_together_0 (by decide) ?_
  refine lv_istore_n (lv' := [(1, .int 0), (0, .ref (ad 72))]) hx hb dX1_together_1 rfl hl (by decide) rfl (fun ls hl => ?_)
  refine lv_iconst (v := 0) hx hb dX1_together_2 (by decide) ?_
  refine lv_istore_n (lv' := [(2, .int 0), (1, .int 0), (0, .ref (ad 72))]) hx hb dX1_together_3 rfl hl (by decide) rfl (fun ls hl => ?_)
  have lp1 : ∀ (f : Nat) (y2 : Int32) (y3 : Int32) (H : Heap) (locs : List Loc) (ls : Array Slot), (2147483647 < y2.toInt + (f : Int)) → (0 ≤ y2.toInt) → z_W G A (shC c, ad, I, JX, PC c ad) H → va_S A s.heap H locs → lv_has ls 3 [(2, .int y2), (1, .int y3), (0, .ref (ad 72))] → W p l e (headSpec wsX1_together { frames := 1, cells := 0, slots := 0, locals := 12 }).room s m ([.ref (ad 72)] : List Value).toArray below meth c0 H locs 0 0 (MQ below (va_Qi (fun (r : Int32) (u1 : z_U) => u1 = (shC c, ad, I, JX, PC c ad)) (z_B G A) A) ([.ref (ad 72)] : List Value).toArray s 0 0 A) (F0 m 4 ls []) := by
    intro f
    induction f with
    | zero => intro y2 y3 H locs ls lp1m lp1l2 hW hS hl; exact absurd lp1m (by have := Int32.toInt_lt y2; have := Int32.le_toInt y2; omega)
    | succ f lp1ih =>
      intro y2 y3 H locs ls lp1m lp1l2 hW hS hl
      refine lv_iload_n hx hb dX1_together_4 rfl (lv_at hl 0 rfl) ?_
      refine lv_aload_n hx hb dX1_together_5 rfl (lv_at hl 2 rfl) ?_
      have r4 : 0 ≤ (I 72 2).toInt ∧ (I 72 2).toInt ≤ 30 := hD
      refine z_get (T := TX1) (N := 3) (ci := 1) (i := 72) (v := .int (I 72 2)) hx hb hts zj_X1_together_X1 hown hK hW rfl rfl 2 (by decide) (hts (.fieldLink RX1 18 "PetrolBoard$Deal" "number" "I") (me_s (me_l (List.mem_of_getElem? (i := 0) rfl)))) (fun _ h => h) rfl dX1_together_6 ?_
      refine lv_icmp_ge (tgt := 36) hx hb dX1_together_9 (by decide) (fun c5 => ?_) (fun c5 => ?_)
      · have g6 := z_f_ge rfl rfl c5
        have b7 := Int32.toInt_lt y2
        refine lv_iload_n hx hb dX1_together_36 rfl (lv_at hl 1 rfl) ?_
        exact z_iret hx hb hr hK hS (Nat.le_of_ble_eq_true rfl) (Nat.le_of_ble_eq_true rfl) hlocks dX1_together_37 (shC c, ad, I, JX, PC c ad) hW rfl
      · have g8 := z_f_nge rfl rfl c5
        have b9 := Int32.toInt_lt y2
        refine lv_iload_n hx hb dX1_together_12 rfl (lv_at hl 0 rfl) ?_
        refine lv_aload_n hx hb dX1_together_13 rfl (lv_at hl 2 rfl) ?_
        refine z_get (T := TX1) (N := 3) (ci := 1) (i := 72) (v := .ref (ad 73)) hx hb hts zj_X1_together_X1 hown hK hW rfl rfl 0 (by decide) (hts (.fieldLink RX1 9 "PetrolBoard$Deal" "units" "[I") (me_s (me_l (List.mem_of_getElem? (i := 1) rfl)))) (fun _ h => h) rfl dX1_together_14 ?_
        refine z_alen (i := 73) (v := 30) hx hb hK hW rfl (by simp [z_tys]) (by rfl) dX1_together_17 ?_
        refine lv_icmp_ge (tgt := 36) hx hb dX1_together_18 (by decide) (fun c10 => (by have g := z_f_ge rfl z_l30 c10; omega)) (fun c10 => ?_)
        have g11 := z_f_nge rfl z_l30 c10
        refine lv_iload_n hx hb dX1_together_21 rfl (lv_at hl 1 rfl) ?_
        refine lv_aload_n hx hb dX1_together_22 rfl (lv_at hl 2 rfl) ?_
        refine z_get (T := TX1) (N := 3) (ci := 1) (i := 72) (v := .ref (ad 73)) hx hb hts zj_X1_together_X1 hown hK hW rfl rfl 0 (by decide) (hts (.fieldLink RX1 9 "PetrolBoard$Deal" "units" "[I") (me_s (me_l (List.mem_of_getElem? (i := 1) rfl)))) (fun _ h => h) rfl dX1_together_23 ?_
        refine lv_iload_n hx hb dX1_together_26 rfl (lv_at hl 0 rfl) ?_
        refine z_iald (i := 73) hx hb hK hW rfl (z_ix rfl (by omega) (by omega)) dX1_together_27 ?_
        refine lv_topi (fun x12 ex12 => ?_)
        refine lv_iadd hx hb dX1_together_28 ?_
        refine lv_topi (fun x13 ex13 => ?_)
        refine lv_istore_n (lv' := [(1, .int x13), (2, .int y2), (0, .ref (ad 72))]) hx hb dX1_together_29 rfl hl (by decide) rfl (fun ls hl => ?_)
        obtain ⟨x14, ex14⟩ : ∃ y : Int32, y = y2 + 1 := ⟨_, rfl⟩
        have tx14 : x14.toInt = y2.toInt + 1 := z_tadd ex14 rfl z_l1 (by omega) (by omega)
        refine lv_iinc (v := x14) (lv' := [(2, .int x14), (1, .int x13), (0, .ref (ad 72))]) hx hb dX1_together_30 hl (k := 1) rfl (by rw [ex14]; rfl) (by decide) rfl (fun ls hl => ?_)
        refine lv_goto (tgt := 4) hx hb dX1_together_33 (by decide) ?_
        exact lp1ih x14 x13 _ _ _ (by omega) (by omega) hW hS (lv_sub hl [0, 1, 2] rfl)
  exact lp1 4294967296 (0) (0) _ _ _ (z_m0u _) (by rw [z_l0]; omega) hW hS (lv_sub hl [0, 1, 2] rfl)
noncomputable def L_X1_alike : z_L := [(73, 999)]
theorem zj_X1_alike_X1 : ∀ w ∈ wsX10, w ∈ wsX1_alike := fun w h => (List.mem_cons_of_mem _ (List.mem_append_right _ h))
set_option maxHeartbeats 8000000 in
set_option maxRecDepth 100000 in
theorem sx_X1_alike (l : Launch) (G : z_G) (ad : Nat → Nat) (c : z_C) (I : z_I) (hD : z_iD I) : z_Mv l yX1_alike wsX1_alike { frames := 2, cells := 0, slots := 0, locals := 34 } [.ref (ad 72)] G (shC c, ad, I, JX, PC c ad) (fun u1 => ∃ I1 : z_I, u1 = (shC c, ad, I1, JX, PC c ad) ∧ z_iD I1 ∧ z_fr L_X1_alike I1 I) 0 0 := by
  intro sz
  refine z_headQ (cc := cX1_alike) (maxL := 3) (ret := none) (by decide) rfl (Nat.le_of_ble_eq_true rfl) ?_
  intro p e s m below meth c0 ls hIn hK hsz hW hl
  obtain ⟨hx, hb, hr, hml, hown, hts, hlocks, hname⟩ := hIn
  subst hsz
  have hown : s.vm.findClass RX1 = some m.cls := hown
  have hA : ∀ q : Nat, s.heap.size ≤ q → z_A (shC c, ad, I, JX, PC c ad) s.heap.size q := fun q h => Or.inr h
  generalize hAe : z_A (shC c, ad, I, JX, PC c ad) s.heap.size = A at *
  have hS : va_S A s.heap s.heap [] := va_S.rf
  have hl : lv_has ls 3 [(0, .ref (ad 72))] := hl
  refine lv_aload_n hx hb dX1_alike_0 rfl (lv_at hl 0 rfl) ?_
  have r1 : 0 ≤ (I 72 2).toInt ∧ (I 72 2).toInt ≤ 30 := hD
  refine z_get (T := TX1) (N := 3) (ci := 1) (i := 72) (v := .int (I 72 2)) hx hb hts zj_X1_alike_X1 hown hK hW rfl rfl 2 (by decide) (hts (.fieldLink RX1 18 "PetrolBoard$Deal" "number" "I") (me_s (me_l (List.mem_of_getElem? (i := 0) rfl)))) (fun _ h => h) rfl dX1_alike_1 ?_
  refine lv_if_le (tgt := 19) hx hb dX1_alike_4 (by decide) (fun c2 => ?_) (fun c2 => ?_)
  · have g3 := z_f_le rfl z_l0 c2
    refine lv_iconst (v := 0) hx hb dX1_alike_19 (by decide) ?_
    refine lv_istore_n (lv' := [(1, .int 0), (0, .ref (ad 72))]) hx hb dX1_alike_20 rfl hl (by decide) rfl (fun ls hl => ?_)
    refine lv_iconst (v := 0) hx hb dX1_alike_21 (by decide) ?_
    refine lv_istore_n (lv' := [(2, .int 0), (1, .int 0), (0, .ref (ad 72))]) hx hb dX1_alike_22 rfl hl (by decide) rfl (fun ls hl => ?_)
    have lp4 : ∀ (f : Nat) (y5 : Int32) (I6 : z_I) (H : Heap) (locs : List Loc) (ls : Array Slot), (2147483647 < y5.toInt + (f : Int)) → (0 ≤ y5.toInt) → (z_iD I6) → (z_fr L_X1_alike I6 I) → z_W G A (shC c, ad, I6, JX, PC c ad) H → va_S A s.heap H locs → lv_has ls 3 [(2, .int y5), (1, .int 0), (0, .ref (ad 72))] → W p l e (headSpec wsX1_alike { frames := 2, cells := 0, slots := 0, locals := 34 }).room s m ([.ref (ad 72)] : List Value).toArray below meth c0 H locs 0 0 (MQ below (va_Qv (fun (u1 : z_U) => ∃ I1 : z_I, u1 = (shC c, ad, I1, JX, PC c ad) ∧ z_iD I1 ∧ z_fr L_X1_alike I1 I) (z_B G A) A) ([.ref (ad 72)] : List Value).toArray s 0 0 A) (F0 m 23 ls []) := by
      intro f
      induction f with
      | zero => intro y5 I6  H locs ls lp4m lp4l2 lp4D lp4fr hW hS hl; exact absurd lp4m (by have := Int32.toInt_lt y5; have := Int32.le_toInt y5; omega)
      | succ f lp4ih =>
        intro y5 I6  H locs ls lp4m lp4l2 lp4D lp4fr hW hS hl
        refine lv_iload_n hx hb dX1_alike_23 rfl (lv_at hl 0 rfl) ?_
        refine lv_aload_n hx hb dX1_alike_24 rfl (lv_at hl 2 rfl) ?_
        have r7 : 0 ≤ (I6 72 2).toInt ∧ (I6 72 2).toInt ≤ 30 := lp4D
        refine z_get (T := TX1) (N := 3) (ci := 1) (i := 72) (v := .int (I6 72 2)) hx hb hts zj_X1_alike_X1 hown hK hW rfl rfl 2 (by decide) (hts (.fieldLink RX1 18 "PetrolBoard$Deal" "number" "I") (me_s (me_l (List.mem_of_getElem? (i := 0) rfl)))) (fun _ h => h) rfl dX1_alike_25 ?_
        refine lv_icmp_ge (tgt := 53) hx hb dX1_alike_28 (by decide) (fun c8 => ?_) (fun c8 => ?_)
        · have g9 := z_f_ge rfl rfl c8
          have b10 := Int32.toInt_lt y5
          exact z_vret hx hb hr hK hS (Nat.le_of_ble_eq_true rfl) (Nat.le_of_ble_eq_true rfl) hlocks dX1_alike_53 (shC c, ad, I6, JX, PC c ad) hW ⟨I6, rfl, (by show 0 ≤ (I6 72 2).toInt ∧ (I6 72 2).toInt ≤ 30; exact lp4D), lp4fr⟩
        · have g11 := z_f_nge rfl rfl c8
          have b12 := Int32.toInt_lt y5
          refine lv_iload_n hx hb dX1_alike_31 rfl (lv_at hl 0 rfl) ?_
          refine lv_aload_n hx hb dX1_alike_32 rfl (lv_at hl 2 rfl) ?_
          refine z_get (T := TX1) (N := 3) (ci := 1) (i := 72) (v := .ref (ad 73)) hx hb hts zj_X1_alike_X1 hown hK hW rfl rfl 0 (by decide) (hts (.fieldLink RX1 9 "PetrolBoard$Deal" "units" "[I") (me_s (me_l (List.mem_of_getElem? (i := 1) rfl)))) (fun _ h => h) rfl dX1_alike_33 ?_
          refine z_alen (i := 73) (v := 30) hx hb hK hW rfl (by simp [z_tys]) (by rfl) dX1_alike_36 ?_
          refine lv_icmp_ge (tgt := 53) hx hb dX1_alike_37 (by decide) (fun c13 => (by have g := z_f_ge rfl z_l30 c13; omega)) (fun c13 => ?_)
          have g14 := z_f_nge rfl z_l30 c13
          refine lv_aload_n hx hb dX1_alike_40 rfl (lv_at hl 2 rfl) ?_
          refine z_get (T := TX1) (N := 3) (ci := 1) (i := 72) (v := .ref (ad 73)) hx hb hts zj_X1_alike_X1 hown hK hW rfl rfl 0 (by decide) (hts (.fieldLink RX1 9 "PetrolBoard$Deal" "units" "[I") (me_s (me_l (List.mem_of_getElem? (i := 1) rfl)))) (fun _ h => h) rfl dX1_alike_41 ?_
          refine lv_iload_n hx hb dX1_alike_44 rfl (lv_at hl 0 rfl) ?_
          refine lv_iload_n hx hb dX1_alike_45 rfl (lv_at hl 1 rfl) ?_
          refine z_iast (i := 73) hx hb hK hW hS rfl (z_ix rfl (by omega) (by omega)) dX1_alike_46 (fun H locs hz1 hW hS => ?_)
          obtain ⟨I15, eI15⟩ : ∃ K : z_I, K = z_up I6 73 y5.toNatClampNeg 0 := ⟨_, rfl⟩
          rw [← eI15] at hW
          have f16 := z_fr_a lp4fr (show z_wa L_X1_alike 73 = true by decide) eI15
          obtain ⟨x17, ex17⟩ : ∃ y : Int32, y = y5 + 1 := ⟨_, rfl⟩
          have tx17 : x17.toInt = y5.toInt + 1 := z_tadd ex17 rfl z_l1 (by omega) (by omega)
          refine lv_iinc (v := x17) (lv' := [(2, .int x17), (1, .int 0), (0, .ref (ad 72))]) hx hb dX1_alike_47 hl (k := 0) rfl (by rw [ex17]; rfl) (by decide) rfl (fun ls hl => ?_)
          refine lv_goto (tgt := 23) hx hb dX1_alike_50 (by decide) ?_
          exact lp4ih x17 I15  _ _ _ (by omega) (by omega) (by show 0 ≤ (I15 72 2).toInt ∧ (I15 72 2).toInt ≤ 30; rw [eI15, z_up_n (by decide)]; exact lp4D) f16 hW hS (lv_sub hl [0, 1, 2] rfl)
    exact lp4 4294967296 (0) I  _ _ _ (z_m0u _) (by rw [z_l0]; omega) (by show 0 ≤ (I 72 2).toInt ∧ (I 72 2).toInt ≤ 30; exact hD) z_fr_0 hW hS (lv_sub hl [0, 1, 2] rfl)
  · have g18 := z_f_nle rfl z_l0 c2
    refine lv_aload_n hx hb dX1_alike_7 rfl (lv_at hl 0 rfl) ?_
    refine z_ci hW hS hA (va_runV (As := []) (rest := []) ⟨hx, hb, hml, hown, hts⟩ (sx_X1_together l G ad c I (by show 0 ≤ (I 72 2).toInt ∧ (I 72 2).toInt ≤ 30; exact hD)  _) (cwV 0 hts gX1_alike_X1_together rfl rfl rfl hy_X1_together ⟨Nat.le_of_ble_eq_true rfl, Nat.le_of_ble_eq_true rfl⟩) (z_preV (i := 72) hK hW rfl rfl) rfl rfl hl.1 rfl (lv_room (Nat.le_of_ble_eq_true rfl)) dX1_alike_8 ⟨Nat.le_of_ble_eq_true rfl, Nat.le_of_ble_eq_true rfl⟩) (fun r u1 H locs hp hW hS => ?_)
    rw [hp] at hW
    refine lv_topi (fun x19 ex19 => ?_)
    refine lv_aload_n hx hb dX1_alike_11 rfl (lv_at hl 0 rfl) ?_
    refine z_get (T := TX1) (N := 3) (ci := 1) (i := 72) (v := .int (I 72 2)) hx hb hts zj_X1_alike_X1 hown hK hW rfl rfl 2 (by decide) (hts (.fieldLink RX1 18 "PetrolBoard$Deal" "number" "I") (me_s (me_l (List.mem_of_getElem? (i := 0) rfl)))) (fun _ h => h) rfl dX1_alike_12 ?_
    refine lv_idiv hx hb dX1_alike_15 (z_nz rfl (by omega)) ?_
    refine lv_topi (fun x20 ex20 => ?_)
    refine lv_goto (tgt := 20) hx hb dX1_alike_16 (by decide) ?_
    refine lv_istore_n (lv' := [(1, .int x20), (0, .ref (ad 72))]) hx hb dX1_alike_20 rfl hl (by decide) rfl (fun ls hl => ?_)
    refine lv_iconst (v := 0) hx hb dX1_alike_21 (by decide) ?_
    refine lv_istore_n (lv' := [(2, .int 0), (1, .int x20), (0, .ref (ad 72))]) hx hb dX1_alike_22 rfl hl (by decide) rfl (fun ls hl => ?_)
    have lp21 : ∀ (f : Nat) (y22 : Int32) (I23 : z_I) (H : Heap) (locs : List Loc) (ls : Array Slot), (2147483647 < y22.toInt + (f : Int)) → (0 ≤ y22.toInt) → (z_iD I23) → (z_fr L_X1_alike I23 I) → z_W G A (shC c, ad, I23, JX, PC c ad) H → va_S A s.heap H locs → lv_has ls 3 [(2, .int y22), (1, .int x20), (0, .ref (ad 72))] → W p l e (headSpec wsX1_alike { frames := 2, cells := 0, slots := 0, locals := 34 }).room s m ([.ref (ad 72)] : List Value).toArray below meth c0 H locs 0 0 (MQ below (va_Qv (fun (u1 : z_U) => ∃ I1 : z_I, u1 = (shC c, ad, I1, JX, PC c ad) ∧ z_iD I1 ∧ z_fr L_X1_alike I1 I) (z_B G A) A) ([.ref (ad 72)] : List Value).toArray s 0 0 A) (F0 m 23 ls []) := by
      intro f
      induction f with
      | zero => intro y22 I23  H locs ls lp21m lp21l2 lp21D lp21fr hW hS hl; exact absurd lp21m (by have := Int32.toInt_lt y22; have := Int32.le_toInt y22; omega)
      | succ f lp21ih =>
        intro y22 I23  H locs ls lp21m lp21l2 lp21D lp21fr hW hS hl
        refine lv_iload_n hx hb dX1_alike_23 rfl (lv_at hl 0 rfl) ?_
        refine lv_aload_n hx hb dX1_alike_24 rfl (lv_at hl 2 rfl) ?_
        have r24 : 0 ≤ (I23 72 2).toInt ∧ (I23 72 2).toInt ≤ 30 := lp21D
        refine z_get (T := TX1) (N := 3) (ci := 1) (i := 72) (v := .int (I23 72 2)) hx hb hts zj_X1_alike_X1 hown hK hW rfl rfl 2 (by decide) (hts (.fieldLink RX1 18 "PetrolBoard$Deal" "number" "I") (me_s (me_l (List.mem_of_getElem? (i := 0) rfl)))) (fun _ h => h) rfl dX1_alike_25 ?_
        refine lv_icmp_ge (tgt := 53) hx hb dX1_alike_28 (by decide) (fun c25 => ?_) (fun c25 => ?_)
        · have g26 := z_f_ge rfl rfl c25
          have b27 := Int32.toInt_lt y22
          exact z_vret hx hb hr hK hS (Nat.le_of_ble_eq_true rfl) (Nat.le_of_ble_eq_true rfl) hlocks dX1_alike_53 (shC c, ad, I23, JX, PC c ad) hW ⟨I23, rfl, (by show 0 ≤ (I23 72 2).toInt ∧ (I23 72 2).toInt ≤ 30; exact lp21D), lp21fr⟩
        · have g28 := z_f_nge rfl rfl c25
          have b29 := Int32.toInt_lt y22
          refine lv_iload_n hx hb dX1_alike_31 rfl (lv_at hl 0 rfl) ?_
          refine lv_aload_n hx hb dX1_alike_32 rfl (lv_at hl 2 rfl) ?_
          refine z_get (T := TX1) (N := 3) (ci := 1) (i := 72) (v := .ref (ad 73)) hx hb hts zj_X1_alike_X1 hown hK hW rfl rfl 0 (by decide) (hts (.fieldLink RX1 9 "PetrolBoard$Deal" "units" "[I") (me_s (me_l (List.mem_of_getElem? (i := 1) rfl)))) (fun _ h => h) rfl dX1_alike_33 ?_
          refine z_alen (i := 73) (v := 30) hx hb hK hW rfl (by simp [z_tys]) (by rfl) dX1_alike_36 ?_
          refine lv_icmp_ge (tgt := 53) hx hb dX1_alike_37 (by decide) (fun c30 => (by have g := z_f_ge rfl z_l30 c30; omega)) (fun c30 => ?_)
          have g31 := z_f_nge rfl z_l30 c30
          refine lv_aload_n hx hb dX1_alike_40 rfl (lv_at hl 2 rfl) ?_
          refine z_get (T := TX1) (N := 3) (ci := 1) (i := 72) (v := .ref (ad 73)) hx hb hts zj_X1_alike_X1 hown hK hW rfl rfl 0 (by decide) (hts (.fieldLink RX1 9 "PetrolBoard$Deal" "units" "[I") (me_s (me_l (List.mem_of_getElem? (i := 1) rfl)))) (fun _ h => h) rfl dX1_alike_41 ?_
          refine lv_iload_n hx hb dX1_alike_44 rfl (lv_at hl 0 rfl) ?_
          refine lv_iload_n hx hb dX1_alike_45 rfl (lv_at hl 1 rfl) ?_
          refine z_iast (i := 73) hx hb hK hW hS rfl (z_ix rfl (by omega) (by omega)) dX1_alike_46 (fun H locs hz1 hW hS => ?_)
          obtain ⟨I32, eI32⟩ : ∃ K : z_I, K = z_up I23 73 y22.toNatClampNeg x20 := ⟨_, rfl⟩
          rw [← eI32] at hW
          have f33 := z_fr_a lp21fr (show z_wa L_X1_alike 73 = true by decide) eI32
          obtain ⟨x34, ex34⟩ : ∃ y : Int32, y = y22 + 1 := ⟨_, rfl⟩
          have tx34 : x34.toInt = y22.toInt + 1 := z_tadd ex34 rfl z_l1 (by omega) (by omega)
          refine lv_iinc (v := x34) (lv' := [(2, .int x34), (1, .int x20), (0, .ref (ad 72))]) hx hb dX1_alike_47 hl (k := 0) rfl (by rw [ex34]; rfl) (by decide) rfl (fun ls hl => ?_)
          refine lv_goto (tgt := 23) hx hb dX1_alike_50 (by decide) ?_
          exact lp21ih x34 I32  _ _ _ (by omega) (by omega) (by show 0 ≤ (I32 72 2).toInt ∧ (I32 72 2).toInt ≤ 30; rw [eI32, z_up_n (by decide)]; exact lp21D) f33 hW hS (lv_sub hl [0, 1, 2] rfl)
    exact lp21 4294967296 (0) I  _ _ _ (z_m0u _) (by rw [z_l0]; omega) (by show 0 ≤ (I 72 2).toInt ∧ (I 72 2).toInt ≤ 30; exact hD) z_fr_0 hW hS (lv_sub hl [0, 1, 2] rfl)
theorem zj_X1_bestBidder_X1 : ∀ w ∈ wsX10, w ∈ wsX1_bestBidder := fun w h => (List.mem_cons_of_mem _ (List.mem_append_left _ (List.mem_append_right _ h)))
theorem zj_X1_bestBidder_X2 : ∀ w ∈ wsX20, w ∈ wsX1_bestBidder := fun w h => (List.mem_cons_of_mem _ (List.mem_append_right _ h))
set_option maxHeartbeats 8000000 in
set_option maxRecDepth 100000 in
theorem sx_X1_bestBidder (l : Launch) (G : z_G) (ad : Nat → Nat) (c : z_C) (I : z_I) (hD : z_iD I) (hH : z_iH I) : z_M l yX1_bestBidder wsX1_bestBidder { frames := 2, cells := 0, slots := 0, locals := 33 } [.ref (ad 72), .ref (ad 1)] G (shC c, ad, I, JX, PC c ad) (fun r u1 => u1 = (shC c, ad, I, JX, PC c ad)) 0 0 := by
  intro sz
  refine z_headQ (cc := cX1_bestBidder) (maxL := 4) (ret := (some .int)) (by decide) rfl (Nat.le_of_ble_eq_true rfl) ?_
  intro p e s m below meth c0 ls hIn hK hsz hW hl
  obtain ⟨hx, hb, hr, hml, hown, hts, hlocks, hname⟩ := hIn
  subst hsz
  have hown : s.vm.findClass RX1 = some m.cls := hown
  have hA : ∀ q : Nat, s.heap.size ≤ q → z_A (shC c, ad, I, JX, PC c ad) s.heap.size q := fun q h => Or.inr h
  generalize hAe : z_A (shC c, ad, I, JX, PC c ad) s.heap.size = A at *
  have hS : va_S A s.heap s.heap [] := va_S.rf
  have hl : lv_has ls 4 [(0, .ref (ad 72)), (1, .ref (ad 1))] := hl
  refine lv_iconst (v := (-1)) hx hb dX1_bestBidder_0 (by decide) ?_
  refine lv_istore_n (lv' := [(2, .int (-1)), (0, .ref (ad 72)), (1, .ref (ad 1))]) hx hb dX1_bestBidder_1 rfl hl (by decide) rfl (fun ls hl => ?_)
  refine lv_iconst (v := 0) hx hb dX1_bestBidder_2 (by decide) ?_
  refine lv_istore_n (lv' := [(3, .int 0), (2, .int (-1)), (0, .ref (ad 72)), (1, .ref (ad 1))]) hx hb dX1_bestBidder_3 rfl hl (by decide) rfl (fun ls hl => ?_)
  have lp1 : ∀ (f : Nat) (y2 : Int32) (y3 : Int32) (H : Heap) (locs : List Loc) (ls : Array Slot), (2147483647 < y2.toInt + (f : Int)) → (0 ≤ y2.toInt) → ((-1) ≤ y3.toInt) → (y3.toInt ≤ 29) → z_W G A (shC c, ad, I, JX, PC c ad) H → va_S A s.heap H locs → lv_has ls 4 [(3, .int y2), (2, .int y3), (0, .ref (ad 72)), (1, .ref (ad 1))] → W p l e (headSpec wsX1_bestBidder { frames := 2, cells := 0, slots := 0, locals := 33 }).room s m ([.ref (ad 72), .ref (ad 1)] : List Value).toArray below meth c0 H locs 0 0 (MQ below (va_Qi (fun (r : Int32) (u1 : z_U) => u1 = (shC c, ad, I, JX, PC c ad)) (z_B G A) A) ([.ref (ad 72), .ref (ad 1)] : List Value).toArray s 0 0 A) (F0 m 4 ls []) := by
    intro f
    induction f with
    | zero => intro y2 y3 H locs ls lp1m lp1l3 lp1l2 lp1u2 hW hS hl; exact absurd lp1m (by have := Int32.toInt_lt y2; have := Int32.le_toInt y2; omega)
    | succ f lp1ih =>
      intro y2 y3 H locs ls lp1m lp1l3 lp1l2 lp1u2 hW hS hl
      refine lv_iload_n hx hb dX1_bestBidder_4 rfl (lv_at hl 0 rfl) ?_
      refine lv_aload_n hx hb dX1_bestBidder_5 rfl (lv_at hl 2 rfl) ?_
      have r4 : 0 ≤ (I 72 2).toInt ∧ (I 72 2).toInt ≤ 30 := hD
      refine z_get (T := TX1) (N := 3) (ci := 1) (i := 72) (v := .int (I 72 2)) hx hb hts zj_X1_bestBidder_X1 hown hK hW rfl rfl 2 (by decide) (hts (.fieldLink RX1 18 "PetrolBoard$Deal" "number" "I") (me_s (me_l (me_l (List.mem_of_getElem? (i := 0) rfl))))) (fun _ h => h) rfl dX1_bestBidder_6 ?_
      refine lv_icmp_ge (tgt := 57) hx hb dX1_bestBidder_9 (by decide) (fun c5 => ?_) (fun c5 => ?_)
      · have g6 := z_f_ge rfl rfl c5
        have b7 := Int32.toInt_lt y2
        refine lv_iload_n hx hb dX1_bestBidder_57 rfl (lv_at hl 1 rfl) ?_
        exact z_iret hx hb hr hK hS (Nat.le_of_ble_eq_true rfl) (Nat.le_of_ble_eq_true rfl) hlocks dX1_bestBidder_58 (shC c, ad, I, JX, PC c ad) hW rfl
      · have g8 := z_f_nge rfl rfl c5
        have b9 := Int32.toInt_lt y2
        refine lv_aload_n hx hb dX1_bestBidder_12 rfl (lv_at hl 3 rfl) ?_
        refine lv_iload_n hx hb dX1_bestBidder_13 rfl (lv_at hl 0 rfl) ?_
        refine z_ci hW hS hA (va_runV (As := [.int y2]) (rest := []) ⟨hx, hb, hml, hown, hts⟩ (sx_X2_has l G ad c I ⟨(by show 0 ≤ (I 1 5).toInt ∧ (I 1 5).toInt ≤ 30; exact hH.1), (by show 0 ≤ (I 1 11).toInt ∧ (I 1 11).toInt ≤ 200; exact hH.2)⟩ y2 _) (cwV 1 hts gX1_bestBidder_X2_has rfl rfl rfl hy_X2_has ⟨Nat.le_of_ble_eq_true rfl, Nat.le_of_ble_eq_true rfl⟩) (z_preV (i := 1) hK hW rfl rfl) rfl rfl hl.1 rfl (lv_room (Nat.le_of_ble_eq_true rfl)) dX1_bestBidder_14 ⟨Nat.le_of_ble_eq_true rfl, Nat.le_of_ble_eq_true rfl⟩) (fun r u1 H locs hp hW hS => ?_)
        obtain ⟨e9, hp⟩ := hp
        rw [e9] at hW
        rcases hp with ⟨rfl, h10, h11⟩ | rfl
        · refine lv_if_eq (tgt := 57) hx hb dX1_bestBidder_17 (by decide) (fun c12 => absurd c12 (by decide)) (fun c12 => ?_)
          refine lv_aload_n hx hb dX1_bestBidder_20 rfl (lv_at hl 2 rfl) ?_
          refine z_get (T := TX1) (N := 3) (ci := 1) (i := 72) (v := .ref (ad 74)) hx hb hts zj_X1_bestBidder_X1 hown hK hW rfl rfl 1 (by decide) (hts (.fieldLink RX1 15 "PetrolBoard$Deal" "served" "[I") (me_s (me_l (me_l (List.mem_of_getElem? (i := 1) rfl))))) (fun _ h => h) rfl dX1_bestBidder_21 ?_
          refine lv_iload_n hx hb dX1_bestBidder_24 rfl (lv_at hl 0 rfl) ?_
          refine z_iald (i := 74) hx hb hK hW rfl (z_ix rfl (by omega) (by omega)) dX1_bestBidder_25 ?_
          refine lv_topi (fun x13 ex13 => ?_)
          refine lv_if_ne (tgt := 51) hx hb dX1_bestBidder_26 (by decide) (fun c14 => ?_) (fun c14 => ?_)
          · have g15 := z_f_ne rfl z_l0 c14
            have b16 := Int32.toInt_lt x13
            obtain ⟨x17, ex17⟩ : ∃ y : Int32, y = y2 + 1 := ⟨_, rfl⟩
            have tx17 : x17.toInt = y2.toInt + 1 := z_tadd ex17 rfl z_l1 (by omega) (by omega)
            refine lv_iinc (v := x17) (lv' := [(3, .int x17), (2, .int y3), (0, .ref (ad 72)), (1, .ref (ad 1))]) hx hb dX1_bestBidder_51 hl (k := 0) rfl (by rw [ex17]; rfl) (by decide) rfl (fun ls hl => ?_)
            refine lv_goto (tgt := 4) hx hb dX1_bestBidder_54 (by decide) ?_
            exact lp1ih x17 y3 _ _ _ (by omega) (by omega) (by omega) (by omega) hW hS (lv_sub hl [0, 1, 2, 3] rfl)
          · have g18 := z_f_eq rfl z_l0 c14
            have b19 := Int32.toInt_lt x13
            refine lv_iload_n hx hb dX1_bestBidder_29 rfl (lv_at hl 1 rfl) ?_
            refine lv_iconst (v := (-1)) hx hb dX1_bestBidder_30 (by decide) ?_
            refine lv_icmp_eq (tgt := 49) hx hb dX1_bestBidder_31 (by decide) (fun c20 => ?_) (fun c20 => ?_)
            · have g21 := z_f_eq rfl z_lm1 c20
              refine lv_iload_n hx hb dX1_bestBidder_49 rfl (lv_at hl 0 rfl) ?_
              refine lv_istore_n (lv' := [(2, .int y2), (3, .int y2), (0, .ref (ad 72)), (1, .ref (ad 1))]) hx hb dX1_bestBidder_50 rfl hl (by decide) rfl (fun ls hl => ?_)
              obtain ⟨x22, ex22⟩ : ∃ y : Int32, y = y2 + 1 := ⟨_, rfl⟩
              have tx22 : x22.toInt = y2.toInt + 1 := z_tadd ex22 rfl z_l1 (by omega) (by omega)
              refine lv_iinc (v := x22) (lv' := [(3, .int x22), (2, .int y2), (0, .ref (ad 72)), (1, .ref (ad 1))]) hx hb dX1_bestBidder_51 hl (k := 1) rfl (by rw [ex22]; rfl) (by decide) rfl (fun ls hl => ?_)
              refine lv_goto (tgt := 4) hx hb dX1_bestBidder_54 (by decide) ?_
              exact lp1ih x22 y2 _ _ _ (by omega) (by omega) (by omega) (by omega) hW hS (lv_sub hl [0, 1, 2, 3] rfl)
            · have g23 := z_f_ne rfl z_lm1 c20
              refine lv_aload_n hx hb dX1_bestBidder_34 rfl (lv_at hl 3 rfl) ?_
              refine z_get (T := TX2) (N := 12) (ci := 2) (i := 1) (v := .ref (ad 5)) hx hb hts zj_X1_bestBidder_X2 hown hK hW rfl rfl 3 (by decide) (hts (.fieldLink RX1 51 "PetrolBoard$Holders" "bid" "[I") (me_s (me_l (me_l (List.mem_of_getElem? (i := 2) rfl))))) (fun _ h => h) rfl dX1_bestBidder_35 ?_
              refine lv_iload_n hx hb dX1_bestBidder_38 rfl (lv_at hl 0 rfl) ?_
              refine z_iald (i := 5) hx hb hK hW rfl (z_ix rfl (by omega) (by omega)) dX1_bestBidder_39 ?_
              refine lv_topi (fun x24 ex24 => ?_)
              refine lv_aload_n hx hb dX1_bestBidder_40 rfl (lv_at hl 3 rfl) ?_
              refine z_get (T := TX2) (N := 12) (ci := 2) (i := 1) (v := .ref (ad 5)) hx hb hts zj_X1_bestBidder_X2 hown hK hW rfl rfl 3 (by decide) (hts (.fieldLink RX1 51 "PetrolBoard$Holders" "bid" "[I") (me_s (me_l (me_l (List.mem_of_getElem? (i := 2) rfl))))) (fun _ h => h) rfl dX1_bestBidder_41 ?_
              refine lv_iload_n hx hb dX1_bestBidder_44 rfl (lv_at hl 1 rfl) ?_
              refine z_iald (i := 5) hx hb hK hW rfl (z_ix rfl (by omega) (by omega)) dX1_bestBidder_45 ?_
              refine lv_topi (fun x25 ex25 => ?_)
              refine lv_icmp_le (tgt := 51) hx hb dX1_bestBidder_46 (by decide) (fun c26 => ?_) (fun c26 => ?_)
              · have g27 := z_f_le rfl rfl c26
                have b28 := Int32.toInt_lt x24
                have b29 := Int32.toInt_lt x25
                obtain ⟨x30, ex30⟩ : ∃ y : Int32, y = y2 + 1 := ⟨_, rfl⟩
                have tx30 : x30.toInt = y2.toInt + 1 := z_tadd ex30 rfl z_l1 (by omega) (by omega)
                refine lv_iinc (v := x30) (lv' := [(3, .int x30), (2, .int y3), (0, .ref (ad 72)), (1, .ref (ad 1))]) hx hb dX1_bestBidder_51 hl (k := 0) rfl (by rw [ex30]; rfl) (by decide) rfl (fun ls hl => ?_)
                refine lv_goto (tgt := 4) hx hb dX1_bestBidder_54 (by decide) ?_
                exact lp1ih x30 y3 _ _ _ (by omega) (by omega) (by omega) (by omega) hW hS (lv_sub hl [0, 1, 2, 3] rfl)
              · have g31 := z_f_nle rfl rfl c26
                have b32 := Int32.toInt_lt x24
                have b33 := Int32.toInt_lt x25
                refine lv_iload_n hx hb dX1_bestBidder_49 rfl (lv_at hl 0 rfl) ?_
                refine lv_istore_n (lv' := [(2, .int y2), (3, .int y2), (0, .ref (ad 72)), (1, .ref (ad 1))]) hx hb dX1_bestBidder_50 rfl hl (by decide) rfl (fun ls hl => ?_)
                obtain ⟨x34, ex34⟩ : ∃ y : Int32, y = y2 + 1 := ⟨_, rfl⟩
                have tx34 : x34.toInt = y2.toInt + 1 := z_tadd ex34 rfl z_l1 (by omega) (by omega)
                refine lv_iinc (v := x34) (lv' := [(3, .int x34), (2, .int y2), (0, .ref (ad 72)), (1, .ref (ad 1))]) hx hb dX1_bestBidder_51 hl (k := 1) rfl (by rw [ex34]; rfl) (by decide) rfl (fun ls hl => ?_)
                refine lv_goto (tgt := 4) hx hb dX1_bestBidder_54 (by decide) ?_
                exact lp1ih x34 y2 _ _ _ (by omega) (by omega) (by omega) (by omega) hW hS (lv_sub hl [0, 1, 2, 3] rfl)
        · refine lv_if_eq (tgt := 57) hx hb dX1_bestBidder_17 (by decide) (fun c35 => ?_) (fun c35 => absurd (by decide) c35)
          refine lv_iload_n hx hb dX1_bestBidder_57 rfl (lv_at hl 1 rfl) ?_
          exact z_iret hx hb hr hK hS (Nat.le_of_ble_eq_true rfl) (Nat.le_of_ble_eq_true rfl) hlocks dX1_bestBidder_58 (shC c, ad, I, JX, PC c ad) hW rfl
  exact lp1 4294967296 (0) ((-1)) _ _ _ (z_m0u _) (by rw [z_l0]; omega) (by rw [z_lm1]; omega) (by rw [z_lm1]; omega) hW hS (lv_sub hl [0, 1, 2, 3] rfl)
noncomputable def L_X1_sell : z_L := [(73, 999), (74, 999)]
theorem zj_X1_sell_X1 : ∀ w ∈ wsX10, w ∈ wsX1_sell := fun w h => (List.mem_cons_of_mem _ (List.mem_append_left _ (List.mem_append_right _ h)))
theorem zj_X1_sell_X2 : ∀ w ∈ wsX20, w ∈ wsX1_sell := fun w h => (List.mem_cons_of_mem _ (List.mem_append_right _ h))
set_option maxHeartbeats 8000000 in
set_option maxRecDepth 100000 in
theorem sx_X1_sell (l : Launch) (G : z_G) (ad : Nat → Nat) (c : z_C) (I : z_I) (hD : z_iD I) (hH : z_iH I) : z_Mv l yX1_sell wsX1_sell { frames := 3, cells := 0, slots := 0, locals := 56 } [.ref (ad 72), .ref (ad 1)] G (shC c, ad, I, JX, PC c ad) (fun u1 => ∃ I1 : z_I, u1 = (shC c, ad, I1, JX, PC c ad) ∧ z_iD I1 ∧ z_iH I1 ∧ z_fr L_X1_sell I1 I) 0 0 := by
  intro sz
  refine z_headQ (cc := cX1_sell) (maxL := 5) (ret := none) (by decide) rfl (Nat.le_of_ble_eq_true rfl) ?_
  intro p e s m below meth c0 ls hIn hK hsz hW hl
  obtain ⟨hx, hb, hr, hml, hown, hts, hlocks, hname⟩ := hIn
  subst hsz
  have hown : s.vm.findClass RX1 = some m.cls := hown
  have hA : ∀ q : Nat, s.heap.size ≤ q → z_A (shC c, ad, I, JX, PC c ad) s.heap.size q := fun q h => Or.inr h
  generalize hAe : z_A (shC c, ad, I, JX, PC c ad) s.heap.size = A at *
  have hS : va_S A s.heap s.heap [] := va_S.rf
  have hl : lv_has ls 5 [(0, .ref (ad 72)), (1, .ref (ad 1))] := hl
  refine lv_aload_n hx hb dX1_sell_0 rfl (lv_at hl 0 rfl) ?_
  refine z_ci hW hS hA (va_runV (As := []) (rest := []) ⟨hx, hb, hml, hown, hts⟩ (sx_X1_together l G ad c I (by show 0 ≤ (I 72 2).toInt ∧ (I 72 2).toInt ≤ 30; exact hD)  _) (cwV 0 hts gX1_sell_X1_together rfl rfl rfl hy_X1_together ⟨Nat.le_of_ble_eq_true rfl, Nat.le_of_ble_eq_true rfl⟩) (z_preV (i := 72) hK hW rfl rfl) rfl rfl hl.1 rfl (lv_room (Nat.le_of_ble_eq_true rfl)) dX1_sell_1 ⟨Nat.le_of_ble_eq_true rfl, Nat.le_of_ble_eq_true rfl⟩) (fun r u1 H locs hp hW hS => ?_)
  rw [hp] at hW
  refine lv_topi (fun x1 ex1 => ?_)
  refine lv_istore_n (lv' := [(2, .int x1), (0, .ref (ad 72)), (1, .ref (ad 1))]) hx hb dX1_sell_4 rfl hl (by decide) rfl (fun ls hl => ?_)
  refine lv_aload_n hx hb dX1_sell_5 rfl (lv_at hl 1 rfl) ?_
  refine z_get (T := TX1) (N := 3) (ci := 1) (i := 72) (v := .ref (ad 74)) hx hb hts zj_X1_sell_X1 hown hK hW rfl rfl 1 (by decide) (hts (.fieldLink RX1 15 "PetrolBoard$Deal" "served" "[I") (me_s (me_l (me_l (me_l (List.mem_of_getElem? (i := 0) rfl)))))) (fun _ h => h) rfl dX1_sell_6 ?_
  refine lv_iconst (v := 0) hx hb dX1_sell_9 (by decide) ?_
  refine z_cc hW hS hA (va_runS (As := [.ref (ad 74), .int 0]) (rest := []) ⟨hx, hb, hml, hown, hts⟩ (ct_fill l G 74 30 0 rfl (by decide) _) (va_cwS 2 hts gX1_sell_J7_fill_53178 rfl rfl rfl hy_J7_fill_53178.2 ⟨Nat.le_of_ble_eq_true rfl, Nat.le_of_ble_eq_true rfl⟩) (z_preS hK hW) rfl rfl hl.1 rfl (lv_room (Nat.le_of_ble_eq_true rfl)) dX1_sell_10 ⟨Nat.le_of_ble_eq_true rfl, Nat.le_of_ble_eq_true rfl⟩) (fun H locs hz1 hW hS => ?_)
  obtain ⟨I2, eI2⟩ : ∃ K : z_I, K = z_fi I 74 0 := ⟨_, rfl⟩
  rw [← eI2] at hW
  have f3 := z_fr_f z_fr_0 (show z_wa L_X1_sell 74 = true by decide) eI2
  refine lv_iconst (v := 0) hx hb dX1_sell_13 (by decide) ?_
  refine lv_istore_n (lv' := [(3, .int 0), (2, .int x1), (0, .ref (ad 72)), (1, .ref (ad 1))]) hx hb dX1_sell_14 rfl hl (by decide) rfl (fun ls hl => ?_)
  have lp4 : ∀ (f : Nat) (y5 : Int32) (y6 : Int32) (I7 : z_I) (H : Heap) (locs : List Loc) (ls : Array Slot), (2147483647 < y5.toInt + (f : Int)) → (0 ≤ y5.toInt) → (z_iD I7) → (z_iH I7) → (z_fr L_X1_sell I7 I) → z_W G A (shC c, ad, I7, JX, PC c ad) H → va_S A s.heap H locs → lv_has ls 5 [(3, .int y5), (2, .int y6), (0, .ref (ad 72)), (1, .ref (ad 1))] → W p l e (headSpec wsX1_sell { frames := 3, cells := 0, slots := 0, locals := 56 }).room s m ([.ref (ad 72), .ref (ad 1)] : List Value).toArray below meth c0 H locs 0 0 (MQ below (va_Qv (fun (u1 : z_U) => ∃ I1 : z_I, u1 = (shC c, ad, I1, JX, PC c ad) ∧ z_iD I1 ∧ z_iH I1 ∧ z_fr L_X1_sell I1 I) (z_B G A) A) ([.ref (ad 72), .ref (ad 1)] : List Value).toArray s 0 0 A) (F0 m 15 ls []) := by
    intro f
    induction f with
    | zero => intro y5 y6 I7  H locs ls lp4m lp4l3 lp4D lp4H lp4fr hW hS hl; exact absurd lp4m (by have := Int32.toInt_lt y5; have := Int32.le_toInt y5; omega)
    | succ f lp4ih =>
      intro y5 y6 I7  H locs ls lp4m lp4l3 lp4D lp4H lp4fr hW hS hl
      refine lv_iload_n hx hb dX1_sell_15 rfl (lv_at hl 0 rfl) ?_
      refine lv_aload_n hx hb dX1_sell_16 rfl (lv_at hl 2 rfl) ?_
      have r8 : 0 ≤ (I7 72 2).toInt ∧ (I7 72 2).toInt ≤ 30 := lp4D
      refine z_get (T := TX1) (N := 3) (ci := 1) (i := 72) (v := .int (I7 72 2)) hx hb hts zj_X1_sell_X1 hown hK hW rfl rfl 2 (by decide) (hts (.fieldLink RX1 18 "PetrolBoard$Deal" "number" "I") (me_s (me_l (me_l (me_l (List.mem_of_getElem? (i := 1) rfl)))))) (fun _ h => h) rfl dX1_sell_17 ?_
      refine lv_icmp_ge (tgt := 85) hx hb dX1_sell_20 (by decide) (fun c9 => ?_) (fun c9 => ?_)
      · have g10 := z_f_ge rfl rfl c9
        have b11 := Int32.toInt_lt y5
        exact z_vret hx hb hr hK hS (Nat.le_of_ble_eq_true rfl) (Nat.le_of_ble_eq_true rfl) hlocks dX1_sell_85 (shC c, ad, I7, JX, PC c ad) hW ⟨I7, rfl, (by show 0 ≤ (I7 72 2).toInt ∧ (I7 72 2).toInt ≤ 30; exact lp4D), ⟨(by show 0 ≤ (I7 1 5).toInt ∧ (I7 1 5).toInt ≤ 30; exact lp4H.1), (by show 0 ≤ (I7 1 11).toInt ∧ (I7 1 11).toInt ≤ 200; exact lp4H.2)⟩, lp4fr⟩
      · have g12 := z_f_nge rfl rfl c9
        have b13 := Int32.toInt_lt y5
        refine lv_aload_n hx hb dX1_sell_23 rfl (lv_at hl 2 rfl) ?_
        refine lv_aload_n hx hb dX1_sell_24 rfl (lv_at hl 3 rfl) ?_
        refine z_ci hW hS hA (va_runV (As := [.ref (ad 1)]) (rest := []) ⟨hx, hb, hml, hown, hts⟩ (sx_X1_bestBidder l G ad c I7 (by show 0 ≤ (I7 72 2).toInt ∧ (I7 72 2).toInt ≤ 30; exact lp4D) ⟨(by show 0 ≤ (I7 1 5).toInt ∧ (I7 1 5).toInt ≤ 30; exact lp4H.1), (by show 0 ≤ (I7 1 11).toInt ∧ (I7 1 11).toInt ≤ 200; exact lp4H.2)⟩  _) (cwV 1 hts gX1_sell_X1_bestBidder rfl rfl rfl hy_X1_bestBidder ⟨Nat.le_of_ble_eq_true rfl, Nat.le_of_ble_eq_true rfl⟩) (z_preV (i := 72) hK hW rfl rfl) rfl rfl hl.1 rfl (lv_room (Nat.le_of_ble_eq_true rfl)) dX1_sell_25 ⟨Nat.le_of_ble_eq_true rfl, Nat.le_of_ble_eq_true rfl⟩) (fun r u1 H locs hp hW hS => ?_)
        rw [hp] at hW
        refine lv_topi (fun x14 ex14 => ?_)
        refine lv_istore (lv' := [(4, .int x14), (3, .int y5), (2, .int y6), (0, .ref (ad 72)), (1, .ref (ad 1))]) hx hb dX1_sell_28 hl (by decide) rfl (fun ls hl => ?_)
        refine lv_iload hx hb dX1_sell_30 (lv_at hl 0 rfl) ?_
        refine lv_if_lt (tgt := 42) hx hb dX1_sell_32 (by decide) (fun c15 => ?_) (fun c15 => ?_)
        · have g16 := z_f_lt rfl z_l0 c15
          have b17 := Int32.toInt_lt x14
          exact z_vret hx hb hr hK hS (Nat.le_of_ble_eq_true rfl) (Nat.le_of_ble_eq_true rfl) hlocks dX1_sell_42 (shC c, ad, I7, JX, PC c ad) hW ⟨I7, rfl, (by show 0 ≤ (I7 72 2).toInt ∧ (I7 72 2).toInt ≤ 30; exact lp4D), ⟨(by show 0 ≤ (I7 1 5).toInt ∧ (I7 1 5).toInt ≤ 30; exact lp4H.1), (by show 0 ≤ (I7 1 11).toInt ∧ (I7 1 11).toInt ≤ 200; exact lp4H.2)⟩, lp4fr⟩
        · have g18 := z_f_nlt rfl z_l0 c15
          have b19 := Int32.toInt_lt x14
          refine lv_iload hx hb dX1_sell_35 (lv_at hl 0 rfl) ?_
          refine lv_bipush (v := 30) hx hb dX1_sell_37 (by decide) ?_
          refine lv_icmp_lt (tgt := 43) hx hb dX1_sell_39 (by decide) (fun c20 => ?_) (fun c20 => ?_)
          · have g21 := z_f_lt rfl z_l30 c20
            refine lv_aload_n hx hb dX1_sell_43 rfl (lv_at hl 3 rfl) ?_
            refine z_get (T := TX1) (N := 3) (ci := 1) (i := 72) (v := .ref (ad 74)) hx hb hts zj_X1_sell_X1 hown hK hW rfl rfl 1 (by decide) (hts (.fieldLink RX1 15 "PetrolBoard$Deal" "served" "[I") (me_s (me_l (me_l (me_l (List.mem_of_getElem? (i := 0) rfl)))))) (fun _ h => h) rfl dX1_sell_44 ?_
            refine lv_iload hx hb dX1_sell_47 (lv_at hl 0 rfl) ?_
            refine lv_iconst (v := 1) hx hb dX1_sell_49 (by decide) ?_
            refine z_iast (i := 74) hx hb hK hW hS rfl (z_ix rfl (by omega) (by omega)) dX1_sell_50 (fun H locs hz1 hW hS => ?_)
            obtain ⟨I22, eI22⟩ : ∃ K : z_I, K = z_up I7 74 x14.toNatClampNeg 1 := ⟨_, rfl⟩
            rw [← eI22] at hW
            have f23 := z_fr_a lp4fr (show z_wa L_X1_sell 74 = true by decide) eI22
            refine lv_aload_n hx hb dX1_sell_51 rfl (lv_at hl 3 rfl) ?_
            refine z_get (T := TX1) (N := 3) (ci := 1) (i := 72) (v := .ref (ad 73)) hx hb hts zj_X1_sell_X1 hown hK hW rfl rfl 0 (by decide) (hts (.fieldLink RX1 9 "PetrolBoard$Deal" "units" "[I") (me_s (me_l (me_l (me_l (List.mem_of_getElem? (i := 2) rfl)))))) (fun _ h => h) rfl dX1_sell_52 ?_
            refine lv_iload hx hb dX1_sell_55 (lv_at hl 0 rfl) ?_
            refine lv_iload_n hx hb dX1_sell_57 rfl (lv_at hl 2 rfl) ?_
            refine lv_aload_n hx hb dX1_sell_58 rfl (lv_at hl 4 rfl) ?_
            refine z_get (T := TX2) (N := 12) (ci := 2) (i := 1) (v := .ref (ad 6)) hx hb hts zj_X1_sell_X2 hown hK hW rfl rfl 4 (by decide) (hts (.fieldLink RX1 36 "PetrolBoard$Holders" "need" "[I") (me_s (me_l (me_l (me_l (List.mem_of_getElem? (i := 3) rfl)))))) (fun _ h => h) rfl dX1_sell_59 ?_
            refine lv_iload hx hb dX1_sell_62 (lv_at hl 0 rfl) ?_
            refine z_iald (i := 6) hx hb hK hW rfl (z_ix rfl (by omega) (by omega)) dX1_sell_64 ?_
            refine lv_topi (fun x24 ex24 => ?_)
            refine va_mmin (x := y6) (y := x24) hx hb (hml.trans hl.1.symm) hown (hts (.methodLink RX1 41 Lib.Math.min.name) (me_s (me_l (me_l (me_l (List.mem_of_getElem? (i := 4) rfl)))))) (hts (.static Lib.Math.min.name) (me_s (me_l (me_l (me_l (List.mem_of_getElem? (i := 5) rfl)))))) (hts (.initialized "java/lang/Math") (me_s (me_l (me_l (me_l (List.mem_of_getElem? (i := 6) rfl)))))) (hts (.code Lib.Math.min.name Lib.Math.min.code 2 (some .int)) (me_s (me_l (me_l (me_l (List.mem_of_getElem? (i := 7) rfl)))))) (Nat.le_of_ble_eq_true rfl) (Nat.le_of_ble_eq_true rfl) (Nat.le_of_ble_eq_true rfl) (Nat.le_of_ble_eq_true rfl) dX1_sell_65 ?_
            refine lv_topi (fun x25 ex25 => ?_)
            have tx25 := z_tmmin ex25 rfl rfl
            refine z_iast (i := 73) hx hb hK hW hS rfl (z_ix rfl (by omega) (by omega)) dX1_sell_68 (fun H locs hz1 hW hS => ?_)
            obtain ⟨I26, eI26⟩ : ∃ K : z_I, K = z_up I22 73 x14.toNatClampNeg x25 := ⟨_, rfl⟩
            rw [← eI26] at hW
            have f27 := z_fr_a f23 (show z_wa L_X1_sell 73 = true by decide) eI26
            refine lv_iload_n hx hb dX1_sell_69 rfl (lv_at hl 2 rfl) ?_
            refine lv_aload_n hx hb dX1_sell_70 rfl (lv_at hl 3 rfl) ?_
            refine z_get (T := TX1) (N := 3) (ci := 1) (i := 72) (v := .ref (ad 73)) hx hb hts zj_X1_sell_X1 hown hK hW rfl rfl 0 (by decide) (hts (.fieldLink RX1 9 "PetrolBoard$Deal" "units" "[I") (me_s (me_l (me_l (me_l (List.mem_of_getElem? (i := 2) rfl)))))) (fun _ h => h) rfl dX1_sell_71 ?_
            refine lv_iload hx hb dX1_sell_74 (lv_at hl 0 rfl) ?_
            refine z_iald (i := 73) hx hb hK hW rfl (z_ix rfl (by omega) (by omega)) dX1_sell_76 ?_
            refine lv_topi (fun x28 ex28 => ?_)
            refine lv_isub hx hb dX1_sell_77 ?_
            refine lv_topi (fun x29 ex29 => ?_)
            refine lv_istore_n (lv' := [(2, .int x29), (4, .int x14), (3, .int y5), (0, .ref (ad 72)), (1, .ref (ad 1))]) hx hb dX1_sell_78 rfl hl (by decide) rfl (fun ls hl => ?_)
            obtain ⟨x30, ex30⟩ : ∃ y : Int32, y = y5 + 1 := ⟨_, rfl⟩
            have tx30 : x30.toInt = y5.toInt + 1 := z_tadd ex30 rfl z_l1 (by omega) (by omega)
            refine lv_iinc (v := x30) (lv' := [(3, .int x30), (2, .int x29), (4, .int x14), (0, .ref (ad 72)), (1, .ref (ad 1))]) hx hb dX1_sell_79 hl (k := 2) rfl (by rw [ex30]; rfl) (by decide) rfl (fun ls hl => ?_)
            refine lv_goto (tgt := 15) hx hb dX1_sell_82 (by decide) ?_
            exact lp4ih x30 x29 I26  _ _ _ (by omega) (by omega) (by show 0 ≤ (I26 72 2).toInt ∧ (I26 72 2).toInt ≤ 30; rw [eI26, z_up_n (by decide), eI22, z_up_n (by decide)]; exact lp4D) ⟨(by show 0 ≤ (I26 1 5).toInt ∧ (I26 1 5).toInt ≤ 30; rw [eI26, z_up_n (by decide), eI22, z_up_n (by decide)]; exact lp4H.1), (by show 0 ≤ (I26 1 11).toInt ∧ (I26 1 11).toInt ≤ 200; rw [eI26, z_up_n (by decide), eI22, z_up_n (by decide)]; exact lp4H.2)⟩ f27 hW hS (lv_sub hl [0, 1, 3, 4] rfl)
          · have g31 := z_f_nlt rfl z_l30 c20
            exact z_vret hx hb hr hK hS (Nat.le_of_ble_eq_true rfl) (Nat.le_of_ble_eq_true rfl) hlocks dX1_sell_42 (shC c, ad, I7, JX, PC c ad) hW ⟨I7, rfl, (by show 0 ≤ (I7 72 2).toInt ∧ (I7 72 2).toInt ≤ 30; exact lp4D), ⟨(by show 0 ≤ (I7 1 5).toInt ∧ (I7 1 5).toInt ≤ 30; exact lp4H.1), (by show 0 ≤ (I7 1 11).toInt ∧ (I7 1 11).toInt ≤ 200; exact lp4H.2)⟩, lp4fr⟩
  exact lp4 4294967296 (0) x1 I2  _ _ _ (z_m0u _) (by rw [z_l0]; omega) (by show 0 ≤ (I2 72 2).toInt ∧ (I2 72 2).toInt ≤ 30; rw [eI2, z_fi_n (by decide)]; exact hD) ⟨(by show 0 ≤ (I2 1 5).toInt ∧ (I2 1 5).toInt ≤ 30; rw [eI2, z_fi_n (by decide)]; exact hH.1), (by show 0 ≤ (I2 1 11).toInt ∧ (I2 1 11).toInt ≤ 200; rw [eI2, z_fi_n (by decide)]; exact hH.2)⟩ f3 hW hS (lv_sub hl [0, 1, 2, 3] rfl)
set_option maxHeartbeats 8000000 in
set_option maxRecDepth 100000 in
theorem sx_J6_bitCount_0f7a4 (l : Launch) (G : z_G) (ad : Nat → Nat) (c : z_C) (I : z_I) (a1 : Int32) : z_M l yJ6_bitCount_0f7a4 wsJ6_bitCount_0f7a4 { frames := 1, cells := 0, slots := 0, locals := 12 } [.int a1] G (shC c, ad, I, JX, PC c ad) (fun r u1 => u1 = (shC c, ad, I, JX, PC c ad)) 0 0 := by
  intro sz
  refine z_headQ (cc := cJ6_bitCount_0f7a4) (maxL := 1) (ret := (some .int)) (by decide) rfl (Nat.le_of_ble_eq_true rfl) ?_
  intro p e s m below meth c0 ls hIn hK hsz hW hl
  obtain ⟨hx, hb, hr, hml, hown, hts, hlocks, hname⟩ := hIn
  subst hsz
  have hown : s.vm.findClass RJ6 = some m.cls := hown
  have hA : ∀ q : Nat, s.heap.size ≤ q → z_A (shC c, ad, I, JX, PC c ad) s.heap.size q := fun q h => Or.inr h
  generalize hAe : z_A (shC c, ad, I, JX, PC c ad) s.heap.size = A at *
  have hS : va_S A s.heap s.heap [] := va_S.rf
  have hl : lv_has ls 1 [(0, .int a1)] := hl
  refine lv_iload_n hx hb dJ6_bitCount_0f7a4_0 rfl (lv_at hl 0 rfl) ?_
  refine lv_iload_n hx hb dJ6_bitCount_0f7a4_1 rfl (lv_at hl 0 rfl) ?_
  refine lv_iconst (v := 1) hx hb dJ6_bitCount_0f7a4_2 (by decide) ?_
  refine lv_iushr hx hb dJ6_bitCount_0f7a4_3 rfl ?_
  refine lv_topi (fun x1 ex1 => ?_)
  refine lv_ldcw (v := 1431655765) hx hb hown (hts (.constant RJ6 265 (1431655765)) (me_s (List.mem_of_getElem? (i := 0) rfl))) dJ6_bitCount_0f7a4_4 ?_
  refine lv_iand hx hb dJ6_bitCount_0f7a4_7 ?_
  refine lv_topi (fun x2 ex2 => ?_)
  refine lv_isub hx hb dJ6_bitCount_0f7a4_8 ?_
  refine lv_topi (fun x3 ex3 => ?_)
  refine lv_istore_n (lv' := [(0, .int x3)]) hx hb dJ6_bitCount_0f7a4_9 rfl hl (by decide) rfl (fun ls hl => ?_)
  refine lv_iload_n hx hb dJ6_bitCount_0f7a4_10 rfl (lv_at hl 0 rfl) ?_
  refine lv_ldcw (v := 858993459) hx hb hown (hts (.constant RJ6 266 (858993459)) (me_s (List.mem_of_getElem? (i := 1) rfl))) dJ6_bitCount_0f7a4_11 ?_
  refine lv_iand hx hb dJ6_bitCount_0f7a4_14 ?_
  refine lv_topi (fun x4 ex4 => ?_)
  refine lv_iload_n hx hb dJ6_bitCount_0f7a4_15 rfl (lv_at hl 0 rfl) ?_
  refine lv_iconst (v := 2) hx hb dJ6_bitCount_0f7a4_16 (by decide) ?_
  refine lv_iushr hx hb dJ6_bitCount_0f7a4_17 rfl ?_
  refine lv_topi (fun x5 ex5 => ?_)
  refine lv_ldcw (v := 858993459) hx hb hown (hts (.constant RJ6 266 (858993459)) (me_s (List.mem_of_getElem? (i := 1) rfl))) dJ6_bitCount_0f7a4_18 ?_
  refine lv_iand hx hb dJ6_bitCount_0f7a4_21 ?_
  refine lv_topi (fun x6 ex6 => ?_)
  refine lv_iadd hx hb dJ6_bitCount_0f7a4_22 ?_
  refine lv_topi (fun x7 ex7 => ?_)
  refine lv_istore_n (lv' := [(0, .int x7)]) hx hb dJ6_bitCount_0f7a4_23 rfl hl (by decide) rfl (fun ls hl => ?_)
  refine lv_iload_n hx hb dJ6_bitCount_0f7a4_24 rfl (lv_at hl 0 rfl) ?_
  refine lv_iload_n hx hb dJ6_bitCount_0f7a4_25 rfl (lv_at hl 0 rfl) ?_
  refine lv_iconst (v := 4) hx hb dJ6_bitCount_0f7a4_26 (by decide) ?_
  refine lv_iushr hx hb dJ6_bitCount_0f7a4_27 rfl ?_
  refine lv_topi (fun x8 ex8 => ?_)
  refine lv_iadd hx hb dJ6_bitCount_0f7a4_28 ?_
  refine lv_topi (fun x9 ex9 => ?_)
  refine lv_ldcw (v := 252645135) hx hb hown (hts (.constant RJ6 267 (252645135)) (me_s (List.mem_of_getElem? (i := 2) rfl))) dJ6_bitCount_0f7a4_29 ?_
  refine lv_iand hx hb dJ6_bitCount_0f7a4_32 ?_
  refine lv_topi (fun x10 ex10 => ?_)
  refine lv_istore_n (lv' := [(0, .int x10)]) hx hb dJ6_bitCount_0f7a4_33 rfl hl (by decide) rfl (fun ls hl => ?_)
  refine lv_iload_n hx hb dJ6_bitCount_0f7a4_34 rfl (lv_at hl 0 rfl) ?_
  refine lv_iload_n hx hb dJ6_bitCount_0f7a4_35 rfl (lv_at hl 0 rfl) ?_
  refine lv_bipush (v := 8) hx hb dJ6_bitCount_0f7a4_36 (by decide) ?_
  refine lv_iushr hx hb dJ6_bitCount_0f7a4_38 rfl ?_
  refine lv_topi (fun x11 ex11 => ?_)
  refine lv_iadd hx hb dJ6_bitCount_0f7a4_39 ?_
  refine lv_topi (fun x12 ex12 => ?_)
  refine lv_istore_n (lv' := [(0, .int x12)]) hx hb dJ6_bitCount_0f7a4_40 rfl hl (by decide) rfl (fun ls hl => ?_)
  refine lv_iload_n hx hb dJ6_bitCount_0f7a4_41 rfl (lv_at hl 0 rfl) ?_
  refine lv_iload_n hx hb dJ6_bitCount_0f7a4_42 rfl (lv_at hl 0 rfl) ?_
  refine lv_bipush (v := 16) hx hb dJ6_bitCount_0f7a4_43 (by decide) ?_
  refine lv_iushr hx hb dJ6_bitCount_0f7a4_45 rfl ?_
  refine lv_topi (fun x13 ex13 => ?_)
  refine lv_iadd hx hb dJ6_bitCount_0f7a4_46 ?_
  refine lv_topi (fun x14 ex14 => ?_)
  refine lv_istore_n (lv' := [(0, .int x14)]) hx hb dJ6_bitCount_0f7a4_47 rfl hl (by decide) rfl (fun ls hl => ?_)
  refine lv_iload_n hx hb dJ6_bitCount_0f7a4_48 rfl (lv_at hl 0 rfl) ?_
  refine lv_bipush (v := 63) hx hb dJ6_bitCount_0f7a4_49 (by decide) ?_
  refine lv_iand hx hb dJ6_bitCount_0f7a4_51 ?_
  refine lv_topi (fun x15 ex15 => ?_)
  exact z_iret hx hb hr hK hS (Nat.le_of_ble_eq_true rfl) (Nat.le_of_ble_eq_true rfl) hlocks dJ6_bitCount_0f7a4_52 (shC c, ad, I, JX, PC c ad) hW rfl
theorem zj_X3_has_X3 : ∀ w ∈ wsX30, w ∈ wsX3_has := fun w h => (List.mem_cons_of_mem _ (List.mem_append_right _ h))
set_option maxHeartbeats 8000000 in
set_option maxRecDepth 100000 in
theorem sx_X3_has (l : Launch) (G : z_G) (ad : Nat → Nat) (c : z_C) (I : z_I) (hJ : z_iJ I) (a1 : Int32) : z_M l yX3_has wsX3_has { frames := 1, cells := 0, slots := 0, locals := 12 } [.ref (ad 60), .int a1] G (shC c, ad, I, JX, PC c ad) (fun r u1 => u1 = (shC c, ad, I, JX, PC c ad) ∧ (r = 1 ∧ 0 ≤ a1.toInt ∧ a1.toInt ≤ 59 ∨ r = 0)) 0 0 := by
  intro sz
  refine z_headQ (cc := cX3_has) (maxL := 2) (ret := (some .boolean)) (by decide) rfl (Nat.le_of_ble_eq_true rfl) ?_
  intro p e s m below meth c0 ls hIn hK hsz hW hl
  obtain ⟨hx, hb, hr, hml, hown, hts, hlocks, hname⟩ := hIn
  subst hsz
  have hown : s.vm.findClass RX3 = some m.cls := hown
  have hA : ∀ q : Nat, s.heap.size ≤ q → z_A (shC c, ad, I, JX, PC c ad) s.heap.size q := fun q h => Or.inr h
  generalize hAe : z_A (shC c, ad, I, JX, PC c ad) s.heap.size = A at *
  have hS : va_S A s.heap s.heap [] := va_S.rf
  have hl : lv_has ls 2 [(0, .ref (ad 60)), (1, .int a1)] := hl
  refine lv_iload_n hx hb dX3_has_0 rfl (lv_at hl 1 rfl) ?_
  refine lv_if_lt (tgt := 22) hx hb dX3_has_1 (by decide) (fun c1 => ?_) (fun c1 => ?_)
  · have g2 := z_f_lt rfl z_l0 c1
    have b3 := Int32.toInt_lt a1
    refine lv_iconst (v := 0) hx hb dX3_has_22 (by decide) ?_
    exact z_zret hx hb hr (by decide) hK hS (Nat.le_of_ble_eq_true rfl) (Nat.le_of_ble_eq_true rfl) hlocks dX3_has_23 (shC c, ad, I, JX, PC c ad) hW ⟨rfl, Or.inr rfl⟩
  · have g4 := z_f_nlt rfl z_l0 c1
    have b5 := Int32.toInt_lt a1
    refine lv_iload_n hx hb dX3_has_4 rfl (lv_at hl 1 rfl) ?_
    refine lv_aload_n hx hb dX3_has_5 rfl (lv_at hl 0 rfl) ?_
    have r6 : 0 ≤ (I 60 9).toInt ∧ (I 60 9).toInt ≤ 60 := hJ.1
    refine z_get (T := TX3) (N := 17) (ci := 3) (i := 60) (v := .int (I 60 9)) hx hb hts zj_X3_has_X3 hown hK hW rfl rfl 9 (by decide) (hts (.fieldLink RX3 45 "PetrolBoard$Journeys" "number" "I") (me_s (me_l (List.mem_of_getElem? (i := 0) rfl)))) (fun _ h => h) rfl dX3_has_6 ?_
    refine lv_icmp_ge (tgt := 22) hx hb dX3_has_9 (by decide) (fun c7 => ?_) (fun c7 => ?_)
    · have g8 := z_f_ge rfl rfl c7
      refine lv_iconst (v := 0) hx hb dX3_has_22 (by decide) ?_
      exact z_zret hx hb hr (by decide) hK hS (Nat.le_of_ble_eq_true rfl) (Nat.le_of_ble_eq_true rfl) hlocks dX3_has_23 (shC c, ad, I, JX, PC c ad) hW ⟨rfl, Or.inr rfl⟩
    · have g9 := z_f_nge rfl rfl c7
      refine lv_iload_n hx hb dX3_has_12 rfl (lv_at hl 1 rfl) ?_
      refine lv_bipush (v := 60) hx hb dX3_has_13 (by decide) ?_
      refine lv_icmp_ge (tgt := 22) hx hb dX3_has_15 (by decide) (fun c10 => (by have g := z_f_ge rfl z_l60 c10; omega)) (fun c10 => ?_)
      have g11 := z_f_nge rfl z_l60 c10
      refine lv_iconst (v := 1) hx hb dX3_has_18 (by decide) ?_
      refine lv_goto (tgt := 23) hx hb dX3_has_19 (by decide) ?_
      exact z_zret hx hb hr (by decide) hK hS (Nat.le_of_ble_eq_true rfl) (Nat.le_of_ble_eq_true rfl) hlocks dX3_has_23 (shC c, ad, I, JX, PC c ad) hW ⟨rfl, Or.inl ⟨rfl, (by omega), (by omega)⟩⟩
theorem zj_X3_add_X3 : ∀ w ∈ wsX30, w ∈ wsX3_add := fun w h => (List.mem_cons_of_mem _ (List.mem_append_right _ h))
theorem zj_X3_tell_X3 : ∀ w ∈ wsX30, w ∈ wsX3_tell := fun w h => (List.mem_cons_of_mem _ (List.mem_append_right _ h))
set_option maxHeartbeats 8000000 in
set_option maxRecDepth 100000 in
theorem sx_X3_tell (l : Launch) (G : z_G) (ad : Nat → Nat) (c : z_C) (I : z_I) (hJ : z_iJ I) (a1 : Int32) (a2 : Int32) : z_M l yX3_tell wsX3_tell { frames := 2, cells := 0, slots := 0, locals := 33 } [.ref (ad 60), .int a1, .int a2] G (shC c, ad, I, JX, PC c ad) (fun r u1 => u1 = (shC c, ad, I, JX, PC c ad)) 0 0 := by
  intro sz
  refine z_headQ (cc := cX3_tell) (maxL := 3) (ret := (some .int)) (by decide) rfl (Nat.le_of_ble_eq_true rfl) ?_
  intro p e s m below meth c0 ls hIn hK hsz hW hl
  obtain ⟨hx, hb, hr, hml, hown, hts, hlocks, hname⟩ := hIn
  subst hsz
  have hown : s.vm.findClass RX3 = some m.cls := hown
  have hA : ∀ q : Nat, s.heap.size ≤ q → z_A (shC c, ad, I, JX, PC c ad) s.heap.size q := fun q h => Or.inr h
  generalize hAe : z_A (shC c, ad, I, JX, PC c ad) s.heap.size = A at *
  have hS : va_S A s.heap s.heap [] := va_S.rf
  have hl : lv_has ls 3 [(0, .ref (ad 60)), (1, .int a1), (2, .int a2)] := hl
  refine lv_aload_n hx hb dX3_tell_0 rfl (lv_at hl 0 rfl) ?_
  refine lv_iload_n hx hb dX3_tell_1 rfl (lv_at hl 1 rfl) ?_
  refine z_ci hW hS hA (va_runV (As := [.int a1]) (rest := []) ⟨hx, hb, hml, hown, hts⟩ (sx_X3_has l G ad c I ⟨(by show 0 ≤ (I 60 9).toInt ∧ (I 60 9).toInt ≤ 60; exact hJ.1), (by show 0 ≤ (I 60 12).toInt ∧ (I 60 12).toInt ≤ 12; exact hJ.2)⟩ a1 _) (cwV 1 hts gX3_tell_X3_has rfl rfl rfl hy_X3_has ⟨Nat.le_of_ble_eq_true rfl, Nat.le_of_ble_eq_true rfl⟩) (z_preV (i := 60) hK hW rfl rfl) rfl rfl hl.1 rfl (lv_room (Nat.le_of_ble_eq_true rfl)) dX3_tell_2 ⟨Nat.le_of_ble_eq_true rfl, Nat.le_of_ble_eq_true rfl⟩) (fun r u1 H locs hp hW hS => ?_)
  obtain ⟨e9, hp⟩ := hp
  rw [e9] at hW
  rcases hp with ⟨rfl, h1, h2⟩ | rfl
  · refine lv_if_ne (tgt := 10) hx hb dX3_tell_5 (by decide) (fun c3 => ?_) (fun c3 => absurd c3 (by decide))
    refine lv_iload_n hx hb dX3_tell_10 rfl (lv_at hl 2 rfl) ?_
    by_cases q4 : a2 = 0
    · refine lv_tableIn (tgt := 56) hx hb dX3_tell_11 (by rw [q4]; decide) (by rw [q4]; decide) (by rw [q4]; rfl) (by decide) ?_
      refine lv_aload_n hx hb dX3_tell_56 rfl (lv_at hl 0 rfl) ?_
      refine z_get (T := TX3) (N := 17) (ci := 3) (i := 60) (v := .ref (ad 61)) hx hb hts zj_X3_tell_X3 hown hK hW rfl rfl 0 (by decide) (hts (.fieldLink RX3 9 "PetrolBoard$Journeys" "holder" "[I") (me_s (me_l (List.mem_of_getElem? (i := 0) rfl)))) (fun _ h => h) rfl dX3_tell_57 ?_
      refine lv_iload_n hx hb dX3_tell_60 rfl (lv_at hl 1 rfl) ?_
      refine z_iald (i := 61) hx hb hK hW rfl (z_ix rfl (by omega) (by omega)) dX3_tell_61 ?_
      refine lv_topi (fun x5 ex5 => ?_)
      exact z_iret hx hb hr hK hS (Nat.le_of_ble_eq_true rfl) (Nat.le_of_ble_eq_true rfl) hlocks dX3_tell_62 (shC c, ad, I, JX, PC c ad) hW rfl
    by_cases q6 : a2 = 1
    · refine lv_tableIn (tgt := 63) hx hb dX3_tell_11 (by rw [q6]; decide) (by rw [q6]; decide) (by rw [q6]; rfl) (by decide) ?_
      refine lv_aload_n hx hb dX3_tell_63 rfl (lv_at hl 0 rfl) ?_
      refine z_get (T := TX3) (N := 17) (ci := 3) (i := 60) (v := .ref (ad 62)) hx hb hts zj_X3_tell_X3 hown hK hW rfl rfl 1 (by decide) (hts (.fieldLink RX3 15 "PetrolBoard$Journeys" "miles" "[I") (me_s (me_l (List.mem_of_getElem? (i := 1) rfl)))) (fun _ h => h) rfl dX3_tell_64 ?_
      refine lv_iload_n hx hb dX3_tell_67 rfl (lv_at hl 1 rfl) ?_
      refine z_iald (i := 62) hx hb hK hW rfl (z_ix rfl (by omega) (by omega)) dX3_tell_68 ?_
      refine lv_topi (fun x7 ex7 => ?_)
      exact z_iret hx hb hr hK hS (Nat.le_of_ble_eq_true rfl) (Nat.le_of_ble_eq_true rfl) hlocks dX3_tell_69 (shC c, ad, I, JX, PC c ad) hW rfl
    by_cases q8 : a2 = 2
    · refine lv_tableIn (tgt := 70) hx hb dX3_tell_11 (by rw [q8]; decide) (by rw [q8]; decide) (by rw [q8]; rfl) (by decide) ?_
      refine lv_aload_n hx hb dX3_tell_70 rfl (lv_at hl 0 rfl) ?_
      refine z_get (T := TX3) (N := 17) (ci := 3) (i := 60) (v := .ref (ad 63)) hx hb hts zj_X3_tell_X3 hown hK hW rfl rfl 2 (by decide) (hts (.fieldLink RX3 18 "PetrolBoard$Journeys" "people" "[I") (me_s (me_l (List.mem_of_getElem? (i := 2) rfl)))) (fun _ h => h) rfl dX3_tell_71 ?_
      refine lv_iload_n hx hb dX3_tell_74 rfl (lv_at hl 1 rfl) ?_
      refine z_iald (i := 63) hx hb hK hW rfl (z_ix rfl (by omega) (by omega)) dX3_tell_75 ?_
      refine lv_topi (fun x9 ex9 => ?_)
      exact z_iret hx hb hr hK hS (Nat.le_of_ble_eq_true rfl) (Nat.le_of_ble_eq_true rfl) hlocks dX3_tell_76 (shC c, ad, I, JX, PC c ad) hW rfl
    by_cases q10 : a2 = 3
    · refine lv_tableIn (tgt := 77) hx hb dX3_tell_11 (by rw [q10]; decide) (by rw [q10]; decide) (by rw [q10]; rfl) (by decide) ?_
      refine lv_aload_n hx hb dX3_tell_77 rfl (lv_at hl 0 rfl) ?_
      refine z_get (T := TX3) (N := 17) (ci := 3) (i := 60) (v := .ref (ad 64)) hx hb hts zj_X3_tell_X3 hown hK hW rfl rfl 3 (by decide) (hts (.fieldLink RX3 21 "PetrolBoard$Journeys" "reason" "[I") (me_s (me_l (List.mem_of_getElem? (i := 3) rfl)))) (fun _ h => h) rfl dX3_tell_78 ?_
      refine lv_iload_n hx hb dX3_tell_81 rfl (lv_at hl 1 rfl) ?_
      refine z_iald (i := 64) hx hb hK hW rfl (z_ix rfl (by omega) (by omega)) dX3_tell_82 ?_
      refine lv_topi (fun x11 ex11 => ?_)
      exact z_iret hx hb hr hK hS (Nat.le_of_ble_eq_true rfl) (Nat.le_of_ble_eq_true rfl) hlocks dX3_tell_83 (shC c, ad, I, JX, PC c ad) hW rfl
    by_cases q12 : a2 = 4
    · refine lv_tableIn (tgt := 84) hx hb dX3_tell_11 (by rw [q12]; decide) (by rw [q12]; decide) (by rw [q12]; rfl) (by decide) ?_
      refine lv_aload_n hx hb dX3_tell_84 rfl (lv_at hl 0 rfl) ?_
      refine z_get (T := TX3) (N := 17) (ci := 3) (i := 60) (v := .ref (ad 65)) hx hb hts zj_X3_tell_X3 hown hK hW rfl rfl 4 (by decide) (hts (.fieldLink RX3 24 "PetrolBoard$Journeys" "day" "[I") (me_s (me_l (List.mem_of_getElem? (i := 4) rfl)))) (fun _ h => h) rfl dX3_tell_85 ?_
      refine lv_iload_n hx hb dX3_tell_88 rfl (lv_at hl 1 rfl) ?_
      refine z_iald (i := 65) hx hb hK hW rfl (z_ix rfl (by omega) (by omega)) dX3_tell_89 ?_
      refine lv_topi (fun x13 ex13 => ?_)
      exact z_iret hx hb hr hK hS (Nat.le_of_ble_eq_true rfl) (Nat.le_of_ble_eq_true rfl) hlocks dX3_tell_90 (shC c, ad, I, JX, PC c ad) hW rfl
    by_cases q14 : a2 = 5
    · refine lv_tableIn (tgt := 91) hx hb dX3_tell_11 (by rw [q14]; decide) (by rw [q14]; decide) (by rw [q14]; rfl) (by decide) ?_
      refine lv_aload_n hx hb dX3_tell_91 rfl (lv_at hl 0 rfl) ?_
      refine z_get (T := TX3) (N := 17) (ci := 3) (i := 60) (v := .ref (ad 66)) hx hb hts zj_X3_tell_X3 hown hK hW rfl rfl 5 (by decide) (hts (.fieldLink RX3 27 "PetrolBoard$Journeys" "way" "[I") (me_s (me_l (List.mem_of_getElem? (i := 5) rfl)))) (fun _ h => h) rfl dX3_tell_92 ?_
      refine lv_iload_n hx hb dX3_tell_95 rfl (lv_at hl 1 rfl) ?_
      refine z_iald (i := 66) hx hb hK hW rfl (z_ix rfl (by omega) (by omega)) dX3_tell_96 ?_
      refine lv_topi (fun x15 ex15 => ?_)
      exact z_iret hx hb hr hK hS (Nat.le_of_ble_eq_true rfl) (Nat.le_of_ble_eq_true rfl) hlocks dX3_tell_97 (shC c, ad, I, JX, PC c ad) hW rfl
    by_cases q16 : a2 = 6
    · refine lv_tableIn (tgt := 98) hx hb dX3_tell_11 (by rw [q16]; decide) (by rw [q16]; decide) (by rw [q16]; rfl) (by decide) ?_
      refine lv_aload_n hx hb dX3_tell_98 rfl (lv_at hl 0 rfl) ?_
      refine z_get (T := TX3) (N := 17) (ci := 3) (i := 60) (v := .ref (ad 68)) hx hb hts zj_X3_tell_X3 hown hK hW rfl rfl 7 (by decide) (hts (.fieldLink RX3 33 "PetrolBoard$Journeys" "granted" "[I") (me_s (me_l (List.mem_of_getElem? (i := 6) rfl)))) (fun _ h => h) rfl dX3_tell_99 ?_
      refine lv_iload_n hx hb dX3_tell_102 rfl (lv_at hl 1 rfl) ?_
      refine z_iald (i := 68) hx hb hK hW rfl (z_ix rfl (by omega) (by omega)) dX3_tell_103 ?_
      refine lv_topi (fun x17 ex17 => ?_)
      exact z_iret hx hb hr hK hS (Nat.le_of_ble_eq_true rfl) (Nat.le_of_ble_eq_true rfl) hlocks dX3_tell_104 (shC c, ad, I, JX, PC c ad) hW rfl
    by_cases q18 : a2 = 7
    · refine lv_tableIn (tgt := 105) hx hb dX3_tell_11 (by rw [q18]; decide) (by rw [q18]; decide) (by rw [q18]; rfl) (by decide) ?_
      refine lv_aload_n hx hb dX3_tell_105 rfl (lv_at hl 0 rfl) ?_
      refine z_get (T := TX3) (N := 17) (ci := 3) (i := 60) (v := .ref (ad 69)) hx hb hts zj_X3_tell_X3 hown hK hW rfl rfl 8 (by decide) (hts (.fieldLink RX3 36 "PetrolBoard$Journeys" "grantedFirst" "[I") (me_s (me_l (List.mem_of_getElem? (i := 7) rfl)))) (fun _ h => h) rfl dX3_tell_106 ?_
      refine lv_iload_n hx hb dX3_tell_109 rfl (lv_at hl 1 rfl) ?_
      refine z_iald (i := 69) hx hb hK hW rfl (z_ix rfl (by omega) (by omega)) dX3_tell_110 ?_
      refine lv_topi (fun x19 ex19 => ?_)
      exact z_iret hx hb hr hK hS (Nat.le_of_ble_eq_true rfl) (Nat.le_of_ble_eq_true rfl) hlocks dX3_tell_111 (shC c, ad, I, JX, PC c ad) hW rfl
    have q4 := z_f_ne rfl z_l0 q4
    have q6 := z_f_ne rfl z_l1 q6
    have q8 := z_f_ne rfl z_l2 q8
    have q10 := z_f_ne rfl z_l3 q10
    have q12 := z_f_ne rfl z_l4 q12
    have q14 := z_f_ne rfl z_l5 q14
    have q16 := z_f_ne rfl z_l6 q16
    have q18 := z_f_ne rfl z_l7 q18
    refine lv_tableOut (tgt := 112) hx hb dX3_tell_11 (by omega) (by decide) ?_
    refine lv_iconst (v := (-1)) hx hb dX3_tell_112 (by decide) ?_
    exact z_iret hx hb hr hK hS (Nat.le_of_ble_eq_true rfl) (Nat.le_of_ble_eq_true rfl) hlocks dX3_tell_113 (shC c, ad, I, JX, PC c ad) hW rfl
  · refine lv_if_ne (tgt := 10) hx hb dX3_tell_5 (by decide) (fun c20 => absurd (by decide) c20) (fun c20 => ?_)
    refine lv_iconst (v := (-1)) hx hb dX3_tell_8 (by decide) ?_
    exact z_iret hx hb hr hK hS (Nat.le_of_ble_eq_true rfl) (Nat.le_of_ble_eq_true rfl) hlocks dX3_tell_9 (shC c, ad, I, JX, PC c ad) hW rfl
theorem zj_X3_isLike_X3 : ∀ w ∈ wsX30, w ∈ wsX3_isLike := fun w h => (List.mem_cons_of_mem _ (List.mem_append_left _ (List.mem_append_right _ h)))
set_option maxHeartbeats 8000000 in
set_option maxRecDepth 100000 in
theorem sx_X3_isLike (l : Launch) (G : z_G) (ad : Nat → Nat) (c : z_C) (I : z_I) (hJ : z_iJ I) (hH : z_iH I) (a2 : Int32) (a3 : Int32) (a4 : Int32) : z_M l yX3_isLike wsX3_isLike { frames := 2, cells := 0, slots := 0, locals := 40 } [.ref (ad 60), .ref (ad 1), .int a2, .int a3, .int a4] G (shC c, ad, I, JX, PC c ad) (fun r u1 => u1 = (shC c, ad, I, JX, PC c ad) ∧ (r = 1 ∨ r = 0)) 0 0 := by
  intro sz
  refine z_headQ (cc := cX3_isLike) (maxL := 5) (ret := (some .boolean)) (by decide) rfl (Nat.le_of_ble_eq_true rfl) ?_
  intro p e s m below meth c0 ls hIn hK hsz hW hl
  obtain ⟨hx, hb, hr, hml, hown, hts, hlocks, hname⟩ := hIn
  subst hsz
  have hown : s.vm.findClass RX3 = some m.cls := hown
  have hA : ∀ q : Nat, s.heap.size ≤ q → z_A (shC c, ad, I, JX, PC c ad) s.heap.size q := fun q h => Or.inr h
  generalize hAe : z_A (shC c, ad, I, JX, PC c ad) s.heap.size = A at *
  have hS : va_S A s.heap s.heap [] := va_S.rf
  have hl : lv_has ls 5 [(0, .ref (ad 60)), (1, .ref (ad 1)), (2, .int a2), (3, .int a3), (4, .int a4)] := hl
  refine lv_aload_n hx hb dX3_isLike_0 rfl (lv_at hl 0 rfl) ?_
  refine lv_iload_n hx hb dX3_isLike_1 rfl (lv_at hl 2 rfl) ?_
  refine z_ci hW hS hA (va_runV (As := [.int a2]) (rest := []) ⟨hx, hb, hml, hown, hts⟩ (sx_X3_has l G ad c I ⟨(by show 0 ≤ (I 60 9).toInt ∧ (I 60 9).toInt ≤ 60; exact hJ.1), (by show 0 ≤ (I 60 12).toInt ∧ (I 60 12).toInt ≤ 12; exact hJ.2)⟩ a2 _) (cwV 1 hts gX3_isLike_X3_has rfl rfl rfl hy_X3_has ⟨Nat.le_of_ble_eq_true rfl, Nat.le_of_ble_eq_true rfl⟩) (z_preV (i := 60) hK hW rfl rfl) rfl rfl hl.1 rfl (lv_room (Nat.le_of_ble_eq_true rfl)) dX3_isLike_2 ⟨Nat.le_of_ble_eq_true rfl, Nat.le_of_ble_eq_true rfl⟩) (fun r u1 H locs hp hW hS => ?_)
  obtain ⟨e9, hp⟩ := hp
  rw [e9] at hW
  rcases hp with ⟨rfl, h1, h2⟩ | rfl
  · refine lv_if_eq (tgt := 36) hx hb dX3_isLike_5 (by decide) (fun c3 => absurd c3 (by decide)) (fun c3 => ?_)
    refine lv_aload_n hx hb dX3_isLike_8 rfl (lv_at hl 0 rfl) ?_
    refine lv_iload_n hx hb dX3_isLike_9 rfl (lv_at hl 3 rfl) ?_
    refine z_ci hW hS hA (va_runV (As := [.int a3]) (rest := []) ⟨hx, hb, hml, hown, hts⟩ (sx_X3_has l G ad c I ⟨(by show 0 ≤ (I 60 9).toInt ∧ (I 60 9).toInt ≤ 60; exact hJ.1), (by show 0 ≤ (I 60 12).toInt ∧ (I 60 12).toInt ≤ 12; exact hJ.2)⟩ a3 _) (cwV 1 hts gX3_isLike_X3_has rfl rfl rfl hy_X3_has ⟨Nat.le_of_ble_eq_true rfl, Nat.le_of_ble_eq_true rfl⟩) (z_preV (i := 60) hK hW rfl rfl) rfl rfl hl.1 rfl (lv_room (Nat.le_of_ble_eq_true rfl)) dX3_isLike_10 ⟨Nat.le_of_ble_eq_true rfl, Nat.le_of_ble_eq_true rfl⟩) (fun r u1 H locs hp hW hS => ?_)
    obtain ⟨e9, hp⟩ := hp
    rw [e9] at hW
    rcases hp with ⟨rfl, h4, h5⟩ | rfl
    · refine lv_if_eq (tgt := 36) hx hb dX3_isLike_13 (by decide) (fun c6 => absurd c6 (by decide)) (fun c6 => ?_)
      refine lv_iload_n hx hb dX3_isLike_16 rfl (lv_at hl 2 rfl) ?_
      refine lv_iload_n hx hb dX3_isLike_17 rfl (lv_at hl 3 rfl) ?_
      refine lv_icmp_eq (tgt := 36) hx hb dX3_isLike_18 (by decide) (fun c7 => ?_) (fun c7 => ?_)
      · have g8 := z_f_eq rfl rfl c7
        refine lv_iconst (v := 0) hx hb dX3_isLike_36 (by decide) ?_
        exact z_zret hx hb hr (by decide) hK hS (Nat.le_of_ble_eq_true rfl) (Nat.le_of_ble_eq_true rfl) hlocks dX3_isLike_37 (shC c, ad, I, JX, PC c ad) hW ⟨rfl, Or.inr rfl⟩
      · have g9 := z_f_ne rfl rfl c7
        refine lv_aload_n hx hb dX3_isLike_21 rfl (lv_at hl 0 rfl) ?_
        refine z_get (T := TX3) (N := 17) (ci := 3) (i := 60) (v := .ref (ad 68)) hx hb hts zj_X3_isLike_X3 hown hK hW rfl rfl 7 (by decide) (hts (.fieldLink RX3 33 "PetrolBoard$Journeys" "granted" "[I") (me_s (me_l (me_l (me_l (List.mem_of_getElem? (i := 0) rfl)))))) (fun _ h => h) rfl dX3_isLike_22 ?_
        refine lv_iload_n hx hb dX3_isLike_25 rfl (lv_at hl 2 rfl) ?_
        refine z_iald (i := 68) hx hb hK hW rfl (z_ix rfl (by omega) (by omega)) dX3_isLike_26 ?_
        refine lv_topi (fun x10 ex10 => ?_)
        refine lv_aload_n hx hb dX3_isLike_27 rfl (lv_at hl 0 rfl) ?_
        refine z_get (T := TX3) (N := 17) (ci := 3) (i := 60) (v := .ref (ad 68)) hx hb hts zj_X3_isLike_X3 hown hK hW rfl rfl 7 (by decide) (hts (.fieldLink RX3 33 "PetrolBoard$Journeys" "granted" "[I") (me_s (me_l (me_l (me_l (List.mem_of_getElem? (i := 0) rfl)))))) (fun _ h => h) rfl dX3_isLike_28 ?_
        refine lv_iload_n hx hb dX3_isLike_31 rfl (lv_at hl 3 rfl) ?_
        refine z_iald (i := 68) hx hb hK hW rfl (z_ix rfl (by omega) (by omega)) dX3_isLike_32 ?_
        refine lv_topi (fun x11 ex11 => ?_)
        refine lv_icmp_ne (tgt := 38) hx hb dX3_isLike_33 (by decide) (fun c12 => ?_) (fun c12 => ?_)
        · have g13 := z_f_ne rfl rfl c12
          have b14 := Int32.toInt_lt x10
          have b15 := Int32.toInt_lt x11
          refine lv_aload_n hx hb dX3_isLike_38 rfl (lv_at hl 0 rfl) ?_
          refine z_get (T := TX3) (N := 17) (ci := 3) (i := 60) (v := .ref (ad 64)) hx hb hts zj_X3_isLike_X3 hown hK hW rfl rfl 3 (by decide) (hts (.fieldLink RX3 21 "PetrolBoard$Journeys" "reason" "[I") (me_s (me_l (me_l (me_l (List.mem_of_getElem? (i := 1) rfl)))))) (fun _ h => h) rfl dX3_isLike_39 ?_
          refine lv_iload_n hx hb dX3_isLike_42 rfl (lv_at hl 2 rfl) ?_
          refine z_iald (i := 64) hx hb hK hW rfl (z_ix rfl (by omega) (by omega)) dX3_isLike_43 ?_
          refine lv_topi (fun x16 ex16 => ?_)
          refine lv_aload_n hx hb dX3_isLike_44 rfl (lv_at hl 0 rfl) ?_
          refine z_get (T := TX3) (N := 17) (ci := 3) (i := 60) (v := .ref (ad 64)) hx hb hts zj_X3_isLike_X3 hown hK hW rfl rfl 3 (by decide) (hts (.fieldLink RX3 21 "PetrolBoard$Journeys" "reason" "[I") (me_s (me_l (me_l (me_l (List.mem_of_getElem? (i := 1) rfl)))))) (fun _ h => h) rfl dX3_isLike_45 ?_
          refine lv_iload_n hx hb dX3_isLike_48 rfl (lv_at hl 3 rfl) ?_
          refine z_iald (i := 64) hx hb hK hW rfl (z_ix rfl (by omega) (by omega)) dX3_isLike_49 ?_
          refine lv_topi (fun x17 ex17 => ?_)
          refine lv_icmp_ne (tgt := 68) hx hb dX3_isLike_50 (by decide) (fun c18 => ?_) (fun c18 => ?_)
          · have g19 := z_f_ne rfl rfl c18
            have b20 := Int32.toInt_lt x16
            have b21 := Int32.toInt_lt x17
            refine lv_iconst (v := 0) hx hb dX3_isLike_68 (by decide) ?_
            exact z_zret hx hb hr (by decide) hK hS (Nat.le_of_ble_eq_true rfl) (Nat.le_of_ble_eq_true rfl) hlocks dX3_isLike_69 (shC c, ad, I, JX, PC c ad) hW ⟨rfl, Or.inr rfl⟩
          · have g22 := z_f_eq rfl rfl c18
            have b23 := Int32.toInt_lt x16
            have b24 := Int32.toInt_lt x17
            refine lv_aload_n hx hb dX3_isLike_53 rfl (lv_at hl 0 rfl) ?_
            refine z_get (T := TX3) (N := 17) (ci := 3) (i := 60) (v := .ref (ad 63)) hx hb hts zj_X3_isLike_X3 hown hK hW rfl rfl 2 (by decide) (hts (.fieldLink RX3 18 "PetrolBoard$Journeys" "people" "[I") (me_s (me_l (me_l (me_l (List.mem_of_getElem? (i := 2) rfl)))))) (fun _ h => h) rfl dX3_isLike_54 ?_
            refine lv_iload_n hx hb dX3_isLike_57 rfl (lv_at hl 2 rfl) ?_
            refine z_iald (i := 63) hx hb hK hW rfl (z_ix rfl (by omega) (by omega)) dX3_isLike_58 ?_
            refine lv_topi (fun x25 ex25 => ?_)
            refine lv_aload_n hx hb dX3_isLike_59 rfl (lv_at hl 0 rfl) ?_
            refine z_get (T := TX3) (N := 17) (ci := 3) (i := 60) (v := .ref (ad 63)) hx hb hts zj_X3_isLike_X3 hown hK hW rfl rfl 2 (by decide) (hts (.fieldLink RX3 18 "PetrolBoard$Journeys" "people" "[I") (me_s (me_l (me_l (me_l (List.mem_of_getElem? (i := 2) rfl)))))) (fun _ h => h) rfl dX3_isLike_60 ?_
            refine lv_iload_n hx hb dX3_isLike_63 rfl (lv_at hl 3 rfl) ?_
            refine z_iald (i := 63) hx hb hK hW rfl (z_ix rfl (by omega) (by omega)) dX3_isLike_64 ?_
            refine lv_topi (fun x26 ex26 => ?_)
            refine lv_icmp_eq (tgt := 70) hx hb dX3_isLike_65 (by decide) (fun c27 => ?_) (fun c27 => ?_)
            · have g28 := z_f_eq rfl rfl c27
              have b29 := Int32.toInt_lt x25
              have b30 := Int32.toInt_lt x26
              refine lv_aload_n hx hb dX3_isLike_70 rfl (lv_at hl 0 rfl) ?_
              refine z_get (T := TX3) (N := 17) (ci := 3) (i := 60) (v := .ref (ad 62)) hx hb hts zj_X3_isLike_X3 hown hK hW rfl rfl 1 (by decide) (hts (.fieldLink RX3 15 "PetrolBoard$Journeys" "miles" "[I") (me_s (me_l (me_l (me_l (List.mem_of_getElem? (i := 3) rfl)))))) (fun _ h => h) rfl dX3_isLike_71 ?_
              refine lv_iload_n hx hb dX3_isLike_74 rfl (lv_at hl 2 rfl) ?_
              refine z_iald (i := 62) hx hb hK hW rfl (z_ix rfl (by omega) (by omega)) dX3_isLike_75 ?_
              refine lv_topi (fun x31 ex31 => ?_)
              refine lv_aload_n hx hb dX3_isLike_76 rfl (lv_at hl 0 rfl) ?_
              refine z_get (T := TX3) (N := 17) (ci := 3) (i := 60) (v := .ref (ad 62)) hx hb hts zj_X3_isLike_X3 hown hK hW rfl rfl 1 (by decide) (hts (.fieldLink RX3 15 "PetrolBoard$Journeys" "miles" "[I") (me_s (me_l (me_l (me_l (List.mem_of_getElem? (i := 3) rfl)))))) (fun _ h => h) rfl dX3_isLike_77 ?_
              refine lv_iload_n hx hb dX3_isLike_80 rfl (lv_at hl 3 rfl) ?_
              refine z_iald (i := 62) hx hb hK hW rfl (z_ix rfl (by omega) (by omega)) dX3_isLike_81 ?_
              refine lv_topi (fun x32 ex32 => ?_)
              refine lv_isub hx hb dX3_isLike_82 ?_
              refine lv_topi (fun x33 ex33 => ?_)
              refine va_mabs (x := x33) hx hb (hml.trans hl.1.symm) hown (hts (.methodLink RX3 57 Lib.Math.abs.name) (me_s (me_l (me_l (me_l (List.mem_of_getElem? (i := 4) rfl)))))) (hts (.static Lib.Math.abs.name) (me_s (me_l (me_l (me_l (List.mem_of_getElem? (i := 5) rfl)))))) (hts (.initialized "java/lang/Math") (me_s (me_l (me_l (me_l (List.mem_of_getElem? (i := 6) rfl)))))) (hts (.code Lib.Math.abs.name Lib.Math.abs.code 1 (some .int)) (me_s (me_l (me_l (me_l (List.mem_of_getElem? (i := 7) rfl)))))) (Nat.le_of_ble_eq_true rfl) (Nat.le_of_ble_eq_true rfl) (Nat.le_of_ble_eq_true rfl) (Nat.le_of_ble_eq_true rfl) dX3_isLike_83 ?_
              refine lv_topi (fun x34 ex34 => ?_)
              refine lv_aload_n hx hb dX3_isLike_86 rfl (lv_at hl 0 rfl) ?_
              refine z_get (T := TX3) (N := 17) (ci := 3) (i := 60) (v := .ref (ad 62)) hx hb hts zj_X3_isLike_X3 hown hK hW rfl rfl 1 (by decide) (hts (.fieldLink RX3 15 "PetrolBoard$Journeys" "miles" "[I") (me_s (me_l (me_l (me_l (List.mem_of_getElem? (i := 3) rfl)))))) (fun _ h => h) rfl dX3_isLike_87 ?_
              refine lv_iload_n hx hb dX3_isLike_90 rfl (lv_at hl 2 rfl) ?_
              refine z_iald (i := 62) hx hb hK hW rfl (z_ix rfl (by omega) (by omega)) dX3_isLike_91 ?_
              refine z_topi (v := x31) ex31.symm ?_
              refine lv_bipush (v := 10) hx hb dX3_isLike_92 (by decide) ?_
              refine lv_idiv hx hb dX3_isLike_94 (by decide) ?_
              refine lv_topi (fun x35 ex35 => ?_)
              have tx35 := z_tdiv ex35 rfl z_l10 (by decide)
              refine lv_icmp_le (tgt := 100) hx hb dX3_isLike_95 (by decide) (fun c36 => ?_) (fun c36 => ?_)
              · have g37 := z_f_le rfl rfl c36
                have b38 := Int32.toInt_lt x34
                have b39 := Int32.toInt_lt x35
                refine lv_aload_n hx hb dX3_isLike_100 rfl (lv_at hl 1 rfl) ?_
                refine lv_aload_n hx hb dX3_isLike_101 rfl (lv_at hl 0 rfl) ?_
                refine z_get (T := TX3) (N := 17) (ci := 3) (i := 60) (v := .ref (ad 61)) hx hb hts zj_X3_isLike_X3 hown hK hW rfl rfl 0 (by decide) (hts (.fieldLink RX3 9 "PetrolBoard$Journeys" "holder" "[I") (me_s (me_l (me_l (me_l (List.mem_of_getElem? (i := 8) rfl)))))) (fun _ h => h) rfl dX3_isLike_102 ?_
                refine lv_iload_n hx hb dX3_isLike_105 rfl (lv_at hl 2 rfl) ?_
                refine z_iald (i := 61) hx hb hK hW rfl (z_ix rfl (by omega) (by omega)) dX3_isLike_106 ?_
                refine lv_topi (fun x40 ex40 => ?_)
                refine lv_aload_n hx hb dX3_isLike_107 rfl (lv_at hl 0 rfl) ?_
                refine z_get (T := TX3) (N := 17) (ci := 3) (i := 60) (v := .ref (ad 65)) hx hb hts zj_X3_isLike_X3 hown hK hW rfl rfl 4 (by decide) (hts (.fieldLink RX3 24 "PetrolBoard$Journeys" "day" "[I") (me_s (me_l (me_l (me_l (List.mem_of_getElem? (i := 9) rfl)))))) (fun _ h => h) rfl dX3_isLike_108 ?_
                refine lv_iload_n hx hb dX3_isLike_111 rfl (lv_at hl 2 rfl) ?_
                refine z_iald (i := 65) hx hb hK hW rfl (z_ix rfl (by omega) (by omega)) dX3_isLike_112 ?_
                refine lv_topi (fun x41 ex41 => ?_)
                refine lv_iload hx hb dX3_isLike_113 (lv_at hl 4 rfl) ?_
                refine z_ci hW hS hA (va_runV (As := [.int x40, .int x41, .int a4]) (rest := []) ⟨hx, hb, hml, hown, hts⟩ (sx_X2_kindOn l G ad c I ⟨(by show 0 ≤ (I 1 5).toInt ∧ (I 1 5).toInt ≤ 30; exact hH.1), (by show 0 ≤ (I 1 11).toInt ∧ (I 1 11).toInt ≤ 200; exact hH.2)⟩ x40 x41 a4 _) (cwV 3 hts gX3_isLike_X2_kindOn rfl rfl rfl hy_X2_kindOn ⟨Nat.le_of_ble_eq_true rfl, Nat.le_of_ble_eq_true rfl⟩) (z_preV (i := 1) hK hW rfl rfl) rfl rfl hl.1 rfl (lv_room (Nat.le_of_ble_eq_true rfl)) dX3_isLike_115 ⟨Nat.le_of_ble_eq_true rfl, Nat.le_of_ble_eq_true rfl⟩) (fun r u1 H locs hp hW hS => ?_)
                rw [hp] at hW
                refine lv_topi (fun x42 ex42 => ?_)
                refine lv_aload_n hx hb dX3_isLike_118 rfl (lv_at hl 1 rfl) ?_
                refine lv_aload_n hx hb dX3_isLike_119 rfl (lv_at hl 0 rfl) ?_
                refine z_get (T := TX3) (N := 17) (ci := 3) (i := 60) (v := .ref (ad 61)) hx hb hts zj_X3_isLike_X3 hown hK hW rfl rfl 0 (by decide) (hts (.fieldLink RX3 9 "PetrolBoard$Journeys" "holder" "[I") (me_s (me_l (me_l (me_l (List.mem_of_getElem? (i := 8) rfl)))))) (fun _ h => h) rfl dX3_isLike_120 ?_
                refine lv_iload_n hx hb dX3_isLike_123 rfl (lv_at hl 3 rfl) ?_
                refine z_iald (i := 61) hx hb hK hW rfl (z_ix rfl (by omega) (by omega)) dX3_isLike_124 ?_
                refine lv_topi (fun x43 ex43 => ?_)
                refine lv_aload_n hx hb dX3_isLike_125 rfl (lv_at hl 0 rfl) ?_
                refine z_get (T := TX3) (N := 17) (ci := 3) (i := 60) (v := .ref (ad 65)) hx hb hts zj_X3_isLike_X3 hown hK hW rfl rfl 4 (by decide) (hts (.fieldLink RX3 24 "PetrolBoard$Journeys" "day" "[I") (me_s (me_l (me_l (me_l (List.mem_of_getElem? (i := 9) rfl)))))) (fun _ h => h) rfl dX3_isLike_126 ?_
                refine lv_iload_n hx hb dX3_isLike_129 rfl (lv_at hl 3 rfl) ?_
                refine z_iald (i := 65) hx hb hK hW rfl (z_ix rfl (by omega) (by omega)) dX3_isLike_130 ?_
                refine lv_topi (fun x44 ex44 => ?_)
                refine lv_iload hx hb dX3_isLike_131 (lv_at hl 4 rfl) ?_
                refine z_ci hW hS hA (va_runV (As := [.int x43, .int x44, .int a4]) (rest := [.int x42]) ⟨hx, hb, hml, hown, hts⟩ (sx_X2_kindOn l G ad c I ⟨(by show 0 ≤ (I 1 5).toInt ∧ (I 1 5).toInt ≤ 30; exact hH.1), (by show 0 ≤ (I 1 11).toInt ∧ (I 1 11).toInt ≤ 200; exact hH.2)⟩ x43 x44 a4 _) (cwV 3 hts gX3_isLike_X2_kindOn rfl rfl rfl hy_X2_kindOn ⟨Nat.le_of_ble_eq_true rfl, Nat.le_of_ble_eq_true rfl⟩) (z_preV (i := 1) hK hW rfl rfl) rfl rfl hl.1 rfl (lv_room (Nat.le_of_ble_eq_true rfl)) dX3_isLike_133 ⟨Nat.le_of_ble_eq_true rfl, Nat.le_of_ble_eq_true rfl⟩) (fun r u1 H locs hp hW hS => ?_)
                rw [hp] at hW
                refine lv_topi (fun x45 ex45 => ?_)
                refine lv_icmp_ne (tgt := 143) hx hb dX3_isLike_136 (by decide) (fun c46 => ?_) (fun c46 => ?_)
                · have g47 := z_f_ne rfl rfl c46
                  have b48 := Int32.toInt_lt x42
                  have b49 := Int32.toInt_lt x45
                  refine lv_iconst (v := 0) hx hb dX3_isLike_143 (by decide) ?_
                  exact z_zret hx hb hr (by decide) hK hS (Nat.le_of_ble_eq_true rfl) (Nat.le_of_ble_eq_true rfl) hlocks dX3_isLike_144 (shC c, ad, I, JX, PC c ad) hW ⟨rfl, Or.inr rfl⟩
                · have g50 := z_f_eq rfl rfl c46
                  have b51 := Int32.toInt_lt x42
                  have b52 := Int32.toInt_lt x45
                  refine lv_iconst (v := 1) hx hb dX3_isLike_139 (by decide) ?_
                  refine lv_goto (tgt := 144) hx hb dX3_isLike_140 (by decide) ?_
                  exact z_zret hx hb hr (by decide) hK hS (Nat.le_of_ble_eq_true rfl) (Nat.le_of_ble_eq_true rfl) hlocks dX3_isLike_144 (shC c, ad, I, JX, PC c ad) hW ⟨rfl, Or.inl rfl⟩
              · have g53 := z_f_nle rfl rfl c36
                have b54 := Int32.toInt_lt x34
                have b55 := Int32.toInt_lt x35
                refine lv_iconst (v := 0) hx hb dX3_isLike_98 (by decide) ?_
                exact z_zret hx hb hr (by decide) hK hS (Nat.le_of_ble_eq_true rfl) (Nat.le_of_ble_eq_true rfl) hlocks dX3_isLike_99 (shC c, ad, I, JX, PC c ad) hW ⟨rfl, Or.inr rfl⟩
            · have g56 := z_f_ne rfl rfl c27
              have b57 := Int32.toInt_lt x25
              have b58 := Int32.toInt_lt x26
              refine lv_iconst (v := 0) hx hb dX3_isLike_68 (by decide) ?_
              exact z_zret hx hb hr (by decide) hK hS (Nat.le_of_ble_eq_true rfl) (Nat.le_of_ble_eq_true rfl) hlocks dX3_isLike_69 (shC c, ad, I, JX, PC c ad) hW ⟨rfl, Or.inr rfl⟩
        · have g59 := z_f_eq rfl rfl c12
          have b60 := Int32.toInt_lt x10
          have b61 := Int32.toInt_lt x11
          refine lv_iconst (v := 0) hx hb dX3_isLike_36 (by decide) ?_
          exact z_zret hx hb hr (by decide) hK hS (Nat.le_of_ble_eq_true rfl) (Nat.le_of_ble_eq_true rfl) hlocks dX3_isLike_37 (shC c, ad, I, JX, PC c ad) hW ⟨rfl, Or.inr rfl⟩
    · refine lv_if_eq (tgt := 36) hx hb dX3_isLike_13 (by decide) (fun c62 => ?_) (fun c62 => absurd (by decide) c62)
      refine lv_iconst (v := 0) hx hb dX3_isLike_36 (by decide) ?_
      exact z_zret hx hb hr (by decide) hK hS (Nat.le_of_ble_eq_true rfl) (Nat.le_of_ble_eq_true rfl) hlocks dX3_isLike_37 (shC c, ad, I, JX, PC c ad) hW ⟨rfl, Or.inr rfl⟩
  · refine lv_if_eq (tgt := 36) hx hb dX3_isLike_5 (by decide) (fun c63 => ?_) (fun c63 => absurd (by decide) c63)
    refine lv_iconst (v := 0) hx hb dX3_isLike_36 (by decide) ?_
    exact z_zret hx hb hr (by decide) hK hS (Nat.le_of_ble_eq_true rfl) (Nat.le_of_ble_eq_true rfl) hlocks dX3_isLike_37 (shC c, ad, I, JX, PC c ad) hW ⟨rfl, Or.inr rfl⟩
theorem zj_X3_likeOf_X3 : ∀ w ∈ wsX30, w ∈ wsX3_likeOf := fun w h => (List.mem_cons_of_mem _ (List.mem_append_left _ (List.mem_append_right _ h)))
set_option maxHeartbeats 8000000 in
set_option maxRecDepth 100000 in
theorem sx_X3_likeOf (l : Launch) (G : z_G) (ad : Nat → Nat) (c : z_C) (I : z_I) (hJ : z_iJ I) (hH : z_iH I) (a2 : Int32) (a3 : Int32) (a4 : Int32) : z_M l yX3_likeOf wsX3_likeOf { frames := 3, cells := 0, slots := 0, locals := 64 } [.ref (ad 60), .ref (ad 1), .int a2, .int a3, .int a4] G (shC c, ad, I, JX, PC c ad) (fun r u1 => u1 = (shC c, ad, I, JX, PC c ad)) 0 0 := by
  intro sz
  refine z_headQ (cc := cX3_likeOf) (maxL := 7) (ret := (some .int)) (by decide) rfl (Nat.le_of_ble_eq_true rfl) ?_
  intro p e s m below meth c0 ls hIn hK hsz hW hl
  obtain ⟨hx, hb, hr, hml, hown, hts, hlocks, hname⟩ := hIn
  subst hsz
  have hown : s.vm.findClass RX3 = some m.cls := hown
  have hA : ∀ q : Nat, s.heap.size ≤ q → z_A (shC c, ad, I, JX, PC c ad) s.heap.size q := fun q h => Or.inr h
  generalize hAe : z_A (shC c, ad, I, JX, PC c ad) s.heap.size = A at *
  have hS : va_S A s.heap s.heap [] := va_S.rf
  have hl : lv_has ls 7 [(0, .ref (ad 60)), (1, .ref (ad 1)), (2, .int a2), (3, .int a3), (4, .int a4)] := hl
  refine lv_iconst (v := 0) hx hb dX3_likeOf_0 (by decide) ?_
  refine lv_istore (lv' := [(5, .int 0), (0, .ref (ad 60)), (1, .ref (ad 1)), (2, .int a2), (3, .int a3), (4, .int a4)]) hx hb dX3_likeOf_1 hl (by decide) rfl (fun ls hl => ?_)
  refine lv_iconst (v := 0) hx hb dX3_likeOf_3 (by decide) ?_
  refine lv_istore (lv' := [(6, .int 0), (5, .int 0), (0, .ref (ad 60)), (1, .ref (ad 1)), (2, .int a2), (3, .int a3), (4, .int a4)]) hx hb dX3_likeOf_4 hl (by decide) rfl (fun ls hl => ?_)
  have lp1 : ∀ (f : Nat) (y2 : Int32) (y3 : Int32) (H : Heap) (locs : List Loc) (ls : Array Slot), (2147483647 < y2.toInt + (f : Int)) → (0 ≤ y2.toInt) → z_W G A (shC c, ad, I, JX, PC c ad) H → va_S A s.heap H locs → lv_has ls 7 [(6, .int y2), (5, .int y3), (0, .ref (ad 60)), (1, .ref (ad 1)), (2, .int a2), (3, .int a3), (4, .int a4)] → W p l e (headSpec wsX3_likeOf { frames := 3, cells := 0, slots := 0, locals := 64 }).room s m ([.ref (ad 60), .ref (ad 1), .int a2, .int a3, .int a4] : List Value).toArray below meth c0 H locs 0 0 (MQ below (va_Qi (fun (r : Int32) (u1 : z_U) => u1 = (shC c, ad, I, JX, PC c ad)) (z_B G A) A) ([.ref (ad 60), .ref (ad 1), .int a2, .int a3, .int a4] : List Value).toArray s 0 0 A) (F0 m 6 ls []) := by
    intro f
    induction f with
    | zero => intro y2 y3 H locs ls lp1m lp1l6 hW hS hl; exact absurd lp1m (by have := Int32.toInt_lt y2; have := Int32.le_toInt y2; omega)
    | succ f lp1ih =>
      intro y2 y3 H locs ls lp1m lp1l6 hW hS hl
      refine lv_iload hx hb dX3_likeOf_6 (lv_at hl 0 rfl) ?_
      refine lv_aload_n hx hb dX3_likeOf_8 rfl (lv_at hl 2 rfl) ?_
      have r4 : 0 ≤ (I 60 9).toInt ∧ (I 60 9).toInt ≤ 60 := hJ.1
      refine z_get (T := TX3) (N := 17) (ci := 3) (i := 60) (v := .int (I 60 9)) hx hb hts zj_X3_likeOf_X3 hown hK hW rfl rfl 9 (by decide) (hts (.fieldLink RX3 45 "PetrolBoard$Journeys" "number" "I") (me_s (me_l (me_l (me_l (List.mem_of_getElem? (i := 0) rfl)))))) (fun _ h => h) rfl dX3_likeOf_9 ?_
      refine lv_icmp_ge (tgt := 53) hx hb dX3_likeOf_12 (by decide) (fun c5 => ?_) (fun c5 => ?_)
      · have g6 := z_f_ge rfl rfl c5
        have b7 := Int32.toInt_lt y2
        refine lv_iconst (v := (-1)) hx hb dX3_likeOf_53 (by decide) ?_
        exact z_iret hx hb hr hK hS (Nat.le_of_ble_eq_true rfl) (Nat.le_of_ble_eq_true rfl) hlocks dX3_likeOf_54 (shC c, ad, I, JX, PC c ad) hW rfl
      · have g8 := z_f_nge rfl rfl c5
        have b9 := Int32.toInt_lt y2
        refine lv_iload hx hb dX3_likeOf_15 (lv_at hl 0 rfl) ?_
        refine lv_bipush (v := 60) hx hb dX3_likeOf_17 (by decide) ?_
        refine lv_icmp_ge (tgt := 53) hx hb dX3_likeOf_19 (by decide) (fun c10 => (by have g := z_f_ge rfl z_l60 c10; omega)) (fun c10 => ?_)
        have g11 := z_f_nge rfl z_l60 c10
        refine lv_aload_n hx hb dX3_likeOf_22 rfl (lv_at hl 2 rfl) ?_
        refine lv_aload_n hx hb dX3_likeOf_23 rfl (lv_at hl 3 rfl) ?_
        refine lv_iload_n hx hb dX3_likeOf_24 rfl (lv_at hl 4 rfl) ?_
        refine lv_iload hx hb dX3_likeOf_25 (lv_at hl 0 rfl) ?_
        refine lv_iload hx hb dX3_likeOf_27 (lv_at hl 6 rfl) ?_
        refine z_ci hW hS hA (va_runV (As := [.ref (ad 1), .int a2, .int y2, .int a4]) (rest := []) ⟨hx, hb, hml, hown, hts⟩ (sx_X3_isLike l G ad c I ⟨(by show 0 ≤ (I 60 9).toInt ∧ (I 60 9).toInt ≤ 60; exact hJ.1), (by show 0 ≤ (I 60 12).toInt ∧ (I 60 12).toInt ≤ 12; exact hJ.2)⟩ ⟨(by show 0 ≤ (I 1 5).toInt ∧ (I 1 5).toInt ≤ 30; exact hH.1), (by show 0 ≤ (I 1 11).toInt ∧ (I 1 11).toInt ≤ 200; exact hH.2)⟩ a2 y2 a4 _) (cwV 4 hts gX3_likeOf_X3_isLike rfl rfl rfl hy_X3_isLike ⟨Nat.le_of_ble_eq_true rfl, Nat.le_of_ble_eq_true rfl⟩) (z_preV (i := 60) hK hW rfl rfl) rfl rfl hl.1 rfl (lv_room (Nat.le_of_ble_eq_true rfl)) dX3_likeOf_29 ⟨Nat.le_of_ble_eq_true rfl, Nat.le_of_ble_eq_true rfl⟩) (fun r u1 H locs hp hW hS => ?_)
        obtain ⟨e9, hp⟩ := hp
        rw [e9] at hW
        rcases hp with rfl | rfl
        · refine lv_if_eq (tgt := 47) hx hb dX3_likeOf_32 (by decide) (fun c12 => absurd c12 (by decide)) (fun c12 => ?_)
          refine lv_iload hx hb dX3_likeOf_35 (lv_at hl 1 rfl) ?_
          refine lv_iload_n hx hb dX3_likeOf_37 rfl (lv_at hl 5 rfl) ?_
          refine lv_icmp_ne (tgt := 44) hx hb dX3_likeOf_38 (by decide) (fun c13 => ?_) (fun c13 => ?_)
          · have g14 := z_f_ne rfl rfl c13
            have b15 := Int32.toInt_lt y3
            have b16 := Int32.toInt_lt a3
            obtain ⟨x17, ex17⟩ : ∃ y : Int32, y = y3 + 1 := ⟨_, rfl⟩
            refine lv_iinc (v := x17) (lv' := [(5, .int x17), (6, .int y2), (0, .ref (ad 60)), (1, .ref (ad 1)), (2, .int a2), (3, .int a3), (4, .int a4)]) hx hb dX3_likeOf_44 hl (k := 1) rfl (by rw [ex17]; rfl) (by decide) rfl (fun ls hl => ?_)
            obtain ⟨x18, ex18⟩ : ∃ y : Int32, y = y2 + 1 := ⟨_, rfl⟩
            have tx18 : x18.toInt = y2.toInt + 1 := z_tadd ex18 rfl z_l1 (by omega) (by omega)
            refine lv_iinc (v := x18) (lv' := [(6, .int x18), (5, .int x17), (0, .ref (ad 60)), (1, .ref (ad 1)), (2, .int a2), (3, .int a3), (4, .int a4)]) hx hb dX3_likeOf_47 hl (k := 1) rfl (by rw [ex18]; rfl) (by decide) rfl (fun ls hl => ?_)
            refine lv_goto (tgt := 6) hx hb dX3_likeOf_50 (by decide) ?_
            exact lp1ih x18 x17 _ _ _ (by omega) (by omega) hW hS (lv_sub hl [0, 1, 2, 3, 4, 5, 6] rfl)
          · have g19 := z_f_eq rfl rfl c13
            have b20 := Int32.toInt_lt y3
            have b21 := Int32.toInt_lt a3
            refine lv_iload hx hb dX3_likeOf_41 (lv_at hl 0 rfl) ?_
            exact z_iret hx hb hr hK hS (Nat.le_of_ble_eq_true rfl) (Nat.le_of_ble_eq_true rfl) hlocks dX3_likeOf_43 (shC c, ad, I, JX, PC c ad) hW rfl
        · refine lv_if_eq (tgt := 47) hx hb dX3_likeOf_32 (by decide) (fun c22 => ?_) (fun c22 => absurd (by decide) c22)
          obtain ⟨x23, ex23⟩ : ∃ y : Int32, y = y2 + 1 := ⟨_, rfl⟩
          have tx23 : x23.toInt = y2.toInt + 1 := z_tadd ex23 rfl z_l1 (by omega) (by omega)
          refine lv_iinc (v := x23) (lv' := [(6, .int x23), (5, .int y3), (0, .ref (ad 60)), (1, .ref (ad 1)), (2, .int a2), (3, .int a3), (4, .int a4)]) hx hb dX3_likeOf_47 hl (k := 0) rfl (by rw [ex23]; rfl) (by decide) rfl (fun ls hl => ?_)
          refine lv_goto (tgt := 6) hx hb dX3_likeOf_50 (by decide) ?_
          exact lp1ih x23 y3 _ _ _ (by omega) (by omega) hW hS (lv_sub hl [0, 1, 2, 3, 4, 5, 6] rfl)
  exact lp1 4294967296 (0) (0) _ _ _ (z_m0u _) (by rw [z_l0]; omega) hW hS (lv_sub hl [0, 1, 2, 3, 4, 5, 6] rfl)
noncomputable def L_X3_gather : z_L := [(70, 999), (71, 999), (60, 12), (60, 13)]
theorem zj_X3_gather_X2 : ∀ w ∈ wsX20, w ∈ wsX3_gather := fun w h => (List.mem_cons_of_mem _ (List.mem_append_right _ h))
theorem zj_X3_gather_X3 : ∀ w ∈ wsX30, w ∈ wsX3_gather := fun w h => (List.mem_cons_of_mem _ (List.mem_append_left _ (List.mem_append_right _ h)))
set_option maxHeartbeats 8000000 in
set_option maxRecDepth 100000 in
theorem sx_X3_gather (l : Launch) (G : z_G) (ad : Nat → Nat) (c : z_C) (I : z_I) (hJ : z_iJ I) (hH : z_iH I) (a2 : Int32) (a3 : Int32) : z_Mv l yX3_gather wsX3_gather { frames := 2, cells := 0, slots := 0, locals := 33 } [.ref (ad 60), .ref (ad 1), .int a2, .int a3] G (shC c, ad, I, JX, PC c ad) (fun u1 => ∃ I1 : z_I, u1 = (shC c, ad, I1, JX, PC c ad) ∧ z_iJ I1 ∧ z_iH I1 ∧ z_fr L_X3_gather I1 I) 0 0 := by
  intro sz
  refine z_headQ (cc := cX3_gather) (maxL := 5) (ret := none) (by decide) rfl (Nat.le_of_ble_eq_true rfl) ?_
  intro p e s m below meth c0 ls hIn hK hsz hW hl
  obtain ⟨hx, hb, hr, hml, hown, hts, hlocks, hname⟩ := hIn
  subst hsz
  have hown : s.vm.findClass RX3 = some m.cls := hown
  have hA : ∀ q : Nat, s.heap.size ≤ q → z_A (shC c, ad, I, JX, PC c ad) s.heap.size q := fun q h => Or.inr h
  generalize hAe : z_A (shC c, ad, I, JX, PC c ad) s.heap.size = A at *
  have hS : va_S A s.heap s.heap [] := va_S.rf
  have hl : lv_has ls 5 [(0, .ref (ad 60)), (1, .ref (ad 1)), (2, .int a2), (3, .int a3)] := hl
  refine lv_aload_n hx hb dX3_gather_0 rfl (lv_at hl 0 rfl) ?_
  refine lv_iconst (v := 0) hx hb dX3_gather_1 (by decide) ?_
  refine z_put (T := TX3) (N := 17) (ci := 3) (i := 60) (v := .int 0) (I1 := z_up I 60 12 0) (J1 := JX) (P1 := PC c ad) hx hb hts zj_X3_gather_X3 tyX3 tyX3_ok nmX3 hown hK hW hS rfl rfl 12 (by decide) (hts (.fieldLink RX3 76 "PetrolBoard$Journeys" "pooled" "I") (me_s (me_l (me_l (List.mem_of_getElem? (i := 0) rfl))))) (fun _ h => h) rfl rfl rfl (by first | rfl | exact congrArg _ z_up_s) (fun a b h ty => z_vI h ty) dX3_gather_2 (fun H locs hz1 hW hS => ?_)
  obtain ⟨I1, eI1⟩ : ∃ K : z_I, K = z_up I 60 12 0 := ⟨_, rfl⟩
  rw [← eI1] at hW
  have f2 := z_fr_k z_fr_0 (show z_wr L_X3_gather 60 12 = true by decide) eI1
  refine lv_aload_n hx hb dX3_gather_5 rfl (lv_at hl 0 rfl) ?_
  refine lv_iconst (v := 0) hx hb dX3_gather_6 (by decide) ?_
  refine z_put (T := TX3) (N := 17) (ci := 3) (i := 60) (v := .int 0) (I1 := z_up I1 60 13 0) (J1 := JX) (P1 := PC c ad) hx hb hts zj_X3_gather_X3 tyX3 tyX3_ok nmX3 hown hK hW hS rfl rfl 13 (by decide) (hts (.fieldLink RX3 87 "PetrolBoard$Journeys" "poolPeople" "I") (me_s (me_l (me_l (List.mem_of_getElem? (i := 1) rfl))))) (fun _ h => h) rfl rfl rfl (by first | rfl | exact congrArg _ z_up_s) (fun a b h ty => z_vI h ty) dX3_gather_7 (fun H locs hz1 hW hS => ?_)
  obtain ⟨I3, eI3⟩ : ∃ K : z_I, K = z_up I1 60 13 0 := ⟨_, rfl⟩
  rw [← eI3] at hW
  have f4 := z_fr_k f2 (show z_wr L_X3_gather 60 13 = true by decide) eI3
  refine lv_iconst (v := 0) hx hb dX3_gather_10 (by decide) ?_
  refine lv_istore (lv' := [(4, .int 0), (0, .ref (ad 60)), (1, .ref (ad 1)), (2, .int a2), (3, .int a3)]) hx hb dX3_gather_11 hl (by decide) rfl (fun ls hl => ?_)
  have lp5 : ∀ (f : Nat) (y6 : Int32) (I7 : z_I) (H : Heap) (locs : List Loc) (ls : Array Slot), (2147483647 < y6.toInt + (f : Int)) → (0 ≤ y6.toInt) → (z_iJ I7) → (z_iH I7) → (z_fr L_X3_gather I7 I) → z_W G A (shC c, ad, I7, JX, PC c ad) H → va_S A s.heap H locs → lv_has ls 5 [(4, .int y6), (0, .ref (ad 60)), (1, .ref (ad 1)), (2, .int a2), (3, .int a3)] → W p l e (headSpec wsX3_gather { frames := 2, cells := 0, slots := 0, locals := 33 }).room s m ([.ref (ad 60), .ref (ad 1), .int a2, .int a3] : List Value).toArray below meth c0 H locs 0 0 (MQ below (va_Qv (fun (u1 : z_U) => ∃ I1 : z_I, u1 = (shC c, ad, I1, JX, PC c ad) ∧ z_iJ I1 ∧ z_iH I1 ∧ z_fr L_X3_gather I1 I) (z_B G A) A) ([.ref (ad 60), .ref (ad 1), .int a2, .int a3] : List Value).toArray s 0 0 A) (F0 m 13 ls []) := by
    intro f
    induction f with
    | zero => intro y6 I7  H locs ls lp5m lp5l4 lp5J lp5H lp5fr hW hS hl; exact absurd lp5m (by have := Int32.toInt_lt y6; have := Int32.le_toInt y6; omega)
    | succ f lp5ih =>
      intro y6 I7  H locs ls lp5m lp5l4 lp5J lp5H lp5fr hW hS hl
      refine lv_iload hx hb dX3_gather_13 (lv_at hl 0 rfl) ?_
      refine lv_aload_n hx hb dX3_gather_15 rfl (lv_at hl 1 rfl) ?_
      have r8 : 0 ≤ (I7 60 9).toInt ∧ (I7 60 9).toInt ≤ 60 := lp5J.1
      refine z_get (T := TX3) (N := 17) (ci := 3) (i := 60) (v := .int (I7 60 9)) hx hb hts zj_X3_gather_X3 hown hK hW rfl rfl 9 (by decide) (hts (.fieldLink RX3 45 "PetrolBoard$Journeys" "number" "I") (me_s (me_l (me_l (List.mem_of_getElem? (i := 2) rfl))))) (fun _ h => h) rfl dX3_gather_16 ?_
      refine lv_icmp_ge (tgt := 156) hx hb dX3_gather_19 (by decide) (fun c9 => ?_) (fun c9 => ?_)
      · have g10 := z_f_ge rfl rfl c9
        have b11 := Int32.toInt_lt y6
        exact z_vret hx hb hr hK hS (Nat.le_of_ble_eq_true rfl) (Nat.le_of_ble_eq_true rfl) hlocks dX3_gather_156 (shC c, ad, I7, JX, PC c ad) hW ⟨I7, rfl, ⟨(by show 0 ≤ (I7 60 9).toInt ∧ (I7 60 9).toInt ≤ 60; exact lp5J.1), (by show 0 ≤ (I7 60 12).toInt ∧ (I7 60 12).toInt ≤ 12; exact lp5J.2)⟩, ⟨(by show 0 ≤ (I7 1 5).toInt ∧ (I7 1 5).toInt ≤ 30; exact lp5H.1), (by show 0 ≤ (I7 1 11).toInt ∧ (I7 1 11).toInt ≤ 200; exact lp5H.2)⟩, lp5fr⟩
      · have g12 := z_f_nge rfl rfl c9
        have b13 := Int32.toInt_lt y6
        refine lv_iload hx hb dX3_gather_22 (lv_at hl 0 rfl) ?_
        refine lv_bipush (v := 60) hx hb dX3_gather_24 (by decide) ?_
        refine lv_icmp_ge (tgt := 156) hx hb dX3_gather_26 (by decide) (fun c14 => (by have g := z_f_ge rfl z_l60 c14; omega)) (fun c14 => ?_)
        have g15 := z_f_nge rfl z_l60 c14
        refine lv_aload_n hx hb dX3_gather_29 rfl (lv_at hl 1 rfl) ?_
        have r16 : 0 ≤ (I7 60 12).toInt ∧ (I7 60 12).toInt ≤ 12 := lp5J.2
        refine z_get (T := TX3) (N := 17) (ci := 3) (i := 60) (v := .int (I7 60 12)) hx hb hts zj_X3_gather_X3 hown hK hW rfl rfl 12 (by decide) (hts (.fieldLink RX3 76 "PetrolBoard$Journeys" "pooled" "I") (me_s (me_l (me_l (List.mem_of_getElem? (i := 0) rfl))))) (fun _ h => h) rfl dX3_gather_30 ?_
        refine lv_bipush (v := 12) hx hb dX3_gather_33 (by decide) ?_
        refine lv_icmp_ge (tgt := 156) hx hb dX3_gather_35 (by decide) (fun c17 => ?_) (fun c17 => ?_)
        · have g18 := z_f_ge rfl z_l12 c17
          exact z_vret hx hb hr hK hS (Nat.le_of_ble_eq_true rfl) (Nat.le_of_ble_eq_true rfl) hlocks dX3_gather_156 (shC c, ad, I7, JX, PC c ad) hW ⟨I7, rfl, ⟨(by show 0 ≤ (I7 60 9).toInt ∧ (I7 60 9).toInt ≤ 60; exact lp5J.1), (by show 0 ≤ (I7 60 12).toInt ∧ (I7 60 12).toInt ≤ 12; exact lp5J.2)⟩, ⟨(by show 0 ≤ (I7 1 5).toInt ∧ (I7 1 5).toInt ≤ 30; exact lp5H.1), (by show 0 ≤ (I7 1 11).toInt ∧ (I7 1 11).toInt ≤ 200; exact lp5H.2)⟩, lp5fr⟩
        · have g19 := z_f_nge rfl z_l12 c17
          refine lv_aload_n hx hb dX3_gather_38 rfl (lv_at hl 1 rfl) ?_
          refine z_get (T := TX3) (N := 17) (ci := 3) (i := 60) (v := .ref (ad 65)) hx hb hts zj_X3_gather_X3 hown hK hW rfl rfl 4 (by decide) (hts (.fieldLink RX3 24 "PetrolBoard$Journeys" "day" "[I") (me_s (me_l (me_l (List.mem_of_getElem? (i := 3) rfl))))) (fun _ h => h) rfl dX3_gather_39 ?_
          refine lv_iload hx hb dX3_gather_42 (lv_at hl 0 rfl) ?_
          refine z_iald (i := 65) hx hb hK hW rfl (z_ix rfl (by omega) (by omega)) dX3_gather_44 ?_
          refine lv_topi (fun x20 ex20 => ?_)
          refine lv_iload_n hx hb dX3_gather_45 rfl (lv_at hl 3 rfl) ?_
          refine lv_icmp_ne (tgt := 150) hx hb dX3_gather_46 (by decide) (fun c21 => ?_) (fun c21 => ?_)
          · have g22 := z_f_ne rfl rfl c21
            have b23 := Int32.toInt_lt x20
            have b24 := Int32.toInt_lt a2
            obtain ⟨x25, ex25⟩ : ∃ y : Int32, y = y6 + 1 := ⟨_, rfl⟩
            have tx25 : x25.toInt = y6.toInt + 1 := z_tadd ex25 rfl z_l1 (by omega) (by omega)
            refine lv_iinc (v := x25) (lv' := [(4, .int x25), (0, .ref (ad 60)), (1, .ref (ad 1)), (2, .int a2), (3, .int a3)]) hx hb dX3_gather_150 hl (k := 0) rfl (by rw [ex25]; rfl) (by decide) rfl (fun ls hl => ?_)
            refine lv_goto (tgt := 13) hx hb dX3_gather_153 (by decide) ?_
            exact lp5ih x25 I7  _ _ _ (by omega) (by omega) ⟨(by show 0 ≤ (I7 60 9).toInt ∧ (I7 60 9).toInt ≤ 60; exact lp5J.1), (by show 0 ≤ (I7 60 12).toInt ∧ (I7 60 12).toInt ≤ 12; exact lp5J.2)⟩ ⟨(by show 0 ≤ (I7 1 5).toInt ∧ (I7 1 5).toInt ≤ 30; exact lp5H.1), (by show 0 ≤ (I7 1 11).toInt ∧ (I7 1 11).toInt ≤ 200; exact lp5H.2)⟩ lp5fr hW hS (lv_sub hl [0, 1, 2, 3, 4] rfl)
          · have g26 := z_f_eq rfl rfl c21
            have b27 := Int32.toInt_lt x20
            have b28 := Int32.toInt_lt a2
            refine lv_aload_n hx hb dX3_gather_49 rfl (lv_at hl 1 rfl) ?_
            refine z_get (T := TX3) (N := 17) (ci := 3) (i := 60) (v := .ref (ad 66)) hx hb hts zj_X3_gather_X3 hown hK hW rfl rfl 5 (by decide) (hts (.fieldLink RX3 27 "PetrolBoard$Journeys" "way" "[I") (me_s (me_l (me_l (List.mem_of_getElem? (i := 4) rfl))))) (fun _ h => h) rfl dX3_gather_50 ?_
            refine lv_iload hx hb dX3_gather_53 (lv_at hl 0 rfl) ?_
            refine z_iald (i := 66) hx hb hK hW rfl (z_ix rfl (by omega) (by omega)) dX3_gather_55 ?_
            refine lv_topi (fun x29 ex29 => ?_)
            refine lv_iload_n hx hb dX3_gather_56 rfl (lv_at hl 4 rfl) ?_
            refine lv_icmp_ne (tgt := 150) hx hb dX3_gather_57 (by decide) (fun c30 => ?_) (fun c30 => ?_)
            · have g31 := z_f_ne rfl rfl c30
              have b32 := Int32.toInt_lt x29
              have b33 := Int32.toInt_lt a3
              obtain ⟨x34, ex34⟩ : ∃ y : Int32, y = y6 + 1 := ⟨_, rfl⟩
              have tx34 : x34.toInt = y6.toInt + 1 := z_tadd ex34 rfl z_l1 (by omega) (by omega)
              refine lv_iinc (v := x34) (lv' := [(4, .int x34), (0, .ref (ad 60)), (1, .ref (ad 1)), (2, .int a2), (3, .int a3)]) hx hb dX3_gather_150 hl (k := 0) rfl (by rw [ex34]; rfl) (by decide) rfl (fun ls hl => ?_)
              refine lv_goto (tgt := 13) hx hb dX3_gather_153 (by decide) ?_
              exact lp5ih x34 I7  _ _ _ (by omega) (by omega) ⟨(by show 0 ≤ (I7 60 9).toInt ∧ (I7 60 9).toInt ≤ 60; exact lp5J.1), (by show 0 ≤ (I7 60 12).toInt ∧ (I7 60 12).toInt ≤ 12; exact lp5J.2)⟩ ⟨(by show 0 ≤ (I7 1 5).toInt ∧ (I7 1 5).toInt ≤ 30; exact lp5H.1), (by show 0 ≤ (I7 1 11).toInt ∧ (I7 1 11).toInt ≤ 200; exact lp5H.2)⟩ lp5fr hW hS (lv_sub hl [0, 1, 2, 3, 4] rfl)
            · have g35 := z_f_eq rfl rfl c30
              have b36 := Int32.toInt_lt x29
              have b37 := Int32.toInt_lt a3
              refine lv_aload_n hx hb dX3_gather_60 rfl (lv_at hl 2 rfl) ?_
              refine lv_aload_n hx hb dX3_gather_61 rfl (lv_at hl 1 rfl) ?_
              refine z_get (T := TX3) (N := 17) (ci := 3) (i := 60) (v := .ref (ad 61)) hx hb hts zj_X3_gather_X3 hown hK hW rfl rfl 0 (by decide) (hts (.fieldLink RX3 9 "PetrolBoard$Journeys" "holder" "[I") (me_s (me_l (me_l (List.mem_of_getElem? (i := 5) rfl))))) (fun _ h => h) rfl dX3_gather_62 ?_
              refine lv_iload hx hb dX3_gather_65 (lv_at hl 0 rfl) ?_
              refine z_iald (i := 61) hx hb hK hW rfl (z_ix rfl (by omega) (by omega)) dX3_gather_67 ?_
              refine lv_topi (fun x38 ex38 => ?_)
              refine z_ci hW hS hA (va_runV (As := [.int x38]) (rest := []) ⟨hx, hb, hml, hown, hts⟩ (sx_X2_has l G ad c I7 ⟨(by show 0 ≤ (I7 1 5).toInt ∧ (I7 1 5).toInt ≤ 30; exact lp5H.1), (by show 0 ≤ (I7 1 11).toInt ∧ (I7 1 11).toInt ≤ 200; exact lp5H.2)⟩ x38 _) (cwV 1 hts gX3_gather_X2_has rfl rfl rfl hy_X2_has ⟨Nat.le_of_ble_eq_true rfl, Nat.le_of_ble_eq_true rfl⟩) (z_preV (i := 1) hK hW rfl rfl) rfl rfl hl.1 rfl (lv_room (Nat.le_of_ble_eq_true rfl)) dX3_gather_68 ⟨Nat.le_of_ble_eq_true rfl, Nat.le_of_ble_eq_true rfl⟩) (fun r u1 H locs hp hW hS => ?_)
              obtain ⟨e9, hp⟩ := hp
              rw [e9] at hW
              rcases hp with ⟨rfl, h39, h40⟩ | rfl
              · refine lv_if_eq (tgt := 150) hx hb dX3_gather_71 (by decide) (fun c41 => absurd c41 (by decide)) (fun c41 => ?_)
                refine lv_aload_n hx hb dX3_gather_74 rfl (lv_at hl 1 rfl) ?_
                refine z_get (T := TX3) (N := 17) (ci := 3) (i := 60) (v := .ref (ad 70)) hx hb hts zj_X3_gather_X3 hown hK hW rfl rfl 10 (by decide) (hts (.fieldLink RX3 39 "PetrolBoard$Journeys" "pooledSeats" "[I") (me_s (me_l (me_l (List.mem_of_getElem? (i := 6) rfl))))) (fun _ h => h) rfl dX3_gather_75 ?_
                refine lv_aload_n hx hb dX3_gather_78 rfl (lv_at hl 1 rfl) ?_
                refine z_get (T := TX3) (N := 17) (ci := 3) (i := 60) (v := .int (I7 60 12)) hx hb hts zj_X3_gather_X3 hown hK hW rfl rfl 12 (by decide) (hts (.fieldLink RX3 76 "PetrolBoard$Journeys" "pooled" "I") (me_s (me_l (me_l (List.mem_of_getElem? (i := 0) rfl))))) (fun _ h => h) rfl dX3_gather_79 ?_
                refine lv_aload_n hx hb dX3_gather_82 rfl (lv_at hl 2 rfl) ?_
                refine z_get (T := TX2) (N := 12) (ci := 2) (i := 1) (v := .ref (ad 4)) hx hb hts zj_X3_gather_X2 hown hK hW rfl rfl 2 (by decide) (hts (.fieldLink RX3 91 "PetrolBoard$Holders" "seats" "[I") (me_s (me_l (me_l (List.mem_of_getElem? (i := 7) rfl))))) (fun _ h => h) rfl dX3_gather_83 ?_
                refine lv_aload_n hx hb dX3_gather_86 rfl (lv_at hl 1 rfl) ?_
                refine z_get (T := TX3) (N := 17) (ci := 3) (i := 60) (v := .ref (ad 61)) hx hb hts zj_X3_gather_X3 hown hK hW rfl rfl 0 (by decide) (hts (.fieldLink RX3 9 "PetrolBoard$Journeys" "holder" "[I") (me_s (me_l (me_l (List.mem_of_getElem? (i := 5) rfl))))) (fun _ h => h) rfl dX3_gather_87 ?_
                refine lv_iload hx hb dX3_gather_90 (lv_at hl 0 rfl) ?_
                refine z_iald (i := 61) hx hb hK hW rfl (z_ix rfl (by omega) (by omega)) dX3_gather_92 ?_
                refine z_topi (v := x38) ex38.symm ?_
                refine z_iald (i := 4) hx hb hK hW rfl (z_ix rfl (by omega) (by omega)) dX3_gather_93 ?_
                refine lv_topi (fun x42 ex42 => ?_)
                refine z_iast (i := 70) hx hb hK hW hS rfl (z_ix rfl (by omega) (by omega)) dX3_gather_94 (fun H locs hz1 hW hS => ?_)
                obtain ⟨I43, eI43⟩ : ∃ K : z_I, K = z_up I7 70 (I7 60 12).toNatClampNeg x42 := ⟨_, rfl⟩
                rw [← eI43] at hW
                have f44 := z_fr_a lp5fr (show z_wa L_X3_gather 70 = true by decide) eI43
                refine lv_aload_n hx hb dX3_gather_95 rfl (lv_at hl 1 rfl) ?_
                refine z_get (T := TX3) (N := 17) (ci := 3) (i := 60) (v := .ref (ad 71)) hx hb hts zj_X3_gather_X3 hown hK hW rfl rfl 11 (by decide) (hts (.fieldLink RX3 42 "PetrolBoard$Journeys" "pooledCost" "[I") (me_s (me_l (me_l (List.mem_of_getElem? (i := 8) rfl))))) (fun _ h => h) rfl dX3_gather_96 ?_
                refine lv_aload_n hx hb dX3_gather_99 rfl (lv_at hl 1 rfl) ?_
                refine z_get (T := TX3) (N := 17) (ci := 3) (i := 60) (v := .int (I7 60 12)) hx hb hts zj_X3_gather_X3 hown hK hW rfl rfl 12 (by decide) (hts (.fieldLink RX3 76 "PetrolBoard$Journeys" "pooled" "I") (me_s (me_l (me_l (List.mem_of_getElem? (i := 0) rfl))))) (fun _ h => h) (congrArg Value.int (by rw [eI43, z_up_n (by decide)])) dX3_gather_100 ?_
                refine lv_aload_n hx hb dX3_gather_103 rfl (lv_at hl 1 rfl) ?_
                refine z_get (T := TX3) (N := 17) (ci := 3) (i := 60) (v := .ref (ad 62)) hx hb hts zj_X3_gather_X3 hown hK hW rfl rfl 1 (by decide) (hts (.fieldLink RX3 15 "PetrolBoard$Journeys" "miles" "[I") (me_s (me_l (me_l (List.mem_of_getElem? (i := 9) rfl))))) (fun _ h => h) rfl dX3_gather_104 ?_
                refine lv_iload hx hb dX3_gather_107 (lv_at hl 0 rfl) ?_
                refine z_iald (i := 62) hx hb hK hW rfl (z_ix rfl (by omega) (by omega)) dX3_gather_109 ?_
                refine lv_topi (fun x45 ex45 => ?_)
                refine lv_aload_n hx hb dX3_gather_110 rfl (lv_at hl 2 rfl) ?_
                refine z_get (T := TX2) (N := 12) (ci := 2) (i := 1) (v := .ref (ad 2)) hx hb hts zj_X3_gather_X2 hown hK hW rfl rfl 0 (by decide) (hts (.fieldLink RX3 94 "PetrolBoard$Holders" "size" "[I") (me_s (me_l (me_l (List.mem_of_getElem? (i := 10) rfl))))) (fun _ h => h) rfl dX3_gather_111 ?_
                refine lv_aload_n hx hb dX3_gather_114 rfl (lv_at hl 1 rfl) ?_
                refine z_get (T := TX3) (N := 17) (ci := 3) (i := 60) (v := .ref (ad 61)) hx hb hts zj_X3_gather_X3 hown hK hW rfl rfl 0 (by decide) (hts (.fieldLink RX3 9 "PetrolBoard$Journeys" "holder" "[I") (me_s (me_l (me_l (List.mem_of_getElem? (i := 5) rfl))))) (fun _ h => h) rfl dX3_gather_115 ?_
                refine lv_iload hx hb dX3_gather_118 (lv_at hl 0 rfl) ?_
                refine z_iald (i := 61) hx hb hK hW rfl (z_ix rfl (by omega) (by omega)) dX3_gather_120 ?_
                refine z_topi (v := x38) (by rw [eI43, z_up_n (by decide)]; exact ex38.symm) ?_
                refine z_iald (i := 2) hx hb hK hW rfl (z_ix rfl (by omega) (by omega)) dX3_gather_121 ?_
                refine lv_topi (fun x46 ex46 => ?_)
                refine lv_imul hx hb dX3_gather_122 ?_
                refine lv_topi (fun x47 ex47 => ?_)
                refine z_iast (i := 71) hx hb hK hW hS rfl (z_ix rfl (by omega) (by omega)) dX3_gather_123 (fun H locs hz1 hW hS => ?_)
                obtain ⟨I48, eI48⟩ : ∃ K : z_I, K = z_up I43 71 (I7 60 12).toNatClampNeg x47 := ⟨_, rfl⟩
                rw [← eI48] at hW
                have f49 := z_fr_a f44 (show z_wa L_X3_gather 71 = true by decide) eI48
                refine lv_aload_n hx hb dX3_gather_124 rfl (lv_at hl 1 rfl) ?_
                refine lv_dup hx hb dX3_gather_125 rfl ?_
                refine z_get (T := TX3) (N := 17) (ci := 3) (i := 60) (v := .int (I7 60 13)) hx hb hts zj_X3_gather_X3 hown hK hW rfl rfl 13 (by decide) (hts (.fieldLink RX3 87 "PetrolBoard$Journeys" "poolPeople" "I") (me_s (me_l (me_l (List.mem_of_getElem? (i := 1) rfl))))) (fun _ h => h) (congrArg Value.int (by rw [eI48, z_up_n (by decide), eI43, z_up_n (by decide)])) dX3_gather_126 ?_
                refine lv_aload_n hx hb dX3_gather_129 rfl (lv_at hl 1 rfl) ?_
                refine z_get (T := TX3) (N := 17) (ci := 3) (i := 60) (v := .ref (ad 63)) hx hb hts zj_X3_gather_X3 hown hK hW rfl rfl 2 (by decide) (hts (.fieldLink RX3 18 "PetrolBoard$Journeys" "people" "[I") (me_s (me_l (me_l (List.mem_of_getElem? (i := 11) rfl))))) (fun _ h => h) rfl dX3_gather_130 ?_
                refine lv_iload hx hb dX3_gather_133 (lv_at hl 0 rfl) ?_
                refine z_iald (i := 63) hx hb hK hW rfl (z_ix rfl (by omega) (by omega)) dX3_gather_135 ?_
                refine lv_topi (fun x50 ex50 => ?_)
                refine lv_iadd hx hb dX3_gather_136 ?_
                refine lv_topi (fun x51 ex51 => ?_)
                refine z_put (T := TX3) (N := 17) (ci := 3) (i := 60) (v := .int x51) (I1 := z_up I48 60 13 x51) (J1 := JX) (P1 := PC c ad) hx hb hts zj_X3_gather_X3 tyX3 tyX3_ok nmX3 hown hK hW hS rfl rfl 13 (by decide) (hts (.fieldLink RX3 87 "PetrolBoard$Journeys" "poolPeople" "I") (me_s (me_l (me_l (List.mem_of_getElem? (i := 1) rfl))))) (fun _ h => h) rfl rfl rfl (by first | rfl | exact congrArg _ z_up_s) (fun a b h ty => z_vI h ty) dX3_gather_137 (fun H locs hz1 hW hS => ?_)
                obtain ⟨I52, eI52⟩ : ∃ K : z_I, K = z_up I48 60 13 x51 := ⟨_, rfl⟩
                rw [← eI52] at hW
                have f53 := z_fr_k f49 (show z_wr L_X3_gather 60 13 = true by decide) eI52
                refine lv_aload_n hx hb dX3_gather_140 rfl (lv_at hl 1 rfl) ?_
                refine lv_dup hx hb dX3_gather_141 rfl ?_
                refine z_get (T := TX3) (N := 17) (ci := 3) (i := 60) (v := .int (I7 60 12)) hx hb hts zj_X3_gather_X3 hown hK hW rfl rfl 12 (by decide) (hts (.fieldLink RX3 76 "PetrolBoard$Journeys" "pooled" "I") (me_s (me_l (me_l (List.mem_of_getElem? (i := 0) rfl))))) (fun _ h => h) (congrArg Value.int (by rw [eI52, z_up_k (by decide), eI48, z_up_n (by decide), eI43, z_up_n (by decide)])) dX3_gather_142 ?_
                refine lv_iconst (v := 1) hx hb dX3_gather_145 (by decide) ?_
                refine lv_iadd hx hb dX3_gather_146 ?_
                refine lv_topi (fun x54 ex54 => ?_)
                have tx54 : x54.toInt = (I7 60 12).toInt + 1 := z_tadd ex54 rfl z_l1 (by omega) (by omega)
                refine z_put (T := TX3) (N := 17) (ci := 3) (i := 60) (v := .int x54) (I1 := z_up I52 60 12 x54) (J1 := JX) (P1 := PC c ad) hx hb hts zj_X3_gather_X3 tyX3 tyX3_ok nmX3 hown hK hW hS rfl rfl 12 (by decide) (hts (.fieldLink RX3 76 "PetrolBoard$Journeys" "pooled" "I") (me_s (me_l (me_l (List.mem_of_getElem? (i := 0) rfl))))) (fun _ h => h) rfl rfl rfl (by first | rfl | exact congrArg _ z_up_s) (fun a b h ty => z_vI h ty) dX3_gather_147 (fun H locs hz1 hW hS => ?_)
                obtain ⟨I55, eI55⟩ : ∃ K : z_I, K = z_up I52 60 12 x54 := ⟨_, rfl⟩
                rw [← eI55] at hW
                have f56 := z_fr_k f53 (show z_wr L_X3_gather 60 12 = true by decide) eI55
                obtain ⟨x57, ex57⟩ : ∃ y : Int32, y = y6 + 1 := ⟨_, rfl⟩
                have tx57 : x57.toInt = y6.toInt + 1 := z_tadd ex57 rfl z_l1 (by omega) (by omega)
                refine lv_iinc (v := x57) (lv' := [(4, .int x57), (0, .ref (ad 60)), (1, .ref (ad 1)), (2, .int a2), (3, .int a3)]) hx hb dX3_gather_150 hl (k := 0) rfl (by rw [ex57]; rfl) (by decide) rfl (fun ls hl => ?_)
                refine lv_goto (tgt := 13) hx hb dX3_gather_153 (by decide) ?_
                exact lp5ih x57 I55  _ _ _ (by omega) (by omega) ⟨(by show 0 ≤ (I55 60 9).toInt ∧ (I55 60 9).toInt ≤ 60; rw [eI55, z_up_k (by decide), eI52, z_up_k (by decide), eI48, z_up_n (by decide), eI43, z_up_n (by decide)]; exact lp5J.1), (by show 0 ≤ (I55 60 12).toInt ∧ (I55 60 12).toInt ≤ 12; rw [eI55, z_up_s]; omega)⟩ ⟨(by show 0 ≤ (I55 1 5).toInt ∧ (I55 1 5).toInt ≤ 30; rw [eI55, z_up_n (by decide), eI52, z_up_n (by decide), eI48, z_up_n (by decide), eI43, z_up_n (by decide)]; exact lp5H.1), (by show 0 ≤ (I55 1 11).toInt ∧ (I55 1 11).toInt ≤ 200; rw [eI55, z_up_n (by decide), eI52, z_up_n (by decide), eI48, z_up_n (by decide), eI43, z_up_n (by decide)]; exact lp5H.2)⟩ f56 hW hS (lv_sub hl [0, 1, 2, 3, 4] rfl)
              · refine lv_if_eq (tgt := 150) hx hb dX3_gather_71 (by decide) (fun c58 => ?_) (fun c58 => absurd (by decide) c58)
                obtain ⟨x59, ex59⟩ : ∃ y : Int32, y = y6 + 1 := ⟨_, rfl⟩
                have tx59 : x59.toInt = y6.toInt + 1 := z_tadd ex59 rfl z_l1 (by omega) (by omega)
                refine lv_iinc (v := x59) (lv' := [(4, .int x59), (0, .ref (ad 60)), (1, .ref (ad 1)), (2, .int a2), (3, .int a3)]) hx hb dX3_gather_150 hl (k := 0) rfl (by rw [ex59]; rfl) (by decide) rfl (fun ls hl => ?_)
                refine lv_goto (tgt := 13) hx hb dX3_gather_153 (by decide) ?_
                exact lp5ih x59 I7  _ _ _ (by omega) (by omega) ⟨(by show 0 ≤ (I7 60 9).toInt ∧ (I7 60 9).toInt ≤ 60; exact lp5J.1), (by show 0 ≤ (I7 60 12).toInt ∧ (I7 60 12).toInt ≤ 12; exact lp5J.2)⟩ ⟨(by show 0 ≤ (I7 1 5).toInt ∧ (I7 1 5).toInt ≤ 30; exact lp5H.1), (by show 0 ≤ (I7 1 11).toInt ∧ (I7 1 11).toInt ≤ 200; exact lp5H.2)⟩ lp5fr hW hS (lv_sub hl [0, 1, 2, 3, 4] rfl)
  exact lp5 4294967296 (0) I3  _ _ _ (z_m0u _) (by rw [z_l0]; omega) ⟨(by show 0 ≤ (I3 60 9).toInt ∧ (I3 60 9).toInt ≤ 60; rw [eI3, z_up_k (by decide), eI1, z_up_k (by decide)]; exact hJ.1), (by show 0 ≤ (I3 60 12).toInt ∧ (I3 60 12).toInt ≤ 12; rw [eI3, z_up_k (by decide), eI1, z_up_s]; decide)⟩ ⟨(by show 0 ≤ (I3 1 5).toInt ∧ (I3 1 5).toInt ≤ 30; rw [eI3, z_up_n (by decide), eI1, z_up_n (by decide)]; exact hH.1), (by show 0 ≤ (I3 1 11).toInt ∧ (I3 1 11).toInt ≤ 200; rw [eI3, z_up_n (by decide), eI1, z_up_n (by decide)]; exact hH.2)⟩ f4 hW hS (lv_sub hl [0, 1, 2, 3, 4] rfl)
noncomputable def L_X3_weigh : z_L := [(60, 16), (60, 14), (60, 15)]
theorem zj_X3_weigh_X3 : ∀ w ∈ wsX30, w ∈ wsX3_weigh := fun w h => (List.mem_cons_of_mem _ (List.mem_append_right _ h))
set_option maxHeartbeats 8000000 in
set_option maxRecDepth 100000 in
theorem sx_X3_weigh (l : Launch) (G : z_G) (ad : Nat → Nat) (c : z_C) (I : z_I) (hJ : z_iJ I) (a1 : Int32) : z_Mv l yX3_weigh wsX3_weigh { frames := 2, cells := 0, slots := 0, locals := 32 } [.ref (ad 60), .int a1] G (shC c, ad, I, JX, PC c ad) (fun u1 => ∃ I1 : z_I, u1 = (shC c, ad, I1, JX, PC c ad) ∧ z_iJ I1 ∧ z_fr L_X3_weigh I1 I) 0 0 := by
  intro sz
  refine z_headQ (cc := cX3_weigh) (maxL := 6) (ret := none) (by decide) rfl (Nat.le_of_ble_eq_true rfl) ?_
  intro p e s m below meth c0 ls hIn hK hsz hW hl
  obtain ⟨hx, hb, hr, hml, hown, hts, hlocks, hname⟩ := hIn
  subst hsz
  have hown : s.vm.findClass RX3 = some m.cls := hown
  have hA : ∀ q : Nat, s.heap.size ≤ q → z_A (shC c, ad, I, JX, PC c ad) s.heap.size q := fun q h => Or.inr h
  generalize hAe : z_A (shC c, ad, I, JX, PC c ad) s.heap.size = A at *
  have hS : va_S A s.heap s.heap [] := va_S.rf
  have hl : lv_has ls 6 [(0, .ref (ad 60)), (1, .int a1)] := hl
  refine lv_iconst (v := 0) hx hb dX3_weigh_0 (by decide) ?_
  refine lv_istore_n (lv' := [(2, .int 0), (0, .ref (ad 60)), (1, .int a1)]) hx hb dX3_weigh_1 rfl hl (by decide) rfl (fun ls hl => ?_)
  refine lv_iconst (v := 0) hx hb dX3_weigh_2 (by decide) ?_
  refine lv_istore_n (lv' := [(3, .int 0), (2, .int 0), (0, .ref (ad 60)), (1, .int a1)]) hx hb dX3_weigh_3 rfl hl (by decide) rfl (fun ls hl => ?_)
  refine lv_iconst (v := 0) hx hb dX3_weigh_4 (by decide) ?_
  refine lv_istore (lv' := [(4, .int 0), (3, .int 0), (2, .int 0), (0, .ref (ad 60)), (1, .int a1)]) hx hb dX3_weigh_5 hl (by decide) rfl (fun ls hl => ?_)
  have lp1 : ∀ (f : Nat) (y2 : Int32) (y3 : Int32) (y4 : Int32) (H : Heap) (locs : List Loc) (ls : Array Slot), (2147483647 < y2.toInt + (f : Int)) → (0 ≤ y2.toInt) → z_W G A (shC c, ad, I, JX, PC c ad) H → va_S A s.heap H locs → lv_has ls 6 [(4, .int y2), (3, .int y3), (2, .int y4), (0, .ref (ad 60)), (1, .int a1)] → W p l e (headSpec wsX3_weigh { frames := 2, cells := 0, slots := 0, locals := 32 }).room s m ([.ref (ad 60), .int a1] : List Value).toArray below meth c0 H locs 0 0 (MQ below (va_Qv (fun (u1 : z_U) => ∃ I1 : z_I, u1 = (shC c, ad, I1, JX, PC c ad) ∧ z_iJ I1 ∧ z_fr L_X3_weigh I1 I) (z_B G A) A) ([.ref (ad 60), .int a1] : List Value).toArray s 0 0 A) (F0 m 7 ls []) := by
    intro f
    induction f with
    | zero => intro y2 y3 y4 H locs ls lp1m lp1l4 hW hS hl; exact absurd lp1m (by have := Int32.toInt_lt y2; have := Int32.le_toInt y2; omega)
    | succ f lp1ih =>
      intro y2 y3 y4 H locs ls lp1m lp1l4 hW hS hl
      refine lv_iload hx hb dX3_weigh_7 (lv_at hl 0 rfl) ?_
      refine lv_aload_n hx hb dX3_weigh_9 rfl (lv_at hl 3 rfl) ?_
      have r5 : 0 ≤ (I 60 12).toInt ∧ (I 60 12).toInt ≤ 12 := hJ.2
      refine z_get (T := TX3) (N := 17) (ci := 3) (i := 60) (v := .int (I 60 12)) hx hb hts zj_X3_weigh_X3 hown hK hW rfl rfl 12 (by decide) (hts (.fieldLink RX3 76 "PetrolBoard$Journeys" "pooled" "I") (me_s (me_l (List.mem_of_getElem? (i := 0) rfl)))) (fun _ h => h) rfl dX3_weigh_10 ?_
      refine lv_icmp_ge (tgt := 59) hx hb dX3_weigh_13 (by decide) (fun c6 => ?_) (fun c6 => ?_)
      · have g7 := z_f_ge rfl rfl c6
        have b8 := Int32.toInt_lt y2
        refine lv_iload_n hx hb dX3_weigh_59 rfl (lv_at hl 4 rfl) ?_
        refine z_ci hW hS hA (va_runS (As := [.int a1]) (rest := []) ⟨hx, hb, hml, hown, hts⟩ (sx_J6_bitCount_0f7a4 l G ad c I  a1 _) (va_cwS 1 hts gX3_weigh_J6_bitCount_0f7a4 rfl rfl rfl hy_J6_bitCount_0f7a4.2 ⟨Nat.le_of_ble_eq_true rfl, Nat.le_of_ble_eq_true rfl⟩) (z_preS hK hW) rfl rfl hl.1 rfl (lv_room (Nat.le_of_ble_eq_true rfl)) dX3_weigh_60 ⟨Nat.le_of_ble_eq_true rfl, Nat.le_of_ble_eq_true rfl⟩) (fun r u1 H locs hp hW hS => ?_)
        rw [hp] at hW
        refine lv_topi (fun x9 ex9 => ?_)
        refine lv_istore (lv' := [(4, .int x9), (3, .int y3), (2, .int y4), (0, .ref (ad 60)), (1, .int a1)]) hx hb dX3_weigh_63 hl (by decide) rfl (fun ls hl => ?_)
        refine lv_aload_n hx hb dX3_weigh_65 rfl (lv_at hl 3 rfl) ?_
        refine z_get (T := TX3) (N := 17) (ci := 3) (i := 60) (v := .int (I 60 16)) hx hb hts zj_X3_weigh_X3 hown hK hW rfl rfl 16 (by decide) (hts (.fieldLink RX3 73 "PetrolBoard$Journeys" "poolSet" "I") (me_s (me_l (List.mem_of_getElem? (i := 3) rfl)))) (fun _ h => h) rfl dX3_weigh_66 ?_
        refine lv_if_eq (tgt := 98) hx hb dX3_weigh_69 (by decide) (fun c10 => ?_) (fun c10 => ?_)
        · have g11 := z_f_eq rfl z_l0 c10
          have b12 := Int32.toInt_lt (I 60 16)
          refine lv_iconst (v := 1) hx hb dX3_weigh_98 (by decide) ?_
          refine lv_goto (tgt := 103) hx hb dX3_weigh_99 (by decide) ?_
          refine lv_istore (lv' := [(5, .int 1), (4, .int x9), (3, .int y3), (2, .int y4), (0, .ref (ad 60)), (1, .int a1)]) hx hb dX3_weigh_103 hl (by decide) rfl (fun ls hl => ?_)
          refine lv_iload_n hx hb dX3_weigh_105 rfl (lv_at hl 3 rfl) ?_
          refine lv_aload_n hx hb dX3_weigh_106 rfl (lv_at hl 4 rfl) ?_
          refine z_get (T := TX3) (N := 17) (ci := 3) (i := 60) (v := .int (I 60 13)) hx hb hts zj_X3_weigh_X3 hown hK hW rfl rfl 13 (by decide) (hts (.fieldLink RX3 87 "PetrolBoard$Journeys" "poolPeople" "I") (me_s (me_l (List.mem_of_getElem? (i := 6) rfl)))) (fun _ h => h) rfl dX3_weigh_107 ?_
          refine lv_icmp_lt (tgt := 134) hx hb dX3_weigh_110 (by decide) (fun c13 => ?_) (fun c13 => ?_)
          · have g14 := z_f_lt rfl rfl c13
            have b15 := Int32.toInt_lt y4
            have b16 := Int32.toInt_lt (I 60 13)
            exact z_vret hx hb hr hK hS (Nat.le_of_ble_eq_true rfl) (Nat.le_of_ble_eq_true rfl) hlocks dX3_weigh_134 (shC c, ad, I, JX, PC c ad) hW ⟨I, rfl, ⟨(by show 0 ≤ (I 60 9).toInt ∧ (I 60 9).toInt ≤ 60; exact hJ.1), (by show 0 ≤ (I 60 12).toInt ∧ (I 60 12).toInt ≤ 12; exact hJ.2)⟩, z_fr_0⟩
          · have g17 := z_f_nlt rfl rfl c13
            have b18 := Int32.toInt_lt y4
            have b19 := Int32.toInt_lt (I 60 13)
            refine lv_iload hx hb dX3_weigh_113 (lv_at hl 0 rfl) ?_
            refine lv_if_eq (tgt := 134) hx hb dX3_weigh_115 (by decide) (fun c20 => absurd c20 (by decide)) (fun c20 => ?_)
            refine lv_aload_n hx hb dX3_weigh_118 rfl (lv_at hl 4 rfl) ?_
            refine lv_iload_n hx hb dX3_weigh_119 rfl (lv_at hl 5 rfl) ?_
            refine z_put (T := TX3) (N := 17) (ci := 3) (i := 60) (v := .int a1) (I1 := z_up I 60 16 a1) (J1 := JX) (P1 := PC c ad) hx hb hts zj_X3_weigh_X3 tyX3 tyX3_ok nmX3 hown hK hW hS rfl rfl 16 (by decide) (hts (.fieldLink RX3 73 "PetrolBoard$Journeys" "poolSet" "I") (me_s (me_l (List.mem_of_getElem? (i := 3) rfl)))) (fun _ h => h) rfl rfl rfl (by first | rfl | exact congrArg _ z_up_s) (fun a b h ty => z_vI h ty) dX3_weigh_120 (fun H locs hz1 hW hS => ?_)
            obtain ⟨I21, eI21⟩ : ∃ K : z_I, K = z_up I 60 16 a1 := ⟨_, rfl⟩
            rw [← eI21] at hW
            have f22 := z_fr_k z_fr_0 (show z_wr L_X3_weigh 60 16 = true by decide) eI21
            refine lv_aload_n hx hb dX3_weigh_123 rfl (lv_at hl 4 rfl) ?_
            refine lv_iload hx hb dX3_weigh_124 (lv_at hl 1 rfl) ?_
            refine z_put (T := TX3) (N := 17) (ci := 3) (i := 60) (v := .int x9) (I1 := z_up I21 60 14 x9) (J1 := JX) (P1 := PC c ad) hx hb hts zj_X3_weigh_X3 tyX3 tyX3_ok nmX3 hown hK hW hS rfl rfl 14 (by decide) (hts (.fieldLink RX3 102 "PetrolBoard$Journeys" "poolCars" "I") (me_s (me_l (List.mem_of_getElem? (i := 4) rfl)))) (fun _ h => h) rfl rfl rfl (by first | rfl | exact congrArg _ z_up_s) (fun a b h ty => z_vI h ty) dX3_weigh_126 (fun H locs hz1 hW hS => ?_)
            obtain ⟨I23, eI23⟩ : ∃ K : z_I, K = z_up I21 60 14 x9 := ⟨_, rfl⟩
            rw [← eI23] at hW
            have f24 := z_fr_k f22 (show z_wr L_X3_weigh 60 14 = true by decide) eI23
            refine lv_aload_n hx hb dX3_weigh_129 rfl (lv_at hl 4 rfl) ?_
            refine lv_iload_n hx hb dX3_weigh_130 rfl (lv_at hl 2 rfl) ?_
            refine z_put (T := TX3) (N := 17) (ci := 3) (i := 60) (v := .int y3) (I1 := z_up I23 60 15 y3) (J1 := JX) (P1 := PC c ad) hx hb hts zj_X3_weigh_X3 tyX3 tyX3_ok nmX3 hown hK hW hS rfl rfl 15 (by decide) (hts (.fieldLink RX3 105 "PetrolBoard$Journeys" "poolCost" "I") (me_s (me_l (List.mem_of_getElem? (i := 5) rfl)))) (fun _ h => h) rfl rfl rfl (by first | rfl | exact congrArg _ z_up_s) (fun a b h ty => z_vI h ty) dX3_weigh_131 (fun H locs hz1 hW hS => ?_)
            obtain ⟨I25, eI25⟩ : ∃ K : z_I, K = z_up I23 60 15 y3 := ⟨_, rfl⟩
            rw [← eI25] at hW
            have f26 := z_fr_k f24 (show z_wr L_X3_weigh 60 15 = true by decide) eI25
            exact z_vret hx hb hr hK hS (Nat.le_of_ble_eq_true rfl) (Nat.le_of_ble_eq_true rfl) hlocks dX3_weigh_134 (shC c, ad, I25, JX, PC c ad) hW ⟨I25, rfl, ⟨(by show 0 ≤ (I25 60 9).toInt ∧ (I25 60 9).toInt ≤ 60; rw [eI25, z_up_k (by decide), eI23, z_up_k (by decide), eI21, z_up_k (by decide)]; exact hJ.1), (by show 0 ≤ (I25 60 12).toInt ∧ (I25 60 12).toInt ≤ 12; rw [eI25, z_up_k (by decide), eI23, z_up_k (by decide), eI21, z_up_k (by decide)]; exact hJ.2)⟩, f26⟩
        · have g27 := z_f_ne rfl z_l0 c10
          have b28 := Int32.toInt_lt (I 60 16)
          refine lv_iload hx hb dX3_weigh_72 (lv_at hl 0 rfl) ?_
          refine lv_aload_n hx hb dX3_weigh_74 rfl (lv_at hl 3 rfl) ?_
          refine z_get (T := TX3) (N := 17) (ci := 3) (i := 60) (v := .int (I 60 14)) hx hb hts zj_X3_weigh_X3 hown hK hW rfl rfl 14 (by decide) (hts (.fieldLink RX3 102 "PetrolBoard$Journeys" "poolCars" "I") (me_s (me_l (List.mem_of_getElem? (i := 4) rfl)))) (fun _ h => h) rfl dX3_weigh_75 ?_
          refine lv_icmp_lt (tgt := 98) hx hb dX3_weigh_78 (by decide) (fun c29 => ?_) (fun c29 => ?_)
          · have g30 := z_f_lt rfl rfl c29
            have b31 := Int32.toInt_lt x9
            have b32 := Int32.toInt_lt (I 60 14)
            refine lv_iconst (v := 1) hx hb dX3_weigh_98 (by decide) ?_
            refine lv_goto (tgt := 103) hx hb dX3_weigh_99 (by decide) ?_
            refine lv_istore (lv' := [(5, .int 1), (4, .int x9), (3, .int y3), (2, .int y4), (0, .ref (ad 60)), (1, .int a1)]) hx hb dX3_weigh_103 hl (by decide) rfl (fun ls hl => ?_)
            refine lv_iload_n hx hb dX3_weigh_105 rfl (lv_at hl 3 rfl) ?_
            refine lv_aload_n hx hb dX3_weigh_106 rfl (lv_at hl 4 rfl) ?_
            refine z_get (T := TX3) (N := 17) (ci := 3) (i := 60) (v := .int (I 60 13)) hx hb hts zj_X3_weigh_X3 hown hK hW rfl rfl 13 (by decide) (hts (.fieldLink RX3 87 "PetrolBoard$Journeys" "poolPeople" "I") (me_s (me_l (List.mem_of_getElem? (i := 6) rfl)))) (fun _ h => h) rfl dX3_weigh_107 ?_
            refine lv_icmp_lt (tgt := 134) hx hb dX3_weigh_110 (by decide) (fun c33 => ?_) (fun c33 => ?_)
            · have g34 := z_f_lt rfl rfl c33
              have b35 := Int32.toInt_lt y4
              have b36 := Int32.toInt_lt (I 60 13)
              exact z_vret hx hb hr hK hS (Nat.le_of_ble_eq_true rfl) (Nat.le_of_ble_eq_true rfl) hlocks dX3_weigh_134 (shC c, ad, I, JX, PC c ad) hW ⟨I, rfl, ⟨(by show 0 ≤ (I 60 9).toInt ∧ (I 60 9).toInt ≤ 60; exact hJ.1), (by show 0 ≤ (I 60 12).toInt ∧ (I 60 12).toInt ≤ 12; exact hJ.2)⟩, z_fr_0⟩
            · have g37 := z_f_nlt rfl rfl c33
              have b38 := Int32.toInt_lt y4
              have b39 := Int32.toInt_lt (I 60 13)
              refine lv_iload hx hb dX3_weigh_113 (lv_at hl 0 rfl) ?_
              refine lv_if_eq (tgt := 134) hx hb dX3_weigh_115 (by decide) (fun c40 => absurd c40 (by decide)) (fun c40 => ?_)
              refine lv_aload_n hx hb dX3_weigh_118 rfl (lv_at hl 4 rfl) ?_
              refine lv_iload_n hx hb dX3_weigh_119 rfl (lv_at hl 5 rfl) ?_
              refine z_put (T := TX3) (N := 17) (ci := 3) (i := 60) (v := .int a1) (I1 := z_up I 60 16 a1) (J1 := JX) (P1 := PC c ad) hx hb hts zj_X3_weigh_X3 tyX3 tyX3_ok nmX3 hown hK hW hS rfl rfl 16 (by decide) (hts (.fieldLink RX3 73 "PetrolBoard$Journeys" "poolSet" "I") (me_s (me_l (List.mem_of_getElem? (i := 3) rfl)))) (fun _ h => h) rfl rfl rfl (by first | rfl | exact congrArg _ z_up_s) (fun a b h ty => z_vI h ty) dX3_weigh_120 (fun H locs hz1 hW hS => ?_)
              obtain ⟨I41, eI41⟩ : ∃ K : z_I, K = z_up I 60 16 a1 := ⟨_, rfl⟩
              rw [← eI41] at hW
              have f42 := z_fr_k z_fr_0 (show z_wr L_X3_weigh 60 16 = true by decide) eI41
              refine lv_aload_n hx hb dX3_weigh_123 rfl (lv_at hl 4 rfl) ?_
              refine lv_iload hx hb dX3_weigh_124 (lv_at hl 1 rfl) ?_
              refine z_put (T := TX3) (N := 17) (ci := 3) (i := 60) (v := .int x9) (I1 := z_up I41 60 14 x9) (J1 := JX) (P1 := PC c ad) hx hb hts zj_X3_weigh_X3 tyX3 tyX3_ok nmX3 hown hK hW hS rfl rfl 14 (by decide) (hts (.fieldLink RX3 102 "PetrolBoard$Journeys" "poolCars" "I") (me_s (me_l (List.mem_of_getElem? (i := 4) rfl)))) (fun _ h => h) rfl rfl rfl (by first | rfl | exact congrArg _ z_up_s) (fun a b h ty => z_vI h ty) dX3_weigh_126 (fun H locs hz1 hW hS => ?_)
              obtain ⟨I43, eI43⟩ : ∃ K : z_I, K = z_up I41 60 14 x9 := ⟨_, rfl⟩
              rw [← eI43] at hW
              have f44 := z_fr_k f42 (show z_wr L_X3_weigh 60 14 = true by decide) eI43
              refine lv_aload_n hx hb dX3_weigh_129 rfl (lv_at hl 4 rfl) ?_
              refine lv_iload_n hx hb dX3_weigh_130 rfl (lv_at hl 2 rfl) ?_
              refine z_put (T := TX3) (N := 17) (ci := 3) (i := 60) (v := .int y3) (I1 := z_up I43 60 15 y3) (J1 := JX) (P1 := PC c ad) hx hb hts zj_X3_weigh_X3 tyX3 tyX3_ok nmX3 hown hK hW hS rfl rfl 15 (by decide) (hts (.fieldLink RX3 105 "PetrolBoard$Journeys" "poolCost" "I") (me_s (me_l (List.mem_of_getElem? (i := 5) rfl)))) (fun _ h => h) rfl rfl rfl (by first | rfl | exact congrArg _ z_up_s) (fun a b h ty => z_vI h ty) dX3_weigh_131 (fun H locs hz1 hW hS => ?_)
              obtain ⟨I45, eI45⟩ : ∃ K : z_I, K = z_up I43 60 15 y3 := ⟨_, rfl⟩
              rw [← eI45] at hW
              have f46 := z_fr_k f44 (show z_wr L_X3_weigh 60 15 = true by decide) eI45
              exact z_vret hx hb hr hK hS (Nat.le_of_ble_eq_true rfl) (Nat.le_of_ble_eq_true rfl) hlocks dX3_weigh_134 (shC c, ad, I45, JX, PC c ad) hW ⟨I45, rfl, ⟨(by show 0 ≤ (I45 60 9).toInt ∧ (I45 60 9).toInt ≤ 60; rw [eI45, z_up_k (by decide), eI43, z_up_k (by decide), eI41, z_up_k (by decide)]; exact hJ.1), (by show 0 ≤ (I45 60 12).toInt ∧ (I45 60 12).toInt ≤ 12; rw [eI45, z_up_k (by decide), eI43, z_up_k (by decide), eI41, z_up_k (by decide)]; exact hJ.2)⟩, f46⟩
          · have g47 := z_f_nlt rfl rfl c29
            have b48 := Int32.toInt_lt x9
            have b49 := Int32.toInt_lt (I 60 14)
            refine lv_iload hx hb dX3_weigh_81 (lv_at hl 0 rfl) ?_
            refine lv_aload_n hx hb dX3_weigh_83 rfl (lv_at hl 3 rfl) ?_
            refine z_get (T := TX3) (N := 17) (ci := 3) (i := 60) (v := .int (I 60 14)) hx hb hts zj_X3_weigh_X3 hown hK hW rfl rfl 14 (by decide) (hts (.fieldLink RX3 102 "PetrolBoard$Journeys" "poolCars" "I") (me_s (me_l (List.mem_of_getElem? (i := 4) rfl)))) (fun _ h => h) rfl dX3_weigh_84 ?_
            refine lv_icmp_ne (tgt := 102) hx hb dX3_weigh_87 (by decide) (fun c50 => ?_) (fun c50 => ?_)
            · have g51 := z_f_ne rfl rfl c50
              refine lv_iconst (v := 0) hx hb dX3_weigh_102 (by decide) ?_
              refine lv_istore (lv' := [(5, .int 0), (4, .int x9), (3, .int y3), (2, .int y4), (0, .ref (ad 60)), (1, .int a1)]) hx hb dX3_weigh_103 hl (by decide) rfl (fun ls hl => ?_)
              refine lv_iload_n hx hb dX3_weigh_105 rfl (lv_at hl 3 rfl) ?_
              refine lv_aload_n hx hb dX3_weigh_106 rfl (lv_at hl 4 rfl) ?_
              refine z_get (T := TX3) (N := 17) (ci := 3) (i := 60) (v := .int (I 60 13)) hx hb hts zj_X3_weigh_X3 hown hK hW rfl rfl 13 (by decide) (hts (.fieldLink RX3 87 "PetrolBoard$Journeys" "poolPeople" "I") (me_s (me_l (List.mem_of_getElem? (i := 6) rfl)))) (fun _ h => h) rfl dX3_weigh_107 ?_
              refine lv_icmp_lt (tgt := 134) hx hb dX3_weigh_110 (by decide) (fun c52 => ?_) (fun c52 => ?_)
              · have g53 := z_f_lt rfl rfl c52
                have b54 := Int32.toInt_lt y4
                have b55 := Int32.toInt_lt (I 60 13)
                exact z_vret hx hb hr hK hS (Nat.le_of_ble_eq_true rfl) (Nat.le_of_ble_eq_true rfl) hlocks dX3_weigh_134 (shC c, ad, I, JX, PC c ad) hW ⟨I, rfl, ⟨(by show 0 ≤ (I 60 9).toInt ∧ (I 60 9).toInt ≤ 60; exact hJ.1), (by show 0 ≤ (I 60 12).toInt ∧ (I 60 12).toInt ≤ 12; exact hJ.2)⟩, z_fr_0⟩
              · have g56 := z_f_nlt rfl rfl c52
                have b57 := Int32.toInt_lt y4
                have b58 := Int32.toInt_lt (I 60 13)
                refine lv_iload hx hb dX3_weigh_113 (lv_at hl 0 rfl) ?_
                refine lv_if_eq (tgt := 134) hx hb dX3_weigh_115 (by decide) (fun c59 => ?_) (fun c59 => absurd (by decide) c59)
                exact z_vret hx hb hr hK hS (Nat.le_of_ble_eq_true rfl) (Nat.le_of_ble_eq_true rfl) hlocks dX3_weigh_134 (shC c, ad, I, JX, PC c ad) hW ⟨I, rfl, ⟨(by show 0 ≤ (I 60 9).toInt ∧ (I 60 9).toInt ≤ 60; exact hJ.1), (by show 0 ≤ (I 60 12).toInt ∧ (I 60 12).toInt ≤ 12; exact hJ.2)⟩, z_fr_0⟩
            · have g60 := z_f_eq rfl rfl c50
              refine lv_iload_n hx hb dX3_weigh_90 rfl (lv_at hl 1 rfl) ?_
              refine lv_aload_n hx hb dX3_weigh_91 rfl (lv_at hl 3 rfl) ?_
              refine z_get (T := TX3) (N := 17) (ci := 3) (i := 60) (v := .int (I 60 15)) hx hb hts zj_X3_weigh_X3 hown hK hW rfl rfl 15 (by decide) (hts (.fieldLink RX3 105 "PetrolBoard$Journeys" "poolCost" "I") (me_s (me_l (List.mem_of_getElem? (i := 5) rfl)))) (fun _ h => h) rfl dX3_weigh_92 ?_
              refine lv_icmp_ge (tgt := 102) hx hb dX3_weigh_95 (by decide) (fun c61 => ?_) (fun c61 => ?_)
              · have g62 := z_f_ge rfl rfl c61
                have b63 := Int32.toInt_lt y3
                have b64 := Int32.toInt_lt (I 60 15)
                refine lv_iconst (v := 0) hx hb dX3_weigh_102 (by decide) ?_
                refine lv_istore (lv' := [(5, .int 0), (4, .int x9), (3, .int y3), (2, .int y4), (0, .ref (ad 60)), (1, .int a1)]) hx hb dX3_weigh_103 hl (by decide) rfl (fun ls hl => ?_)
                refine lv_iload_n hx hb dX3_weigh_105 rfl (lv_at hl 3 rfl) ?_
                refine lv_aload_n hx hb dX3_weigh_106 rfl (lv_at hl 4 rfl) ?_
                refine z_get (T := TX3) (N := 17) (ci := 3) (i := 60) (v := .int (I 60 13)) hx hb hts zj_X3_weigh_X3 hown hK hW rfl rfl 13 (by decide) (hts (.fieldLink RX3 87 "PetrolBoard$Journeys" "poolPeople" "I") (me_s (me_l (List.mem_of_getElem? (i := 6) rfl)))) (fun _ h => h) rfl dX3_weigh_107 ?_
                refine lv_icmp_lt (tgt := 134) hx hb dX3_weigh_110 (by decide) (fun c65 => ?_) (fun c65 => ?_)
                · have g66 := z_f_lt rfl rfl c65
                  have b67 := Int32.toInt_lt y4
                  have b68 := Int32.toInt_lt (I 60 13)
                  exact z_vret hx hb hr hK hS (Nat.le_of_ble_eq_true rfl) (Nat.le_of_ble_eq_true rfl) hlocks dX3_weigh_134 (shC c, ad, I, JX, PC c ad) hW ⟨I, rfl, ⟨(by show 0 ≤ (I 60 9).toInt ∧ (I 60 9).toInt ≤ 60; exact hJ.1), (by show 0 ≤ (I 60 12).toInt ∧ (I 60 12).toInt ≤ 12; exact hJ.2)⟩, z_fr_0⟩
                · have g69 := z_f_nlt rfl rfl c65
                  have b70 := Int32.toInt_lt y4
                  have b71 := Int32.toInt_lt (I 60 13)
                  refine lv_iload hx hb dX3_weigh_113 (lv_at hl 0 rfl) ?_
                  refine lv_if_eq (tgt := 134) hx hb dX3_weigh_115 (by decide) (fun c72 => ?_) (fun c72 => absurd (by decide) c72)
                  exact z_vret hx hb hr hK hS (Nat.le_of_ble_eq_true rfl) (Nat.le_of_ble_eq_true rfl) hlocks dX3_weigh_134 (shC c, ad, I, JX, PC c ad) hW ⟨I, rfl, ⟨(by show 0 ≤ (I 60 9).toInt ∧ (I 60 9).toInt ≤ 60; exact hJ.1), (by show 0 ≤ (I 60 12).toInt ∧ (I 60 12).toInt ≤ 12; exact hJ.2)⟩, z_fr_0⟩
              · have g73 := z_f_nge rfl rfl c61
                have b74 := Int32.toInt_lt y3
                have b75 := Int32.toInt_lt (I 60 15)
                refine lv_iconst (v := 1) hx hb dX3_weigh_98 (by decide) ?_
                refine lv_goto (tgt := 103) hx hb dX3_weigh_99 (by decide) ?_
                refine lv_istore (lv' := [(5, .int 1), (4, .int x9), (3, .int y3), (2, .int y4), (0, .ref (ad 60)), (1, .int a1)]) hx hb dX3_weigh_103 hl (by decide) rfl (fun ls hl => ?_)
                refine lv_iload_n hx hb dX3_weigh_105 rfl (lv_at hl 3 rfl) ?_
                refine lv_aload_n hx hb dX3_weigh_106 rfl (lv_at hl 4 rfl) ?_
                refine z_get (T := TX3) (N := 17) (ci := 3) (i := 60) (v := .int (I 60 13)) hx hb hts zj_X3_weigh_X3 hown hK hW rfl rfl 13 (by decide) (hts (.fieldLink RX3 87 "PetrolBoard$Journeys" "poolPeople" "I") (me_s (me_l (List.mem_of_getElem? (i := 6) rfl)))) (fun _ h => h) rfl dX3_weigh_107 ?_
                refine lv_icmp_lt (tgt := 134) hx hb dX3_weigh_110 (by decide) (fun c76 => ?_) (fun c76 => ?_)
                · have g77 := z_f_lt rfl rfl c76
                  have b78 := Int32.toInt_lt y4
                  have b79 := Int32.toInt_lt (I 60 13)
                  exact z_vret hx hb hr hK hS (Nat.le_of_ble_eq_true rfl) (Nat.le_of_ble_eq_true rfl) hlocks dX3_weigh_134 (shC c, ad, I, JX, PC c ad) hW ⟨I, rfl, ⟨(by show 0 ≤ (I 60 9).toInt ∧ (I 60 9).toInt ≤ 60; exact hJ.1), (by show 0 ≤ (I 60 12).toInt ∧ (I 60 12).toInt ≤ 12; exact hJ.2)⟩, z_fr_0⟩
                · have g80 := z_f_nlt rfl rfl c76
                  have b81 := Int32.toInt_lt y4
                  have b82 := Int32.toInt_lt (I 60 13)
                  refine lv_iload hx hb dX3_weigh_113 (lv_at hl 0 rfl) ?_
                  refine lv_if_eq (tgt := 134) hx hb dX3_weigh_115 (by decide) (fun c83 => absurd c83 (by decide)) (fun c83 => ?_)
                  refine lv_aload_n hx hb dX3_weigh_118 rfl (lv_at hl 4 rfl) ?_
                  refine lv_iload_n hx hb dX3_weigh_119 rfl (lv_at hl 5 rfl) ?_
                  refine z_put (T := TX3) (N := 17) (ci := 3) (i := 60) (v := .int a1) (I1 := z_up I 60 16 a1) (J1 := JX) (P1 := PC c ad) hx hb hts zj_X3_weigh_X3 tyX3 tyX3_ok nmX3 hown hK hW hS rfl rfl 16 (by decide) (hts (.fieldLink RX3 73 "PetrolBoard$Journeys" "poolSet" "I") (me_s (me_l (List.mem_of_getElem? (i := 3) rfl)))) (fun _ h => h) rfl rfl rfl (by first | rfl | exact congrArg _ z_up_s) (fun a b h ty => z_vI h ty) dX3_weigh_120 (fun H locs hz1 hW hS => ?_)
                  obtain ⟨I84, eI84⟩ : ∃ K : z_I, K = z_up I 60 16 a1 := ⟨_, rfl⟩
                  rw [← eI84] at hW
                  have f85 := z_fr_k z_fr_0 (show z_wr L_X3_weigh 60 16 = true by decide) eI84
                  refine lv_aload_n hx hb dX3_weigh_123 rfl (lv_at hl 4 rfl) ?_
                  refine lv_iload hx hb dX3_weigh_124 (lv_at hl 1 rfl) ?_
                  refine z_put (T := TX3) (N := 17) (ci := 3) (i := 60) (v := .int x9) (I1 := z_up I84 60 14 x9) (J1 := JX) (P1 := PC c ad) hx hb hts zj_X3_weigh_X3 tyX3 tyX3_ok nmX3 hown hK hW hS rfl rfl 14 (by decide) (hts (.fieldLink RX3 102 "PetrolBoard$Journeys" "poolCars" "I") (me_s (me_l (List.mem_of_getElem? (i := 4) rfl)))) (fun _ h => h) rfl rfl rfl (by first | rfl | exact congrArg _ z_up_s) (fun a b h ty => z_vI h ty) dX3_weigh_126 (fun H locs hz1 hW hS => ?_)
                  obtain ⟨I86, eI86⟩ : ∃ K : z_I, K = z_up I84 60 14 x9 := ⟨_, rfl⟩
                  rw [← eI86] at hW
                  have f87 := z_fr_k f85 (show z_wr L_X3_weigh 60 14 = true by decide) eI86
                  refine lv_aload_n hx hb dX3_weigh_129 rfl (lv_at hl 4 rfl) ?_
                  refine lv_iload_n hx hb dX3_weigh_130 rfl (lv_at hl 2 rfl) ?_
                  refine z_put (T := TX3) (N := 17) (ci := 3) (i := 60) (v := .int y3) (I1 := z_up I86 60 15 y3) (J1 := JX) (P1 := PC c ad) hx hb hts zj_X3_weigh_X3 tyX3 tyX3_ok nmX3 hown hK hW hS rfl rfl 15 (by decide) (hts (.fieldLink RX3 105 "PetrolBoard$Journeys" "poolCost" "I") (me_s (me_l (List.mem_of_getElem? (i := 5) rfl)))) (fun _ h => h) rfl rfl rfl (by first | rfl | exact congrArg _ z_up_s) (fun a b h ty => z_vI h ty) dX3_weigh_131 (fun H locs hz1 hW hS => ?_)
                  obtain ⟨I88, eI88⟩ : ∃ K : z_I, K = z_up I86 60 15 y3 := ⟨_, rfl⟩
                  rw [← eI88] at hW
                  have f89 := z_fr_k f87 (show z_wr L_X3_weigh 60 15 = true by decide) eI88
                  exact z_vret hx hb hr hK hS (Nat.le_of_ble_eq_true rfl) (Nat.le_of_ble_eq_true rfl) hlocks dX3_weigh_134 (shC c, ad, I88, JX, PC c ad) hW ⟨I88, rfl, ⟨(by show 0 ≤ (I88 60 9).toInt ∧ (I88 60 9).toInt ≤ 60; rw [eI88, z_up_k (by decide), eI86, z_up_k (by decide), eI84, z_up_k (by decide)]; exact hJ.1), (by show 0 ≤ (I88 60 12).toInt ∧ (I88 60 12).toInt ≤ 12; rw [eI88, z_up_k (by decide), eI86, z_up_k (by decide), eI84, z_up_k (by decide)]; exact hJ.2)⟩, f89⟩
      · have g90 := z_f_nge rfl rfl c6
        have b91 := Int32.toInt_lt y2
        refine lv_iload hx hb dX3_weigh_16 (lv_at hl 0 rfl) ?_
        refine lv_bipush (v := 12) hx hb dX3_weigh_18 (by decide) ?_
        refine lv_icmp_ge (tgt := 59) hx hb dX3_weigh_20 (by decide) (fun c92 => (by have g := z_f_ge rfl z_l12 c92; omega)) (fun c92 => ?_)
        have g93 := z_f_nge rfl z_l12 c92
        refine lv_iload_n hx hb dX3_weigh_23 rfl (lv_at hl 4 rfl) ?_
        refine lv_iload hx hb dX3_weigh_24 (lv_at hl 0 rfl) ?_
        refine lv_ishr hx hb dX3_weigh_26 ?_
        refine lv_topi (fun x94 ex94 => ?_)
        refine lv_iconst (v := 1) hx hb dX3_weigh_27 (by decide) ?_
        refine lv_iand hx hb dX3_weigh_28 ?_
        refine lv_topi (fun x95 ex95 => ?_)
        refine lv_iconst (v := 1) hx hb dX3_weigh_29 (by decide) ?_
        refine lv_icmp_ne (tgt := 53) hx hb dX3_weigh_30 (by decide) (fun c96 => ?_) (fun c96 => ?_)
        · have g97 := z_f_ne rfl z_l1 c96
          have b98 := Int32.toInt_lt x95
          obtain ⟨x99, ex99⟩ : ∃ y : Int32, y = y2 + 1 := ⟨_, rfl⟩
          have tx99 : x99.toInt = y2.toInt + 1 := z_tadd ex99 rfl z_l1 (by omega) (by omega)
          refine lv_iinc (v := x99) (lv' := [(4, .int x99), (3, .int y3), (2, .int y4), (0, .ref (ad 60)), (1, .int a1)]) hx hb dX3_weigh_53 hl (k := 0) rfl (by rw [ex99]; rfl) (by decide) rfl (fun ls hl => ?_)
          refine lv_goto (tgt := 7) hx hb dX3_weigh_56 (by decide) ?_
          exact lp1ih x99 y3 y4 _ _ _ (by omega) (by omega) hW hS (lv_sub hl [0, 1, 2, 3, 4] rfl)
        · have g100 := z_f_eq rfl z_l1 c96
          have b101 := Int32.toInt_lt x95
          refine lv_iload_n hx hb dX3_weigh_33 rfl (lv_at hl 2 rfl) ?_
          refine lv_aload_n hx hb dX3_weigh_34 rfl (lv_at hl 3 rfl) ?_
          refine z_get (T := TX3) (N := 17) (ci := 3) (i := 60) (v := .ref (ad 70)) hx hb hts zj_X3_weigh_X3 hown hK hW rfl rfl 10 (by decide) (hts (.fieldLink RX3 39 "PetrolBoard$Journeys" "pooledSeats" "[I") (me_s (me_l (List.mem_of_getElem? (i := 1) rfl)))) (fun _ h => h) rfl dX3_weigh_35 ?_
          refine lv_iload hx hb dX3_weigh_38 (lv_at hl 0 rfl) ?_
          refine z_iald (i := 70) hx hb hK hW rfl (z_ix rfl (by omega) (by omega)) dX3_weigh_40 ?_
          refine lv_topi (fun x102 ex102 => ?_)
          refine lv_iadd hx hb dX3_weigh_41 ?_
          refine lv_topi (fun x103 ex103 => ?_)
          refine lv_istore_n (lv' := [(2, .int x103), (4, .int y2), (3, .int y3), (0, .ref (ad 60)), (1, .int a1)]) hx hb dX3_weigh_42 rfl hl (by decide) rfl (fun ls hl => ?_)
          refine lv_iload_n hx hb dX3_weigh_43 rfl (lv_at hl 2 rfl) ?_
          refine lv_aload_n hx hb dX3_weigh_44 rfl (lv_at hl 3 rfl) ?_
          refine z_get (T := TX3) (N := 17) (ci := 3) (i := 60) (v := .ref (ad 71)) hx hb hts zj_X3_weigh_X3 hown hK hW rfl rfl 11 (by decide) (hts (.fieldLink RX3 42 "PetrolBoard$Journeys" "pooledCost" "[I") (me_s (me_l (List.mem_of_getElem? (i := 2) rfl)))) (fun _ h => h) rfl dX3_weigh_45 ?_
          refine lv_iload hx hb dX3_weigh_48 (lv_at hl 1 rfl) ?_
          refine z_iald (i := 71) hx hb hK hW rfl (z_ix rfl (by omega) (by omega)) dX3_weigh_50 ?_
          refine lv_topi (fun x104 ex104 => ?_)
          refine lv_iadd hx hb dX3_weigh_51 ?_
          refine lv_topi (fun x105 ex105 => ?_)
          refine lv_istore_n (lv' := [(3, .int x105), (2, .int x103), (4, .int y2), (0, .ref (ad 60)), (1, .int a1)]) hx hb dX3_weigh_52 rfl hl (by decide) rfl (fun ls hl => ?_)
          obtain ⟨x106, ex106⟩ : ∃ y : Int32, y = y2 + 1 := ⟨_, rfl⟩
          have tx106 : x106.toInt = y2.toInt + 1 := z_tadd ex106 rfl z_l1 (by omega) (by omega)
          refine lv_iinc (v := x106) (lv' := [(4, .int x106), (3, .int x105), (2, .int x103), (0, .ref (ad 60)), (1, .int a1)]) hx hb dX3_weigh_53 hl (k := 2) rfl (by rw [ex106]; rfl) (by decide) rfl (fun ls hl => ?_)
          refine lv_goto (tgt := 7) hx hb dX3_weigh_56 (by decide) ?_
          exact lp1ih x106 x105 x103 _ _ _ (by omega) (by omega) hW hS (lv_sub hl [0, 1, 2, 3, 4] rfl)
  exact lp1 4294967296 (0) (0) (0) _ _ _ (z_m0u _) (by rw [z_l0]; omega) hW hS (lv_sub hl [0, 1, 2, 3, 4] rfl)
noncomputable def L_X3_poolOf : z_L := [(70, 999), (71, 999), (60, 12), (60, 13), (60, 16), (60, 14), (60, 15)]
theorem zj_X3_poolOf_X3 : ∀ w ∈ wsX30, w ∈ wsX3_poolOf := fun w h => (List.mem_cons_of_mem _ (List.mem_append_left _ (List.mem_append_right _ h)))
set_option maxHeartbeats 8000000 in
set_option maxRecDepth 100000 in
theorem sx_X3_poolOf (l : Launch) (G : z_G) (ad : Nat → Nat) (c : z_C) (I : z_I) (hJ : z_iJ I) (hH : z_iH I) (a2 : Int32) (a3 : Int32) : z_M l yX3_poolOf wsX3_poolOf { frames := 3, cells := 0, slots := 0, locals := 57 } [.ref (ad 60), .ref (ad 1), .int a2, .int a3] G (shC c, ad, I, JX, PC c ad) (fun r u1 => ∃ I1 : z_I, u1 = (shC c, ad, I1, JX, PC c ad) ∧ z_iJ I1 ∧ z_iH I1 ∧ z_fr L_X3_poolOf I1 I ∧ (r = 1 ∨ r = 0)) 0 0 := by
  intro sz
  refine z_headQ (cc := cX3_poolOf) (maxL := 6) (ret := (some .boolean)) (by decide) rfl (Nat.le_of_ble_eq_true rfl) ?_
  intro p e s m below meth c0 ls hIn hK hsz hW hl
  obtain ⟨hx, hb, hr, hml, hown, hts, hlocks, hname⟩ := hIn
  subst hsz
  have hown : s.vm.findClass RX3 = some m.cls := hown
  have hA : ∀ q : Nat, s.heap.size ≤ q → z_A (shC c, ad, I, JX, PC c ad) s.heap.size q := fun q h => Or.inr h
  generalize hAe : z_A (shC c, ad, I, JX, PC c ad) s.heap.size = A at *
  have hS : va_S A s.heap s.heap [] := va_S.rf
  have hl : lv_has ls 6 [(0, .ref (ad 60)), (1, .ref (ad 1)), (2, .int a2), (3, .int a3)] := hl
  refine lv_aload_n hx hb dX3_poolOf_0 rfl (lv_at hl 0 rfl) ?_
  refine lv_aload_n hx hb dX3_poolOf_1 rfl (lv_at hl 1 rfl) ?_
  refine lv_iload_n hx hb dX3_poolOf_2 rfl (lv_at hl 2 rfl) ?_
  refine lv_iload_n hx hb dX3_poolOf_3 rfl (lv_at hl 3 rfl) ?_
  refine z_cv hW hS hA (va_runV (As := [.ref (ad 1), .int a2, .int a3]) (rest := []) ⟨hx, hb, hml, hown, hts⟩ (sx_X3_gather l G ad c I ⟨(by show 0 ≤ (I 60 9).toInt ∧ (I 60 9).toInt ≤ 60; exact hJ.1), (by show 0 ≤ (I 60 12).toInt ∧ (I 60 12).toInt ≤ 12; exact hJ.2)⟩ ⟨(by show 0 ≤ (I 1 5).toInt ∧ (I 1 5).toInt ≤ 30; exact hH.1), (by show 0 ≤ (I 1 11).toInt ∧ (I 1 11).toInt ≤ 200; exact hH.2)⟩ a2 a3 _) (cwV 3 hts gX3_poolOf_X3_gather rfl rfl rfl hy_X3_gather ⟨Nat.le_of_ble_eq_true rfl, Nat.le_of_ble_eq_true rfl⟩) (z_preV (i := 60) hK hW rfl rfl) rfl rfl hl.1 rfl (lv_room (Nat.le_of_ble_eq_true rfl)) dX3_poolOf_4 ⟨Nat.le_of_ble_eq_true rfl, Nat.le_of_ble_eq_true rfl⟩) (fun u1 H locs hp hW hS => ?_)
  obtain ⟨I1, e9, hI1J, hI1H, fI1⟩ := hp
  rw [e9] at hW
  have f2 := z_fr_sub (L := L_X3_poolOf) z_fr_0 fI1 (by decide)
  refine lv_aload_n hx hb dX3_poolOf_7 rfl (lv_at hl 0 rfl) ?_
  refine lv_iconst (v := 0) hx hb dX3_poolOf_8 (by decide) ?_
  refine z_put (T := TX3) (N := 17) (ci := 3) (i := 60) (v := .int 0) (I1 := z_up I1 60 16 0) (J1 := JX) (P1 := PC c ad) hx hb hts zj_X3_poolOf_X3 tyX3 tyX3_ok nmX3 hown hK hW hS rfl rfl 16 (by decide) (hts (.fieldLink RX3 73 "PetrolBoard$Journeys" "poolSet" "I") (me_s (me_l (me_l (me_l (List.mem_of_getElem? (i := 0) rfl)))))) (fun _ h => h) rfl rfl rfl (by first | rfl | exact congrArg _ z_up_s) (fun a b h ty => z_vI h ty) dX3_poolOf_9 (fun H locs hz1 hW hS => ?_)
  obtain ⟨I3, eI3⟩ : ∃ K : z_I, K = z_up I1 60 16 0 := ⟨_, rfl⟩
  rw [← eI3] at hW
  have f4 := z_fr_k f2 (show z_wr L_X3_poolOf 60 16 = true by decide) eI3
  refine lv_iconst (v := 1) hx hb dX3_poolOf_12 (by decide) ?_
  refine lv_aload_n hx hb dX3_poolOf_13 rfl (lv_at hl 0 rfl) ?_
  have r5 : 0 ≤ (I1 60 12).toInt ∧ (I1 60 12).toInt ≤ 12 := hI1J.2
  refine z_get (T := TX3) (N := 17) (ci := 3) (i := 60) (v := .int (I1 60 12)) hx hb hts zj_X3_poolOf_X3 hown hK hW rfl rfl 12 (by decide) (hts (.fieldLink RX3 76 "PetrolBoard$Journeys" "pooled" "I") (me_s (me_l (me_l (me_l (List.mem_of_getElem? (i := 1) rfl)))))) (fun _ h => h) (congrArg Value.int (by rw [eI3, z_up_k (by decide)])) dX3_poolOf_14 ?_
  refine lv_bipush (v := 12) hx hb dX3_poolOf_17 (by decide) ?_
  refine va_mmin (x := (I1 60 12)) (y := 12) hx hb (hml.trans hl.1.symm) hown (hts (.methodLink RX3 79 Lib.Math.min.name) (me_s (me_l (me_l (me_l (List.mem_of_getElem? (i := 2) rfl)))))) (hts (.static Lib.Math.min.name) (me_s (me_l (me_l (me_l (List.mem_of_getElem? (i := 3) rfl)))))) (hts (.initialized "java/lang/Math") (me_s (me_l (me_l (me_l (List.mem_of_getElem? (i := 4) rfl)))))) (hts (.code Lib.Math.min.name Lib.Math.min.code 2 (some .int)) (me_s (me_l (me_l (me_l (List.mem_of_getElem? (i := 5) rfl)))))) (Nat.le_of_ble_eq_true rfl) (Nat.le_of_ble_eq_true rfl) (Nat.le_of_ble_eq_true rfl) (Nat.le_of_ble_eq_true rfl) dX3_poolOf_19 ?_
  refine lv_topi (fun x6 ex6 => ?_)
  have tx6 := z_tmmin ex6 rfl z_l12
  refine lv_ishl hx hb dX3_poolOf_22 ?_
  refine lv_topi (fun x7 ex7 => ?_)
  refine lv_istore (lv' := [(4, .int x7), (0, .ref (ad 60)), (1, .ref (ad 1)), (2, .int a2), (3, .int a3)]) hx hb dX3_poolOf_23 hl (by decide) rfl (fun ls hl => ?_)
  refine lv_iconst (v := 1) hx hb dX3_poolOf_25 (by decide) ?_
  refine lv_istore (lv' := [(5, .int 1), (4, .int x7), (0, .ref (ad 60)), (1, .ref (ad 1)), (2, .int a2), (3, .int a3)]) hx hb dX3_poolOf_26 hl (by decide) rfl (fun ls hl => ?_)
  have lp8 : ∀ (f : Nat) (y9 : Int32) (I10 : z_I) (H : Heap) (locs : List Loc) (ls : Array Slot), (2147483647 < y9.toInt + (f : Int)) → (1 ≤ y9.toInt) → (z_iJ I10) → (z_iH I10) → (z_fr L_X3_poolOf I10 I) → z_W G A (shC c, ad, I10, JX, PC c ad) H → va_S A s.heap H locs → lv_has ls 6 [(5, .int y9), (4, .int x7), (0, .ref (ad 60)), (1, .ref (ad 1)), (2, .int a2), (3, .int a3)] → W p l e (headSpec wsX3_poolOf { frames := 3, cells := 0, slots := 0, locals := 57 }).room s m ([.ref (ad 60), .ref (ad 1), .int a2, .int a3] : List Value).toArray below meth c0 H locs 0 0 (MQ below (va_Qi (fun (r : Int32) (u1 : z_U) => ∃ I1 : z_I, u1 = (shC c, ad, I1, JX, PC c ad) ∧ z_iJ I1 ∧ z_iH I1 ∧ z_fr L_X3_poolOf I1 I ∧ (r = 1 ∨ r = 0)) (z_B G A) A) ([.ref (ad 60), .ref (ad 1), .int a2, .int a3] : List Value).toArray s 0 0 A) (F0 m 28 ls []) := by
    intro f
    induction f with
    | zero => intro y9 I10  H locs ls lp8m lp8l5 lp8J lp8H lp8fr hW hS hl; exact absurd lp8m (by have := Int32.toInt_lt y9; have := Int32.le_toInt y9; omega)
    | succ f lp8ih =>
      intro y9 I10  H locs ls lp8m lp8l5 lp8J lp8H lp8fr hW hS hl
      refine lv_iload hx hb dX3_poolOf_28 (lv_at hl 0 rfl) ?_
      refine lv_iload hx hb dX3_poolOf_30 (lv_at hl 1 rfl) ?_
      refine lv_icmp_ge (tgt := 47) hx hb dX3_poolOf_32 (by decide) (fun c11 => ?_) (fun c11 => ?_)
      · have g12 := z_f_ge rfl rfl c11
        have b13 := Int32.toInt_lt y9
        have b14 := Int32.toInt_lt x7
        refine lv_aload_n hx hb dX3_poolOf_47 rfl (lv_at hl 2 rfl) ?_
        refine z_get (T := TX3) (N := 17) (ci := 3) (i := 60) (v := .int (I10 60 16)) hx hb hts zj_X3_poolOf_X3 hown hK hW rfl rfl 16 (by decide) (hts (.fieldLink RX3 73 "PetrolBoard$Journeys" "poolSet" "I") (me_s (me_l (me_l (me_l (List.mem_of_getElem? (i := 0) rfl)))))) (fun _ h => h) rfl dX3_poolOf_48 ?_
        refine lv_if_eq (tgt := 58) hx hb dX3_poolOf_51 (by decide) (fun c15 => ?_) (fun c15 => ?_)
        · have g16 := z_f_eq rfl z_l0 c15
          have b17 := Int32.toInt_lt (I10 60 16)
          refine lv_iconst (v := 0) hx hb dX3_poolOf_58 (by decide) ?_
          exact z_zret hx hb hr (by decide) hK hS (Nat.le_of_ble_eq_true rfl) (Nat.le_of_ble_eq_true rfl) hlocks dX3_poolOf_59 (shC c, ad, I10, JX, PC c ad) hW ⟨I10, rfl, ⟨(by show 0 ≤ (I10 60 9).toInt ∧ (I10 60 9).toInt ≤ 60; exact lp8J.1), (by show 0 ≤ (I10 60 12).toInt ∧ (I10 60 12).toInt ≤ 12; exact lp8J.2)⟩, ⟨(by show 0 ≤ (I10 1 5).toInt ∧ (I10 1 5).toInt ≤ 30; exact lp8H.1), (by show 0 ≤ (I10 1 11).toInt ∧ (I10 1 11).toInt ≤ 200; exact lp8H.2)⟩, lp8fr, Or.inr rfl⟩
        · have g18 := z_f_ne rfl z_l0 c15
          have b19 := Int32.toInt_lt (I10 60 16)
          refine lv_iconst (v := 1) hx hb dX3_poolOf_54 (by decide) ?_
          refine lv_goto (tgt := 59) hx hb dX3_poolOf_55 (by decide) ?_
          exact z_zret hx hb hr (by decide) hK hS (Nat.le_of_ble_eq_true rfl) (Nat.le_of_ble_eq_true rfl) hlocks dX3_poolOf_59 (shC c, ad, I10, JX, PC c ad) hW ⟨I10, rfl, ⟨(by show 0 ≤ (I10 60 9).toInt ∧ (I10 60 9).toInt ≤ 60; exact lp8J.1), (by show 0 ≤ (I10 60 12).toInt ∧ (I10 60 12).toInt ≤ 12; exact lp8J.2)⟩, ⟨(by show 0 ≤ (I10 1 5).toInt ∧ (I10 1 5).toInt ≤ 30; exact lp8H.1), (by show 0 ≤ (I10 1 11).toInt ∧ (I10 1 11).toInt ≤ 200; exact lp8H.2)⟩, lp8fr, Or.inl rfl⟩
      · have g20 := z_f_nge rfl rfl c11
        have b21 := Int32.toInt_lt y9
        have b22 := Int32.toInt_lt x7
        refine lv_aload_n hx hb dX3_poolOf_35 rfl (lv_at hl 2 rfl) ?_
        refine lv_iload hx hb dX3_poolOf_36 (lv_at hl 0 rfl) ?_
        refine z_cv hW hS hA (va_runV (As := [.int y9]) (rest := []) ⟨hx, hb, hml, hown, hts⟩ (sx_X3_weigh l G ad c I10 ⟨(by show 0 ≤ (I10 60 9).toInt ∧ (I10 60 9).toInt ≤ 60; exact lp8J.1), (by show 0 ≤ (I10 60 12).toInt ∧ (I10 60 12).toInt ≤ 12; exact lp8J.2)⟩ y9 _) (cwV 1 hts gX3_poolOf_X3_weigh rfl rfl rfl hy_X3_weigh ⟨Nat.le_of_ble_eq_true rfl, Nat.le_of_ble_eq_true rfl⟩) (z_preV (i := 60) hK hW rfl rfl) rfl rfl hl.1 rfl (lv_room (Nat.le_of_ble_eq_true rfl)) dX3_poolOf_38 ⟨Nat.le_of_ble_eq_true rfl, Nat.le_of_ble_eq_true rfl⟩) (fun u1 H locs hp hW hS => ?_)
        obtain ⟨I23, e9, hI23J, fI23⟩ := hp
        rw [e9] at hW
        have f24 := z_fr_sub (L := L_X3_poolOf) lp8fr fI23 (by decide)
        have k25 : 0 ≤ (I23 1 5).toInt ∧ (I23 1 5).toInt ≤ 30 := by rw [fI23 1 5 (by decide)]; exact (by show 0 ≤ (I10 1 5).toInt ∧ (I10 1 5).toInt ≤ 30; exact lp8H.1)
        have k26 : 0 ≤ (I23 1 11).toInt ∧ (I23 1 11).toInt ≤ 200 := by rw [fI23 1 11 (by decide)]; exact (by show 0 ≤ (I10 1 11).toInt ∧ (I10 1 11).toInt ≤ 200; exact lp8H.2)
        obtain ⟨x27, ex27⟩ : ∃ y : Int32, y = y9 + 1 := ⟨_, rfl⟩
        have tx27 : x27.toInt = y9.toInt + 1 := z_tadd ex27 rfl z_l1 (by omega) (by omega)
        refine lv_iinc (v := x27) (lv' := [(5, .int x27), (4, .int x7), (0, .ref (ad 60)), (1, .ref (ad 1)), (2, .int a2), (3, .int a3)]) hx hb dX3_poolOf_41 hl (k := 0) rfl (by rw [ex27]; rfl) (by decide) rfl (fun ls hl => ?_)
        refine lv_goto (tgt := 28) hx hb dX3_poolOf_44 (by decide) ?_
        exact lp8ih x27 I23  _ _ _ (by omega) (by omega) ⟨(by show 0 ≤ (I23 60 9).toInt ∧ (I23 60 9).toInt ≤ 60; exact hI23J.1), (by show 0 ≤ (I23 60 12).toInt ∧ (I23 60 12).toInt ≤ 12; exact hI23J.2)⟩ ⟨(by show 0 ≤ (I23 1 5).toInt ∧ (I23 1 5).toInt ≤ 30; exact k25), (by show 0 ≤ (I23 1 11).toInt ∧ (I23 1 11).toInt ≤ 200; exact k26)⟩ f24 hW hS (lv_sub hl [0, 1, 2, 3, 4, 5] rfl)
  exact lp8 4294967296 (1) I3  _ _ _ (z_m0u _) (by rw [z_l1]; omega) ⟨(by show 0 ≤ (I3 60 9).toInt ∧ (I3 60 9).toInt ≤ 60; rw [eI3, z_up_k (by decide)]; exact hI1J.1), (by show 0 ≤ (I3 60 12).toInt ∧ (I3 60 12).toInt ≤ 12; rw [eI3, z_up_k (by decide)]; exact hI1J.2)⟩ ⟨(by show 0 ≤ (I3 1 5).toInt ∧ (I3 1 5).toInt ≤ 30; rw [eI3, z_up_n (by decide)]; exact hI1H.1), (by show 0 ≤ (I3 1 11).toInt ∧ (I3 1 11).toInt ≤ 200; rw [eI3, z_up_n (by decide)]; exact hI1H.2)⟩ f4 hW hS (lv_sub hl [0, 1, 2, 3, 4, 5] rfl)
