theorem dX11_stationAt_12 : decode cX11_stationAt 12 = .ok (.iload_n 1, 1) := z_dd_27 (by decide +kernel)
theorem dX11_stationAt_13 : decode cX11_stationAt 13 = .ok (.aload_n 0, 1) := z_dd_42 (by decide +kernel)
theorem dX11_stationAt_14 : decode cX11_stationAt 14 = .ok (.getfield 50, 3) := z_dd_180 (by decide +kernel)
theorem dX11_stationAt_17 : decode cX11_stationAt 17 = .ok (.arraylength, 1) := z_dd_190 (by decide +kernel)
theorem dX11_stationAt_18 : decode cX11_stationAt 18 = .ok (.if_icmp .lt 5, 3) := z_dd_161 (by decide +kernel)
theorem dX11_stationAt_23 : decode cX11_stationAt 23 = .ok (.aload_n 0, 1) := z_dd_42 (by decide +kernel)
theorem dX11_stationAt_24 : decode cX11_stationAt 24 = .ok (.getfield 50, 3) := z_dd_180 (by decide +kernel)
theorem dX11_stationAt_27 : decode cX11_stationAt 27 = .ok (.iload_n 1, 1) := z_dd_27 (by decide +kernel)
theorem dX11_stationAt_28 : decode cX11_stationAt 28 = .ok (.aaload, 1) := z_dd_50 (by decide +kernel)
theorem dX11_stationAt_29 : decode cX11_stationAt 29 = .ok (.areturn, 1) := z_dd_176 (by decide +kernel)
theorem dX11_deliver_10 : decode cX11_deliver 10 = .ok (.iload_n 2, 1) := z_dd_28 (by decide +kernel)
theorem dX11_deliver_11 : decode cX11_deliver 11 = .ok (.iconst 1, 1) := z_dd_4 (by decide +kernel)
theorem dX11_deliver_12 : decode cX11_deliver 12 = .ok (.ldc 230, 2) := z_dd_18 (by decide +kernel)
set_option maxRecDepth 20000 in
theorem ggX11_deliver_X11_within : GoodIn wsX11_deliver wsX11_within := goodIn_sub (fa_c (me_s (me_l (me_l (List.mem_of_getElem? (i := 10) rfl)))) fa_n) (by decide +kernel)
set_option maxRecDepth 20000 in
theorem gX11_deliver_X11_within : GoodIn wsX11_deliver (va_wsS RX11 88 yX11_within wsX11_within) := goodIn_app (goodIn_sub (fa_c (me_s (me_l (me_l (List.mem_of_getElem? (i := 8) rfl)))) (fa_c (me_s (me_l (me_l (List.mem_of_getElem? (i := 9) rfl)))) (fa_c (me_s (me_l (me_l (List.mem_of_getElem? (i := 4) rfl)))) fa_n))) (by decide +kernel)) ggX11_deliver_X11_within
theorem dX11_deliver_14 : decode cX11_deliver 14 = .ok (.invokestatic 88, 3) := z_dd_184 (by decide +kernel)
theorem dX11_deliver_17 : decode cX11_deliver 17 = .ok (.ifCond .ne 5, 3) := z_dd_154 (by decide +kernel)
theorem dX11_deliver_22 : decode cX11_deliver 22 = .ok (.aload_n 3, 1) := z_dd_45 (by decide +kernel)
theorem dX11_deliver_23 : decode cX11_deliver 23 = .ok (.iload_n 2, 1) := z_dd_28 (by decide +kernel)
set_option maxRecDepth 20000 in
theorem ggX11_deliver_X10_addDelivery : GoodIn wsX11_deliver wsX10_addDelivery := goodIn_sub (fa_c (me_s (me_l (me_l (List.mem_of_getElem? (i := 15) rfl)))) (fa_a (fa_c (me_s (me_l (me_l (List.mem_of_getElem? (i := 16) rfl)))) (fa_c (me_s (me_l (me_l (List.mem_of_getElem? (i := 17) rfl)))) fa_n)) (fun w h => (me_s (me_r h))))) (by decide +kernel)
set_option maxRecDepth 20000 in
theorem gX11_deliver_X10_addDelivery : GoodIn wsX11_deliver (wsV RX11 231 RX10 yX10_addDelivery wsX10_addDelivery) := goodIn_app (goodIn_sub (fa_c (me_s (me_l (me_l (List.mem_of_getElem? (i := 11) rfl)))) (fa_c (me_s (me_l (me_l (List.mem_of_getElem? (i := 12) rfl)))) (fa_c (me_s (me_l (me_l (List.mem_of_getElem? (i := 13) rfl)))) (fa_c (me_s (me_l (me_l (List.mem_of_getElem? (i := 14) rfl)))) fa_n)))) (by decide +kernel)) ggX11_deliver_X10_addDelivery
theorem dX11_deliver_24 : decode cX11_deliver 24 = .ok (.invokevirtual 231, 3) := z_dd_182 (by decide +kernel)
theorem dX11_deliver_27 : decode cX11_deliver 27 = .ok (.ireturn, 1) := z_dd_172 (by decide +kernel)
theorem dX11_dip_10 : decode cX11_dip 10 = .ok (.iload_n 2, 1) := z_dd_28 (by decide +kernel)
theorem dX11_dip_11 : decode cX11_dip 11 = .ok (.iconst 0, 1) := z_dd_3 (by decide +kernel)
theorem dX11_dip_12 : decode cX11_dip 12 = .ok (.ldc 234, 2) := z_dd_18 (by decide +kernel)
set_option maxRecDepth 20000 in
theorem ggX11_dip_X11_within : GoodIn wsX11_dip wsX11_within := goodIn_sub (fa_c (me_s (me_l (me_l (me_l (me_l (List.mem_of_getElem? (i := 13) rfl)))))) fa_n) (by decide +kernel)
set_option maxRecDepth 20000 in
theorem gX11_dip_X11_within : GoodIn wsX11_dip (va_wsS RX11 88 yX11_within wsX11_within) := goodIn_app (goodIn_sub (fa_c (me_s (me_l (me_l (me_l (me_l (List.mem_of_getElem? (i := 11) rfl)))))) (fa_c (me_s (me_l (me_l (me_l (me_l (List.mem_of_getElem? (i := 12) rfl)))))) (fa_c (me_s (me_l (me_l (me_l (me_l (List.mem_of_getElem? (i := 7) rfl)))))) fa_n))) (by decide +kernel)) ggX11_dip_X11_within
theorem dX11_dip_14 : decode cX11_dip 14 = .ok (.invokestatic 88, 3) := z_dd_184 (by decide +kernel)
theorem dX11_dip_17 : decode cX11_dip 17 = .ok (.ifCond .ne 5, 3) := z_dd_154 (by decide +kernel)
theorem dX11_dip_22 : decode cX11_dip 22 = .ok (.aload_n 3, 1) := z_dd_45 (by decide +kernel)
theorem dX11_dip_23 : decode cX11_dip 23 = .ok (.iload_n 2, 1) := z_dd_28 (by decide +kernel)
theorem dX11_dip_24 : decode cX11_dip 24 = .ok (.aload_n 0, 1) := z_dd_42 (by decide +kernel)
theorem dX11_dip_25 : decode cX11_dip 25 = .ok (.getfield 85, 3) := z_dd_180 (by decide +kernel)
theorem dX11_dip_28 : decode cX11_dip 28 = .ok (.aload_n 0, 1) := z_dd_42 (by decide +kernel)
theorem dX11_dip_29 : decode cX11_dip 29 = .ok (.getfield 44, 3) := z_dd_180 (by decide +kernel)
theorem dX11_dip_32 : decode cX11_dip 32 = .ok (.getfield 201, 3) := z_dd_180 (by decide +kernel)
set_option maxRecDepth 20000 in
theorem ggX11_dip_X10_addDip : GoodIn wsX11_dip wsX10_addDip := goodIn_sub (fa_c (me_s (me_l (me_l (me_l (me_l (List.mem_of_getElem? (i := 18) rfl)))))) (fa_a (fa_c (me_s (me_l (me_l (me_l (me_l (List.mem_of_getElem? (i := 19) rfl)))))) (fa_c (me_s (me_l (me_l (me_l (me_l (List.mem_of_getElem? (i := 20) rfl)))))) (fa_c (me_s (me_l (me_l (me_l (me_l (List.mem_of_getElem? (i := 21) rfl)))))) (fa_c (me_s (me_l (me_l (me_l (me_l (List.mem_of_getElem? (i := 22) rfl)))))) (fa_c (me_s (me_l (me_l (me_l (me_l (List.mem_of_getElem? (i := 23) rfl)))))) (fa_c (me_s (me_l (me_l (me_l (me_r (List.mem_of_getElem? (i := 0) rfl)))))) fa_n)))))) (fun w h => (me_s (me_r h))))) (by decide +kernel)
set_option maxRecDepth 20000 in
theorem gX11_dip_X10_addDip : GoodIn wsX11_dip (wsV RX11 235 RX10 yX10_addDip wsX10_addDip) := goodIn_app (goodIn_sub (fa_c (me_s (me_l (me_l (me_l (me_l (List.mem_of_getElem? (i := 14) rfl)))))) (fa_c (me_s (me_l (me_l (me_l (me_l (List.mem_of_getElem? (i := 15) rfl)))))) (fa_c (me_s (me_l (me_l (me_l (me_l (List.mem_of_getElem? (i := 16) rfl)))))) (fa_c (me_s (me_l (me_l (me_l (me_l (List.mem_of_getElem? (i := 17) rfl)))))) fa_n)))) (by decide +kernel)) ggX11_dip_X10_addDip
theorem dX11_dip_35 : decode cX11_dip 35 = .ok (.invokevirtual 235, 3) := z_dd_182 (by decide +kernel)
theorem dX11_dip_38 : decode cX11_dip 38 = .ok (.ireturn, 1) := z_dd_172 (by decide +kernel)
theorem dX11_inBehind_0 : decode cX11_inBehind 0 = .ok (.iload_n 3, 1) := z_dd_29 (by decide +kernel)
theorem dX11_inBehind_1 : decode cX11_inBehind 1 = .ok (.ifCond .lt 21, 3) := z_dd_155 (by decide +kernel)
theorem dX11_inBehind_22 : decode cX11_inBehind 22 = .ok (.iconst 0, 1) := z_dd_3 (by decide +kernel)
theorem dX11_inBehind_23 : decode cX11_inBehind 23 = .ok (.ireturn, 1) := z_dd_172 (by decide +kernel)
theorem dX11_inBehind_4 : decode cX11_inBehind 4 = .ok (.iload_n 3, 1) := z_dd_29 (by decide +kernel)
theorem dX11_inBehind_5 : decode cX11_inBehind 5 = .ok (.iconst 1, 1) := z_dd_4 (by decide +kernel)
theorem dX11_inBehind_6 : decode cX11_inBehind 6 = .ok (.iadd, 1) := z_dd_96 (by decide +kernel)
theorem dX11_inBehind_7 : decode cX11_inBehind 7 = .ok (.aload_n 1, 1) := z_dd_43 (by decide +kernel)
theorem dX11_inBehind_8 : decode cX11_inBehind 8 = .ok (.getfield 238, 3) := z_dd_180 (by decide +kernel)
theorem dX11_inBehind_11 : decode cX11_inBehind 11 = .ok (.if_icmp .ge 11, 3) := z_dd_162 (by decide +kernel)
theorem dX11_inBehind_14 : decode cX11_inBehind 14 = .ok (.iload_n 3, 1) := z_dd_29 (by decide +kernel)
theorem dX11_inBehind_15 : decode cX11_inBehind 15 = .ok (.iconst 1, 1) := z_dd_4 (by decide +kernel)
theorem dX11_inBehind_16 : decode cX11_inBehind 16 = .ok (.iadd, 1) := z_dd_96 (by decide +kernel)
theorem dX11_inBehind_17 : decode cX11_inBehind 17 = .ok (.bipush 30, 2) := z_dd_16 (by decide +kernel)
theorem dX11_inBehind_19 : decode cX11_inBehind 19 = .ok (.if_icmp .lt 5, 3) := z_dd_161 (by decide +kernel)
theorem dX11_inBehind_24 : decode cX11_inBehind 24 = .ok (.aload_n 0, 1) := z_dd_42 (by decide +kernel)
theorem dX11_inBehind_25 : decode cX11_inBehind 25 = .ok (.getfield 30, 3) := z_dd_180 (by decide +kernel)
theorem dX11_inBehind_28 : decode cX11_inBehind 28 = .ok (.iconst 3, 1) := z_dd_6 (by decide +kernel)
theorem dX11_inBehind_29 : decode cX11_inBehind 29 = .ok (.aload_n 1, 1) := z_dd_43 (by decide +kernel)
theorem dX11_inBehind_30 : decode cX11_inBehind 30 = .ok (.getfield 246, 3) := z_dd_180 (by decide +kernel)
theorem dX11_inBehind_33 : decode cX11_inBehind 33 = .ok (.iload_n 3, 1) := z_dd_29 (by decide +kernel)
theorem dX11_inBehind_34 : decode cX11_inBehind 34 = .ok (.iaload, 1) := z_dd_46 (by decide +kernel)
theorem dX11_inBehind_35 : decode cX11_inBehind 35 = .ok (.bipush 30, 2) := z_dd_16 (by decide +kernel)
theorem dX11_inBehind_37 : decode cX11_inBehind 37 = .ok (.idiv, 1) := z_dd_108 (by decide +kernel)
theorem dX11_inBehind_38 : decode cX11_inBehind 38 = .ok (.aload_n 0, 1) := z_dd_42 (by decide +kernel)
theorem dX11_inBehind_39 : decode cX11_inBehind 39 = .ok (.getfield 85, 3) := z_dd_180 (by decide +kernel)
set_option maxRecDepth 20000 in
theorem ggX11_inBehind_X6_amount : GoodIn wsX11_inBehind wsX6_amount := goodIn_sub (fa_c (me_s (me_l (me_l (me_l (me_l (me_l (me_l (List.mem_of_getElem? (i := 11) rfl)))))))) (fa_a (fa_a (fa_c (me_s (me_l (me_l (me_l (me_l (me_l (me_l (List.mem_of_getElem? (i := 12) rfl)))))))) (fa_c (me_s (me_l (me_l (me_l (me_l (me_l (me_l (List.mem_of_getElem? (i := 13) rfl)))))))) (fa_c (me_s (me_l (me_l (me_l (me_l (me_l (me_l (List.mem_of_getElem? (i := 14) rfl)))))))) (fa_c (me_s (me_l (me_l (me_l (me_l (me_l (me_l (List.mem_of_getElem? (i := 10) rfl)))))))) (fa_c (me_s (me_l (me_l (me_l (me_l (me_l (me_l (List.mem_of_getElem? (i := 15) rfl)))))))) (fa_c (me_s (me_l (me_l (me_l (me_l (me_l (me_l (List.mem_of_getElem? (i := 16) rfl)))))))) (fa_c (me_s (me_l (me_l (me_l (me_l (me_l (me_l (List.mem_of_getElem? (i := 17) rfl)))))))) (fa_c (me_s (me_l (me_l (me_l (me_l (me_l (me_l (List.mem_of_getElem? (i := 18) rfl)))))))) (fa_c (me_s (me_l (me_l (me_l (me_l (me_l (me_l (List.mem_of_getElem? (i := 19) rfl)))))))) (fa_c (me_s (me_l (me_l (me_l (me_l (me_l (me_l (List.mem_of_getElem? (i := 20) rfl)))))))) (fa_c (me_s (me_l (me_l (me_l (me_l (me_l (me_l (List.mem_of_getElem? (i := 21) rfl)))))))) (fa_c (me_s (me_l (me_l (me_l (me_l (me_l (me_l (List.mem_of_getElem? (i := 22) rfl)))))))) (fa_c (me_s (me_l (me_l (me_l (me_l (me_l (me_l (List.mem_of_getElem? (i := 23) rfl)))))))) (fa_c (me_s (me_l (me_l (me_l (me_l (me_l (me_r (me_l (List.mem_of_getElem? (i := 0) rfl))))))))) (fa_c (me_s (me_l (me_l (me_l (me_l (me_l (me_r (me_l (List.mem_of_getElem? (i := 1) rfl))))))))) (fa_c (me_s (me_l (me_l (me_l (me_l (me_l (me_r (me_l (List.mem_of_getElem? (i := 2) rfl))))))))) (fa_c (me_s (me_l (me_l (me_l (me_l (me_l (me_r (me_l (List.mem_of_getElem? (i := 3) rfl))))))))) (fa_c (me_s (me_l (me_l (me_l (me_l (me_l (me_r (me_l (List.mem_of_getElem? (i := 4) rfl))))))))) (fa_c (me_s (me_l (me_l (me_l (me_l (me_l (me_r (me_l (List.mem_of_getElem? (i := 5) rfl))))))))) (fa_c (me_s (me_l (me_l (me_l (me_l (me_l (me_r (me_l (List.mem_of_getElem? (i := 6) rfl))))))))) (fa_c (me_s (me_l (me_l (me_l (me_l (me_l (me_r (me_l (List.mem_of_getElem? (i := 7) rfl))))))))) (fa_c (me_s (me_l (me_l (me_l (me_l (me_l (me_r (me_l (List.mem_of_getElem? (i := 8) rfl))))))))) (fa_c (me_s (me_l (me_l (me_l (me_l (me_l (me_r (me_l (List.mem_of_getElem? (i := 9) rfl))))))))) (fa_c (me_s (me_l (me_l (me_l (me_l (me_l (me_r (me_l (List.mem_of_getElem? (i := 10) rfl))))))))) fa_n)))))))))))))))))))))))) (fun w h => (me_s (me_l (me_l (me_r h)))))) (fun w h => (me_s (me_l (me_r h)))))) (by decide +kernel)
set_option maxRecDepth 20000 in
theorem gX11_inBehind_X6_amount : GoodIn wsX11_inBehind (wsV RX11 144 RX6 yX6_amount wsX6_amount) := goodIn_app (goodIn_sub (fa_c (me_s (me_l (me_l (me_l (me_l (me_l (me_l (List.mem_of_getElem? (i := 7) rfl)))))))) (fa_c (me_s (me_l (me_l (me_l (me_l (me_l (me_l (List.mem_of_getElem? (i := 8) rfl)))))))) (fa_c (me_s (me_l (me_l (me_l (me_l (me_l (me_l (List.mem_of_getElem? (i := 9) rfl)))))))) (fa_c (me_s (me_l (me_l (me_l (me_l (me_l (me_l (List.mem_of_getElem? (i := 10) rfl)))))))) fa_n)))) (by decide +kernel)) ggX11_inBehind_X6_amount
theorem dX11_inBehind_42 : decode cX11_inBehind 42 = .ok (.invokevirtual 144, 3) := z_dd_182 (by decide +kernel)
theorem dX11_inBehind_45 : decode cX11_inBehind 45 = .ok (.istore 4, 2) := z_dd_54 (by decide +kernel)
theorem dX11_inBehind_47 : decode cX11_inBehind 47 = .ok (.aload_n 0, 1) := z_dd_42 (by decide +kernel)
theorem dX11_inBehind_48 : decode cX11_inBehind 48 = .ok (.getfield 44, 3) := z_dd_180 (by decide +kernel)
theorem dX11_inBehind_51 : decode cX11_inBehind 51 = .ok (.iload_n 2, 1) := z_dd_28 (by decide +kernel)
theorem dX11_inBehind_52 : decode cX11_inBehind 52 = .ok (.aload_n 1, 1) := z_dd_43 (by decide +kernel)
theorem dX11_inBehind_53 : decode cX11_inBehind 53 = .ok (.getfield 249, 3) := z_dd_180 (by decide +kernel)
theorem dX11_inBehind_56 : decode cX11_inBehind 56 = .ok (.iload_n 3, 1) := z_dd_29 (by decide +kernel)
theorem dX11_inBehind_57 : decode cX11_inBehind 57 = .ok (.iaload, 1) := z_dd_46 (by decide +kernel)
theorem dX11_inBehind_58 : decode cX11_inBehind 58 = .ok (.aload_n 1, 1) := z_dd_43 (by decide +kernel)
theorem dX11_inBehind_59 : decode cX11_inBehind 59 = .ok (.getfield 249, 3) := z_dd_180 (by decide +kernel)
theorem dX11_inBehind_62 : decode cX11_inBehind 62 = .ok (.iload_n 3, 1) := z_dd_29 (by decide +kernel)
theorem dX11_inBehind_63 : decode cX11_inBehind 63 = .ok (.iconst 1, 1) := z_dd_4 (by decide +kernel)
theorem dX11_inBehind_64 : decode cX11_inBehind 64 = .ok (.iadd, 1) := z_dd_96 (by decide +kernel)
theorem dX11_inBehind_65 : decode cX11_inBehind 65 = .ok (.iaload, 1) := z_dd_46 (by decide +kernel)
set_option maxRecDepth 20000 in
theorem ggX11_inBehind_X8_given : GoodIn wsX11_inBehind wsX8_given := goodIn_sub (fa_c (me_s (me_l (me_l (me_l (me_l (me_l (me_r (me_l (List.mem_of_getElem? (i := 15) rfl))))))))) (fa_a (fa_c (me_s (me_l (me_l (me_l (me_l (me_l (me_r (me_l (List.mem_of_getElem? (i := 16) rfl))))))))) (fa_c (me_s (me_l (me_l (me_l (me_l (me_l (me_r (me_l (List.mem_of_getElem? (i := 17) rfl))))))))) (fa_c (me_s (me_l (me_l (me_l (me_l (me_l (me_r (me_l (List.mem_of_getElem? (i := 18) rfl))))))))) (fa_c (me_s (me_l (me_l (me_l (me_l (me_l (me_r (me_l (List.mem_of_getElem? (i := 19) rfl))))))))) (fa_c (me_s (me_l (me_l (me_l (me_l (me_l (me_r (me_l (List.mem_of_getElem? (i := 20) rfl))))))))) (fa_c (me_s (me_l (me_l (me_l (me_l (me_l (me_r (me_l (List.mem_of_getElem? (i := 21) rfl))))))))) (fa_c (me_s (me_l (me_l (me_l (me_l (me_l (me_r (me_l (List.mem_of_getElem? (i := 22) rfl))))))))) (fa_c (me_s (me_l (me_l (me_l (me_l (me_l (me_r (me_l (List.mem_of_getElem? (i := 23) rfl))))))))) (fa_c (me_s (me_l (me_l (me_l (me_l (me_l (me_r (me_r (List.mem_of_getElem? (i := 0) rfl))))))))) (fa_c (me_s (me_l (me_l (me_l (me_l (me_l (me_r (me_l (List.mem_of_getElem? (i := 14) rfl))))))))) (fa_c (me_s (me_l (me_l (me_l (me_l (me_l (me_r (me_r (List.mem_of_getElem? (i := 1) rfl))))))))) fa_n))))))))))) (fun w h => (me_s (me_r h))))) (by decide +kernel)
set_option maxRecDepth 20000 in
theorem gX11_inBehind_X8_given : GoodIn wsX11_inBehind (wsV RX11 252 RX8 yX8_given wsX8_given) := goodIn_app (goodIn_sub (fa_c (me_s (me_l (me_l (me_l (me_l (me_l (me_r (me_l (List.mem_of_getElem? (i := 11) rfl))))))))) (fa_c (me_s (me_l (me_l (me_l (me_l (me_l (me_r (me_l (List.mem_of_getElem? (i := 12) rfl))))))))) (fa_c (me_s (me_l (me_l (me_l (me_l (me_l (me_r (me_l (List.mem_of_getElem? (i := 13) rfl))))))))) (fa_c (me_s (me_l (me_l (me_l (me_l (me_l (me_r (me_l (List.mem_of_getElem? (i := 14) rfl))))))))) fa_n)))) (by decide +kernel)) ggX11_inBehind_X8_given
theorem dX11_inBehind_66 : decode cX11_inBehind 66 = .ok (.invokevirtual 252, 3) := z_dd_182 (by decide +kernel)
theorem dX11_inBehind_69 : decode cX11_inBehind 69 = .ok (.istore 5, 2) := z_dd_54 (by decide +kernel)
theorem dX11_inBehind_71 : decode cX11_inBehind 71 = .ok (.aload_n 1, 1) := z_dd_43 (by decide +kernel)
theorem dX11_inBehind_72 : decode cX11_inBehind 72 = .ok (.getfield 255, 3) := z_dd_180 (by decide +kernel)
theorem dX11_inBehind_75 : decode cX11_inBehind 75 = .ok (.iload_n 3, 1) := z_dd_29 (by decide +kernel)
theorem dX11_inBehind_76 : decode cX11_inBehind 76 = .ok (.iconst 1, 1) := z_dd_4 (by decide +kernel)
theorem dX11_inBehind_77 : decode cX11_inBehind 77 = .ok (.iadd, 1) := z_dd_96 (by decide +kernel)
theorem dX11_inBehind_78 : decode cX11_inBehind 78 = .ok (.iaload, 1) := z_dd_46 (by decide +kernel)
theorem dX11_inBehind_79 : decode cX11_inBehind 79 = .ok (.aload_n 1, 1) := z_dd_43 (by decide +kernel)
theorem dX11_inBehind_80 : decode cX11_inBehind 80 = .ok (.getfield 255, 3) := z_dd_180 (by decide +kernel)
theorem dX11_inBehind_83 : decode cX11_inBehind 83 = .ok (.iload_n 3, 1) := z_dd_29 (by decide +kernel)
theorem dX11_inBehind_84 : decode cX11_inBehind 84 = .ok (.iaload, 1) := z_dd_46 (by decide +kernel)
theorem dX11_inBehind_85 : decode cX11_inBehind 85 = .ok (.isub, 1) := z_dd_100 (by decide +kernel)
theorem dX11_inBehind_86 : decode cX11_inBehind 86 = .ok (.iload 5, 2) := z_dd_21 (by decide +kernel)
theorem dX11_inBehind_88 : decode cX11_inBehind 88 = .ok (.isub, 1) := z_dd_100 (by decide +kernel)
theorem dX11_inBehind_89 : decode cX11_inBehind 89 = .ok (.iload 4, 2) := z_dd_21 (by decide +kernel)
theorem dX11_inBehind_91 : decode cX11_inBehind 91 = .ok (.aload_n 1, 1) := z_dd_43 (by decide +kernel)
theorem dX11_inBehind_92 : decode cX11_inBehind 92 = .ok (.getfield 246, 3) := z_dd_180 (by decide +kernel)
theorem dX11_inBehind_95 : decode cX11_inBehind 95 = .ok (.iload_n 3, 1) := z_dd_29 (by decide +kernel)
theorem dX11_inBehind_96 : decode cX11_inBehind 96 = .ok (.iconst 1, 1) := z_dd_4 (by decide +kernel)
theorem dX11_inBehind_97 : decode cX11_inBehind 97 = .ok (.iadd, 1) := z_dd_96 (by decide +kernel)
theorem dX11_inBehind_98 : decode cX11_inBehind 98 = .ok (.iaload, 1) := z_dd_46 (by decide +kernel)
theorem dX11_inBehind_99 : decode cX11_inBehind 99 = .ok (.aload_n 1, 1) := z_dd_43 (by decide +kernel)
theorem dX11_inBehind_100 : decode cX11_inBehind 100 = .ok (.getfield 246, 3) := z_dd_180 (by decide +kernel)
theorem dX11_inBehind_103 : decode cX11_inBehind 103 = .ok (.iload_n 3, 1) := z_dd_29 (by decide +kernel)
theorem dX11_inBehind_104 : decode cX11_inBehind 104 = .ok (.iaload, 1) := z_dd_46 (by decide +kernel)
theorem dX11_inBehind_105 : decode cX11_inBehind 105 = .ok (.isub, 1) := z_dd_100 (by decide +kernel)
theorem dX11_inBehind_106 : decode cX11_inBehind 106 = .ok (.imul, 1) := z_dd_104 (by decide +kernel)
theorem dX11_inBehind_107 : decode cX11_inBehind 107 = .ok (.isub, 1) := z_dd_100 (by decide +kernel)
theorem dX11_inBehind_108 : decode cX11_inBehind 108 = .ok (.ireturn, 1) := z_dd_172 (by decide +kernel)
theorem dX11_putBounds_0 : decode cX11_putBounds 0 = .ok (.iload_n 3, 1) := z_dd_29 (by decide +kernel)
theorem dX11_putBounds_1 : decode cX11_putBounds 1 = .ok (.iconst 0, 1) := z_dd_3 (by decide +kernel)
theorem dX11_putBounds_2 : decode cX11_putBounds 2 = .ok (.invokestatic 274, 3) := z_dd_184 (by decide +kernel)
theorem dX11_putBounds_5 : decode cX11_putBounds 5 = .ok (.istore 5, 2) := z_dd_54 (by decide +kernel)
theorem dX11_putBounds_7 : decode cX11_putBounds 7 = .ok (.iload 5, 2) := z_dd_21 (by decide +kernel)
theorem dX11_putBounds_9 : decode cX11_putBounds 9 = .ok (.iload 4, 2) := z_dd_21 (by decide +kernel)
theorem dX11_putBounds_11 : decode cX11_putBounds 11 = .ok (.if_icmp .gt 104, 3) := z_dd_163 (by decide +kernel)
theorem dX11_putBounds_115 : decode cX11_putBounds 115 = .ok (.return_, 1) := z_dd_177 (by decide +kernel)
theorem dX11_putBounds_14 : decode cX11_putBounds 14 = .ok (.iload 5, 2) := z_dd_21 (by decide +kernel)
theorem dX11_putBounds_16 : decode cX11_putBounds 16 = .ok (.bipush 30, 2) := z_dd_16 (by decide +kernel)
theorem dX11_putBounds_18 : decode cX11_putBounds 18 = .ok (.if_icmp .ge 97, 3) := z_dd_162 (by decide +kernel)
theorem dX11_putBounds_21 : decode cX11_putBounds 21 = .ok (.aload_n 0, 1) := z_dd_42 (by decide +kernel)
theorem dX11_putBounds_22 : decode cX11_putBounds 22 = .ok (.getfield 30, 3) := z_dd_180 (by decide +kernel)
theorem dX11_putBounds_25 : decode cX11_putBounds 25 = .ok (.iconst 4, 1) := z_dd_7 (by decide +kernel)
theorem dX11_putBounds_26 : decode cX11_putBounds 26 = .ok (.aload_n 1, 1) := z_dd_43 (by decide +kernel)
theorem dX11_putBounds_27 : decode cX11_putBounds 27 = .ok (.getfield 246, 3) := z_dd_180 (by decide +kernel)
theorem dX11_putBounds_30 : decode cX11_putBounds 30 = .ok (.iload 5, 2) := z_dd_21 (by decide +kernel)
theorem dX11_putBounds_32 : decode cX11_putBounds 32 = .ok (.iaload, 1) := z_dd_46 (by decide +kernel)
theorem dX11_putBounds_33 : decode cX11_putBounds 33 = .ok (.bipush 30, 2) := z_dd_16 (by decide +kernel)
theorem dX11_putBounds_35 : decode cX11_putBounds 35 = .ok (.idiv, 1) := z_dd_108 (by decide +kernel)
theorem dX11_putBounds_36 : decode cX11_putBounds 36 = .ok (.aload_n 0, 1) := z_dd_42 (by decide +kernel)
theorem dX11_putBounds_37 : decode cX11_putBounds 37 = .ok (.getfield 85, 3) := z_dd_180 (by decide +kernel)
set_option maxRecDepth 20000 in
theorem ggX11_putBounds_X6_amount : GoodIn wsX11_putBounds wsX6_amount := goodIn_sub (fa_c (me_s (me_l (me_l (me_l (me_l (me_l (me_l (List.mem_of_getElem? (i := 15) rfl)))))))) (fa_a (fa_a (fa_c (me_s (me_l (me_l (me_l (me_l (me_l (me_l (List.mem_of_getElem? (i := 16) rfl)))))))) (fa_c (me_s (me_l (me_l (me_l (me_l (me_l (me_l (List.mem_of_getElem? (i := 17) rfl)))))))) (fa_c (me_s (me_l (me_l (me_l (me_l (me_l (me_l (List.mem_of_getElem? (i := 18) rfl)))))))) (fa_c (me_s (me_l (me_l (me_l (me_l (me_l (me_l (List.mem_of_getElem? (i := 14) rfl)))))))) (fa_c (me_s (me_l (me_l (me_l (me_l (me_l (me_l (List.mem_of_getElem? (i := 19) rfl)))))))) (fa_c (me_s (me_l (me_l (me_l (me_l (me_l (me_l (List.mem_of_getElem? (i := 20) rfl)))))))) (fa_c (me_s (me_l (me_l (me_l (me_l (me_l (me_l (List.mem_of_getElem? (i := 21) rfl)))))))) (fa_c (me_s (me_l (me_l (me_l (me_l (me_l (me_l (List.mem_of_getElem? (i := 22) rfl)))))))) (fa_c (me_s (me_l (me_l (me_l (me_l (me_l (me_l (List.mem_of_getElem? (i := 23) rfl)))))))) (fa_c (me_s (me_l (me_l (me_l (me_l (me_l (me_r (me_l (List.mem_of_getElem? (i := 0) rfl))))))))) (fa_c (me_s (me_l (me_l (me_l (me_l (me_l (me_r (me_l (List.mem_of_getElem? (i := 1) rfl))))))))) (fa_c (me_s (me_l (me_l (me_l (me_l (me_l (me_r (me_l (List.mem_of_getElem? (i := 2) rfl))))))))) (fa_c (me_s (me_l (me_l (me_l (me_l (me_l (me_r (me_l (List.mem_of_getElem? (i := 3) rfl))))))))) (fa_c (me_s (me_l (me_l (me_l (me_l (me_l (me_r (me_l (List.mem_of_getElem? (i := 4) rfl))))))))) (fa_c (me_s (me_l (me_l (me_l (me_l (me_l (me_r (me_l (List.mem_of_getElem? (i := 5) rfl))))))))) (fa_c (me_s (me_l (me_l (me_l (me_l (me_l (me_r (me_l (List.mem_of_getElem? (i := 6) rfl))))))))) (fa_c (me_s (me_l (me_l (me_l (me_l (me_l (me_r (me_l (List.mem_of_getElem? (i := 7) rfl))))))))) (fa_c (me_s (me_l (me_l (me_l (me_l (me_l (me_r (me_l (List.mem_of_getElem? (i := 8) rfl))))))))) (fa_c (me_s (me_l (me_l (me_l (me_l (me_l (me_r (me_l (List.mem_of_getElem? (i := 9) rfl))))))))) (fa_c (me_s (me_l (me_l (me_l (me_l (me_l (me_r (me_l (List.mem_of_getElem? (i := 10) rfl))))))))) (fa_c (me_s (me_l (me_l (me_l (me_l (me_l (me_r (me_l (List.mem_of_getElem? (i := 11) rfl))))))))) (fa_c (me_s (me_l (me_l (me_l (me_l (me_l (me_r (me_l (List.mem_of_getElem? (i := 12) rfl))))))))) (fa_c (me_s (me_l (me_l (me_l (me_l (me_l (me_r (me_l (List.mem_of_getElem? (i := 13) rfl))))))))) (fa_c (me_s (me_l (me_l (me_l (me_l (me_l (me_r (me_l (List.mem_of_getElem? (i := 14) rfl))))))))) fa_n)))))))))))))))))))))))) (fun w h => (me_s (me_l (me_l (me_r h)))))) (fun w h => (me_s (me_l (me_r h)))))) (by decide +kernel)
set_option maxRecDepth 20000 in
theorem gX11_putBounds_X6_amount : GoodIn wsX11_putBounds (wsV RX11 144 RX6 yX6_amount wsX6_amount) := goodIn_app (goodIn_sub (fa_c (me_s (me_l (me_l (me_l (me_l (me_l (me_l (List.mem_of_getElem? (i := 11) rfl)))))))) (fa_c (me_s (me_l (me_l (me_l (me_l (me_l (me_l (List.mem_of_getElem? (i := 12) rfl)))))))) (fa_c (me_s (me_l (me_l (me_l (me_l (me_l (me_l (List.mem_of_getElem? (i := 13) rfl)))))))) (fa_c (me_s (me_l (me_l (me_l (me_l (me_l (me_l (List.mem_of_getElem? (i := 14) rfl)))))))) fa_n)))) (by decide +kernel)) ggX11_putBounds_X6_amount
theorem dX11_putBounds_40 : decode cX11_putBounds 40 = .ok (.invokevirtual 144, 3) := z_dd_182 (by decide +kernel)
theorem dX11_putBounds_43 : decode cX11_putBounds 43 = .ok (.istore 6, 2) := z_dd_54 (by decide +kernel)
theorem dX11_putBounds_45 : decode cX11_putBounds 45 = .ok (.aload_n 1, 1) := z_dd_43 (by decide +kernel)
theorem dX11_putBounds_46 : decode cX11_putBounds 46 = .ok (.getfield 279, 3) := z_dd_180 (by decide +kernel)
theorem dX11_putBounds_49 : decode cX11_putBounds 49 = .ok (.iload 5, 2) := z_dd_21 (by decide +kernel)
theorem dX11_putBounds_51 : decode cX11_putBounds 51 = .ok (.iconst 0, 1) := z_dd_3 (by decide +kernel)
theorem dX11_putBounds_52 : decode cX11_putBounds 52 = .ok (.aload_n 1, 1) := z_dd_43 (by decide +kernel)
theorem dX11_putBounds_53 : decode cX11_putBounds 53 = .ok (.getfield 282, 3) := z_dd_180 (by decide +kernel)
theorem dX11_putBounds_56 : decode cX11_putBounds 56 = .ok (.iload 5, 2) := z_dd_21 (by decide +kernel)
theorem dX11_putBounds_58 : decode cX11_putBounds 58 = .ok (.iaload, 1) := z_dd_46 (by decide +kernel)
theorem dX11_putBounds_59 : decode cX11_putBounds 59 = .ok (.iload 6, 2) := z_dd_21 (by decide +kernel)
theorem dX11_putBounds_61 : decode cX11_putBounds 61 = .ok (.isub, 1) := z_dd_100 (by decide +kernel)
theorem dX11_putBounds_62 : decode cX11_putBounds 62 = .ok (.invokestatic 274, 3) := z_dd_184 (by decide +kernel)
theorem dX11_putBounds_65 : decode cX11_putBounds 65 = .ok (.iastore, 1) := z_dd_79 (by decide +kernel)
theorem dX11_putBounds_66 : decode cX11_putBounds 66 = .ok (.aload_n 1, 1) := z_dd_43 (by decide +kernel)
theorem dX11_putBounds_67 : decode cX11_putBounds 67 = .ok (.getfield 285, 3) := z_dd_180 (by decide +kernel)
theorem dX11_putBounds_70 : decode cX11_putBounds 70 = .ok (.iload 5, 2) := z_dd_21 (by decide +kernel)
theorem dX11_putBounds_72 : decode cX11_putBounds 72 = .ok (.aload_n 1, 1) := z_dd_43 (by decide +kernel)
theorem dX11_putBounds_73 : decode cX11_putBounds 73 = .ok (.getfield 282, 3) := z_dd_180 (by decide +kernel)
theorem dX11_putBounds_76 : decode cX11_putBounds 76 = .ok (.iload 5, 2) := z_dd_21 (by decide +kernel)
theorem dX11_putBounds_78 : decode cX11_putBounds 78 = .ok (.iaload, 1) := z_dd_46 (by decide +kernel)
theorem dX11_putBounds_79 : decode cX11_putBounds 79 = .ok (.iload 6, 2) := z_dd_21 (by decide +kernel)
theorem dX11_putBounds_81 : decode cX11_putBounds 81 = .ok (.iadd, 1) := z_dd_96 (by decide +kernel)
theorem dX11_putBounds_82 : decode cX11_putBounds 82 = .ok (.iastore, 1) := z_dd_79 (by decide +kernel)
theorem dX11_putBounds_83 : decode cX11_putBounds 83 = .ok (.aload_n 1, 1) := z_dd_43 (by decide +kernel)
theorem dX11_putBounds_84 : decode cX11_putBounds 84 = .ok (.getfield 288, 3) := z_dd_180 (by decide +kernel)
theorem dX11_putBounds_87 : decode cX11_putBounds 87 = .ok (.iload 5, 2) := z_dd_21 (by decide +kernel)
theorem dX11_putBounds_89 : decode cX11_putBounds 89 = .ok (.iload 5, 2) := z_dd_21 (by decide +kernel)
theorem dX11_putBounds_91 : decode cX11_putBounds 91 = .ok (.iload 4, 2) := z_dd_21 (by decide +kernel)
theorem dX11_putBounds_93 : decode cX11_putBounds 93 = .ok (.if_icmp .ge 14, 3) := z_dd_162 (by decide +kernel)
theorem dX11_putBounds_107 : decode cX11_putBounds 107 = .ok (.iconst 0, 1) := z_dd_3 (by decide +kernel)
theorem dX11_putBounds_108 : decode cX11_putBounds 108 = .ok (.iastore, 1) := z_dd_79 (by decide +kernel)
theorem dX11_putBounds_109 : decode cX11_putBounds 109 = .ok (.iinc 5 1, 3) := z_dd_132 (by decide +kernel)
theorem dX11_putBounds_112 : decode cX11_putBounds 112 = .ok (.goto (-105), 3) := z_dd_167 (by decide +kernel)
theorem dX11_putBounds_96 : decode cX11_putBounds 96 = .ok (.aload_n 0, 1) := z_dd_42 (by decide +kernel)
theorem dX11_putBounds_97 : decode cX11_putBounds 97 = .ok (.aload_n 1, 1) := z_dd_43 (by decide +kernel)
theorem dX11_putBounds_98 : decode cX11_putBounds 98 = .ok (.iload_n 2, 1) := z_dd_28 (by decide +kernel)
theorem dX11_putBounds_99 : decode cX11_putBounds 99 = .ok (.iload 5, 2) := z_dd_21 (by decide +kernel)
set_option maxRecDepth 20000 in
theorem ggX11_putBounds_X11_inBehind : GoodIn wsX11_putBounds wsX11_inBehind := goodIn_sub (fa_c (me_s (me_l (me_l (me_l (me_l (me_l (me_r (me_l (List.mem_of_getElem? (i := 18) rfl))))))))) (fa_a (fa_a (fa_a (fa_a (fa_a (fa_a (fa_c (me_s (me_l (me_l (me_l (me_l (me_l (me_r (me_l (List.mem_of_getElem? (i := 19) rfl))))))))) (fa_c (me_s (me_l (me_l (me_l (me_l (me_l (me_l (List.mem_of_getElem? (i := 4) rfl)))))))) (fa_c (me_s (me_l (me_l (me_l (me_l (me_l (me_l (List.mem_of_getElem? (i := 5) rfl)))))))) (fa_c (me_s (me_l (me_l (me_l (me_l (me_l (me_l (List.mem_of_getElem? (i := 6) rfl)))))))) (fa_c (me_s (me_l (me_l (me_l (me_l (me_l (me_r (me_l (List.mem_of_getElem? (i := 20) rfl))))))))) (fa_c (me_s (me_l (me_l (me_l (me_l (me_l (me_r (me_l (List.mem_of_getElem? (i := 21) rfl))))))))) (fa_c (me_s (me_l (me_l (me_l (me_l (me_l (me_r (me_l (List.mem_of_getElem? (i := 22) rfl))))))))) (fa_c (me_s (me_l (me_l (me_l (me_l (me_l (me_l (List.mem_of_getElem? (i := 11) rfl)))))))) (fa_c (me_s (me_l (me_l (me_l (me_l (me_l (me_l (List.mem_of_getElem? (i := 12) rfl)))))))) (fa_c (me_s (me_l (me_l (me_l (me_l (me_l (me_l (List.mem_of_getElem? (i := 13) rfl)))))))) (fa_c (me_s (me_l (me_l (me_l (me_l (me_l (me_l (List.mem_of_getElem? (i := 14) rfl)))))))) (fa_c (me_s (me_l (me_l (me_l (me_l (me_l (me_l (List.mem_of_getElem? (i := 15) rfl)))))))) (fa_c (me_s (me_l (me_l (me_l (me_l (me_l (me_l (List.mem_of_getElem? (i := 16) rfl)))))))) (fa_c (me_s (me_l (me_l (me_l (me_l (me_l (me_l (List.mem_of_getElem? (i := 17) rfl)))))))) (fa_c (me_s (me_l (me_l (me_l (me_l (me_l (me_l (List.mem_of_getElem? (i := 18) rfl)))))))) (fa_c (me_s (me_l (me_l (me_l (me_l (me_l (me_l (List.mem_of_getElem? (i := 19) rfl)))))))) (fa_c (me_s (me_l (me_l (me_l (me_l (me_l (me_l (List.mem_of_getElem? (i := 20) rfl)))))))) (fa_c (me_s (me_l (me_l (me_l (me_l (me_l (me_l (List.mem_of_getElem? (i := 21) rfl)))))))) (fa_c (me_s (me_l (me_l (me_l (me_l (me_l (me_l (List.mem_of_getElem? (i := 22) rfl)))))))) (fa_c (me_s (me_l (me_l (me_l (me_l (me_l (me_l (List.mem_of_getElem? (i := 23) rfl)))))))) (fa_c (me_s (me_l (me_l (me_l (me_l (me_l (me_r (me_l (List.mem_of_getElem? (i := 0) rfl))))))))) (fa_c (me_s (me_l (me_l (me_l (me_l (me_l (me_r (me_l (List.mem_of_getElem? (i := 1) rfl))))))))) (fa_c (me_s (me_l (me_l (me_l (me_l (me_l (me_r (me_l (List.mem_of_getElem? (i := 2) rfl))))))))) (fa_c (me_s (me_l (me_l (me_l (me_l (me_l (me_r (me_l (List.mem_of_getElem? (i := 3) rfl))))))))) fa_n)))))))))))))))))))))))) (fa_a (fa_c (me_s (me_l (me_l (me_l (me_l (me_l (me_r (me_l (List.mem_of_getElem? (i := 4) rfl))))))))) (fa_c (me_s (me_l (me_l (me_l (me_l (me_l (me_r (me_l (List.mem_of_getElem? (i := 5) rfl))))))))) (fa_c (me_s (me_l (me_l (me_l (me_l (me_l (me_r (me_l (List.mem_of_getElem? (i := 6) rfl))))))))) (fa_c (me_s (me_l (me_l (me_l (me_l (me_l (me_r (me_l (List.mem_of_getElem? (i := 7) rfl))))))))) (fa_c (me_s (me_l (me_l (me_l (me_l (me_l (me_r (me_l (List.mem_of_getElem? (i := 8) rfl))))))))) (fa_c (me_s (me_l (me_l (me_l (me_l (me_l (me_r (me_l (List.mem_of_getElem? (i := 9) rfl))))))))) (fa_c (me_s (me_l (me_l (me_l (me_l (me_l (me_r (me_l (List.mem_of_getElem? (i := 10) rfl))))))))) (fa_c (me_s (me_l (me_l (me_l (me_l (me_l (me_r (me_l (List.mem_of_getElem? (i := 11) rfl))))))))) (fa_c (me_s (me_l (me_l (me_l (me_l (me_l (me_r (me_l (List.mem_of_getElem? (i := 12) rfl))))))))) (fa_c (me_s (me_l (me_l (me_l (me_l (me_l (me_r (me_l (List.mem_of_getElem? (i := 13) rfl))))))))) (fa_c (me_s (me_l (me_l (me_l (me_l (me_l (me_r (me_l (List.mem_of_getElem? (i := 14) rfl))))))))) (fa_c (me_s (me_l (me_l (me_l (me_l (me_l (me_r (me_l (List.mem_of_getElem? (i := 23) rfl))))))))) (fa_c (me_s (me_l (me_l (me_l (me_l (me_l (me_r (me_r (List.mem_of_getElem? (i := 0) rfl))))))))) (fa_c (me_s (me_l (me_l (me_l (me_l (me_l (me_r (me_r (List.mem_of_getElem? (i := 1) rfl))))))))) (fa_c (me_s (me_l (me_l (me_l (me_l (me_l (me_r (me_r (List.mem_of_getElem? (i := 2) rfl))))))))) (fa_c (me_s (me_l (me_l (me_l (me_l (me_l (me_r (me_r (List.mem_of_getElem? (i := 3) rfl))))))))) (fa_c (me_s (me_l (me_l (me_l (me_l (me_l (me_r (me_r (List.mem_of_getElem? (i := 4) rfl))))))))) (fa_c (me_s (me_l (me_l (me_l (me_l (me_l (me_l (List.mem_of_getElem? (i := 1) rfl)))))))) (fa_c (me_s (me_l (me_l (me_l (me_l (me_l (me_l (List.mem_of_getElem? (i := 2) rfl)))))))) (fa_c (me_s (me_l (me_l (me_l (me_l (me_l (me_l (List.mem_of_getElem? (i := 3) rfl)))))))) (fa_c (me_s (me_l (me_l (me_l (me_l (me_l (me_r (me_r (List.mem_of_getElem? (i := 5) rfl))))))))) (fa_c (me_s (me_l (me_l (me_l (me_l (me_l (me_r (me_r (List.mem_of_getElem? (i := 6) rfl))))))))) (fa_c (me_s (me_l (me_l (me_l (me_l (me_l (me_r (me_r (List.mem_of_getElem? (i := 7) rfl))))))))) (fa_c (me_s (me_l (me_l (me_l (me_l (me_l (me_r (me_r (List.mem_of_getElem? (i := 8) rfl))))))))) fa_n)))))))))))))))))))))))) (fa_c (me_s (me_l (me_l (me_l (me_l (me_l (me_r (me_r (List.mem_of_getElem? (i := 9) rfl))))))))) (fa_c (me_s (me_l (me_l (me_l (me_l (me_l (me_r (me_r (List.mem_of_getElem? (i := 10) rfl))))))))) fa_n)))) (fun w h => (me_s (me_l (me_l (me_l (me_r h))))))) (fun w h => (me_s (me_l (me_l (me_l (me_l (me_r h)))))))) (fun w h => (me_s (me_l (me_l (me_r h)))))) (fun w h => (me_s (me_l (me_r h))))) (fun w h => (me_s (me_r h))))) (by decide +kernel)
set_option maxRecDepth 20000 in
theorem gX11_putBounds_X11_inBehind : GoodIn wsX11_putBounds (wsV RX11 242 RX11 yX11_inBehind wsX11_inBehind) := goodIn_app (goodIn_sub (fa_c (me_s (me_l (me_l (me_l (me_l (me_l (me_r (me_l (List.mem_of_getElem? (i := 15) rfl))))))))) (fa_c (me_s (me_l (me_l (me_l (me_l (me_l (me_r (me_l (List.mem_of_getElem? (i := 16) rfl))))))))) (fa_c (me_s (me_l (me_l (me_l (me_l (me_l (me_r (me_l (List.mem_of_getElem? (i := 17) rfl))))))))) (fa_c (me_s (me_l (me_l (me_l (me_l (me_l (me_r (me_l (List.mem_of_getElem? (i := 5) rfl))))))))) fa_n)))) (by decide +kernel)) ggX11_putBounds_X11_inBehind
theorem dX11_putBounds_101 : decode cX11_putBounds 101 = .ok (.invokevirtual 242, 3) := z_dd_182 (by decide +kernel)
theorem dX11_putBounds_104 : decode cX11_putBounds 104 = .ok (.goto 4, 3) := z_dd_167 (by decide +kernel)
theorem dX11_in_10 : decode cX11_in 10 = .ok (.iload_n 2, 1) := z_dd_28 (by decide +kernel)
theorem dX11_in_11 : decode cX11_in 11 = .ok (.ifCond .lt 13, 3) := z_dd_155 (by decide +kernel)
theorem dX11_in_14 : decode cX11_in 14 = .ok (.iload_n 2, 1) := z_dd_28 (by decide +kernel)
theorem dX11_in_15 : decode cX11_in 15 = .ok (.aload_n 3, 1) := z_dd_45 (by decide +kernel)
theorem dX11_in_16 : decode cX11_in 16 = .ok (.getfield 238, 3) := z_dd_180 (by decide +kernel)
theorem dX11_in_19 : decode cX11_in 19 = .ok (.iconst 1, 1) := z_dd_4 (by decide +kernel)
theorem dX11_in_20 : decode cX11_in 20 = .ok (.isub, 1) := z_dd_100 (by decide +kernel)
theorem dX11_in_21 : decode cX11_in 21 = .ok (.if_icmp .lt 6, 3) := z_dd_161 (by decide +kernel)
theorem dX11_in_27 : decode cX11_in 27 = .ok (.aload_n 0, 1) := z_dd_42 (by decide +kernel)
theorem dX11_in_28 : decode cX11_in 28 = .ok (.aload_n 3, 1) := z_dd_45 (by decide +kernel)
theorem dX11_in_29 : decode cX11_in 29 = .ok (.iload_n 1, 1) := z_dd_27 (by decide +kernel)
theorem dX11_in_30 : decode cX11_in 30 = .ok (.iload_n 2, 1) := z_dd_28 (by decide +kernel)
set_option maxRecDepth 20000 in
theorem ggX11_in_X11_inBehind : GoodIn wsX11_in wsX11_inBehind := goodIn_sub (fa_c (me_s (me_l (me_l (me_l (me_l (me_l (me_l (List.mem_of_getElem? (i := 12) rfl)))))))) (fa_a (fa_a (fa_a (fa_a (fa_a (fa_a (fa_c (me_s (me_l (me_l (me_l (me_l (me_l (me_l (List.mem_of_getElem? (i := 0) rfl)))))))) (fa_c (me_s (me_l (me_l (me_l (me_l (me_l (me_l (List.mem_of_getElem? (i := 13) rfl)))))))) (fa_c (me_s (me_l (me_l (me_l (me_l (me_l (me_l (List.mem_of_getElem? (i := 14) rfl)))))))) (fa_c (me_s (me_l (me_l (me_l (me_l (me_l (me_l (List.mem_of_getElem? (i := 15) rfl)))))))) (fa_c (me_s (me_l (me_l (me_l (me_l (me_l (me_l (List.mem_of_getElem? (i := 16) rfl)))))))) (fa_c (me_s (me_l (me_l (me_l (me_l (me_l (me_l (List.mem_of_getElem? (i := 17) rfl)))))))) (fa_c (me_s (me_l (me_l (me_l (me_l (me_l (me_l (List.mem_of_getElem? (i := 18) rfl)))))))) (fa_c (me_s (me_l (me_l (me_l (me_l (me_l (me_l (List.mem_of_getElem? (i := 19) rfl)))))))) (fa_c (me_s (me_l (me_l (me_l (me_l (me_l (me_l (List.mem_of_getElem? (i := 20) rfl)))))))) (fa_c (me_s (me_l (me_l (me_l (me_l (me_l (me_l (List.mem_of_getElem? (i := 21) rfl)))))))) (fa_c (me_s (me_l (me_l (me_l (me_l (me_l (me_l (List.mem_of_getElem? (i := 22) rfl)))))))) (fa_c (me_s (me_l (me_l (me_l (me_l (me_l (me_l (List.mem_of_getElem? (i := 23) rfl)))))))) (fa_c (me_s (me_l (me_l (me_l (me_l (me_l (me_r (me_l (List.mem_of_getElem? (i := 0) rfl))))))))) (fa_c (me_s (me_l (me_l (me_l (me_l (me_l (me_r (me_l (List.mem_of_getElem? (i := 1) rfl))))))))) (fa_c (me_s (me_l (me_l (me_l (me_l (me_l (me_r (me_l (List.mem_of_getElem? (i := 2) rfl))))))))) (fa_c (me_s (me_l (me_l (me_l (me_l (me_l (me_r (me_l (List.mem_of_getElem? (i := 3) rfl))))))))) (fa_c (me_s (me_l (me_l (me_l (me_l (me_l (me_r (me_l (List.mem_of_getElem? (i := 4) rfl))))))))) (fa_c (me_s (me_l (me_l (me_l (me_l (me_l (me_r (me_l (List.mem_of_getElem? (i := 5) rfl))))))))) (fa_c (me_s (me_l (me_l (me_l (me_l (me_l (me_r (me_l (List.mem_of_getElem? (i := 6) rfl))))))))) (fa_c (me_s (me_l (me_l (me_l (me_l (me_l (me_r (me_l (List.mem_of_getElem? (i := 7) rfl))))))))) (fa_c (me_s (me_l (me_l (me_l (me_l (me_l (me_r (me_l (List.mem_of_getElem? (i := 8) rfl))))))))) (fa_c (me_s (me_l (me_l (me_l (me_l (me_l (me_r (me_l (List.mem_of_getElem? (i := 9) rfl))))))))) (fa_c (me_s (me_l (me_l (me_l (me_l (me_l (me_r (me_l (List.mem_of_getElem? (i := 10) rfl))))))))) (fa_c (me_s (me_l (me_l (me_l (me_l (me_l (me_r (me_l (List.mem_of_getElem? (i := 11) rfl))))))))) fa_n)))))))))))))))))))))))) (fa_a (fa_c (me_s (me_l (me_l (me_l (me_l (me_l (me_r (me_l (List.mem_of_getElem? (i := 12) rfl))))))))) (fa_c (me_s (me_l (me_l (me_l (me_l (me_l (me_l (List.mem_of_getElem? (i := 5) rfl)))))))) (fa_c (me_s (me_l (me_l (me_l (me_l (me_l (me_r (me_l (List.mem_of_getElem? (i := 13) rfl))))))))) (fa_c (me_s (me_l (me_l (me_l (me_l (me_l (me_r (me_l (List.mem_of_getElem? (i := 14) rfl))))))))) (fa_c (me_s (me_l (me_l (me_l (me_l (me_l (me_r (me_l (List.mem_of_getElem? (i := 15) rfl))))))))) (fa_c (me_s (me_l (me_l (me_l (me_l (me_l (me_r (me_l (List.mem_of_getElem? (i := 16) rfl))))))))) (fa_c (me_s (me_l (me_l (me_l (me_l (me_l (me_r (me_l (List.mem_of_getElem? (i := 17) rfl))))))))) (fa_c (me_s (me_l (me_l (me_l (me_l (me_l (me_r (me_l (List.mem_of_getElem? (i := 18) rfl))))))))) (fa_c (me_s (me_l (me_l (me_l (me_l (me_l (me_r (me_l (List.mem_of_getElem? (i := 19) rfl))))))))) (fa_c (me_s (me_l (me_l (me_l (me_l (me_l (me_r (me_l (List.mem_of_getElem? (i := 20) rfl))))))))) (fa_c (me_s (me_l (me_l (me_l (me_l (me_l (me_r (me_l (List.mem_of_getElem? (i := 21) rfl))))))))) (fa_c (me_s (me_l (me_l (me_l (me_l (me_l (me_r (me_l (List.mem_of_getElem? (i := 22) rfl))))))))) (fa_c (me_s (me_l (me_l (me_l (me_l (me_l (me_r (me_l (List.mem_of_getElem? (i := 23) rfl))))))))) (fa_c (me_s (me_l (me_l (me_l (me_l (me_l (me_r (me_r (List.mem_of_getElem? (i := 0) rfl))))))))) (fa_c (me_s (me_l (me_l (me_l (me_l (me_l (me_r (me_r (List.mem_of_getElem? (i := 1) rfl))))))))) (fa_c (me_s (me_l (me_l (me_l (me_l (me_l (me_r (me_r (List.mem_of_getElem? (i := 2) rfl))))))))) (fa_c (me_s (me_l (me_l (me_l (me_l (me_l (me_r (me_r (List.mem_of_getElem? (i := 3) rfl))))))))) (fa_c (me_s (me_l (me_l (me_l (me_l (me_l (me_r (me_r (List.mem_of_getElem? (i := 4) rfl))))))))) (fa_c (me_s (me_l (me_l (me_l (me_l (me_l (me_r (me_r (List.mem_of_getElem? (i := 5) rfl))))))))) (fa_c (me_s (me_l (me_l (me_l (me_l (me_l (me_r (me_r (List.mem_of_getElem? (i := 6) rfl))))))))) (fa_c (me_s (me_l (me_l (me_l (me_l (me_l (me_r (me_r (List.mem_of_getElem? (i := 7) rfl))))))))) (fa_c (me_s (me_l (me_l (me_l (me_l (me_l (me_r (me_r (List.mem_of_getElem? (i := 8) rfl))))))))) (fa_c (me_s (me_l (me_l (me_l (me_l (me_l (me_r (me_r (List.mem_of_getElem? (i := 9) rfl))))))))) (fa_c (me_s (me_l (me_l (me_l (me_l (me_l (me_r (me_r (List.mem_of_getElem? (i := 10) rfl))))))))) fa_n)))))))))))))))))))))))) (fa_c (me_s (me_l (me_l (me_l (me_l (me_l (me_r (me_r (List.mem_of_getElem? (i := 11) rfl))))))))) (fa_c (me_s (me_l (me_l (me_l (me_l (me_l (me_r (me_r (List.mem_of_getElem? (i := 12) rfl))))))))) fa_n)))) (fun w h => (me_s (me_l (me_l (me_l (me_l (me_r h)))))))) (fun w h => (me_s (me_l (me_l (me_l (me_r h))))))) (fun w h => (me_s (me_l (me_l (me_r h)))))) (fun w h => (me_s (me_l (me_r h))))) (fun w h => (me_s (me_r h))))) (by decide +kernel)
set_option maxRecDepth 20000 in
theorem gX11_in_X11_inBehind : GoodIn wsX11_in (wsV RX11 242 RX11 yX11_inBehind wsX11_inBehind) := goodIn_app (goodIn_sub (fa_c (me_s (me_l (me_l (me_l (me_l (me_l (me_l (List.mem_of_getElem? (i := 9) rfl)))))))) (fa_c (me_s (me_l (me_l (me_l (me_l (me_l (me_l (List.mem_of_getElem? (i := 10) rfl)))))))) (fa_c (me_s (me_l (me_l (me_l (me_l (me_l (me_l (List.mem_of_getElem? (i := 11) rfl)))))))) (fa_c (me_s (me_l (me_l (me_l (me_l (me_l (me_l (List.mem_of_getElem? (i := 5) rfl)))))))) fa_n)))) (by decide +kernel)) ggX11_in_X11_inBehind
theorem dX11_in_31 : decode cX11_in 31 = .ok (.invokevirtual 242, 3) := z_dd_182 (by decide +kernel)
theorem dX11_in_34 : decode cX11_in 34 = .ok (.ireturn, 1) := z_dd_172 (by decide +kernel)
theorem dX11_sums_12 : decode cX11_sums 12 = .ok (.aload 5, 2) := z_dd_25 (by decide +kernel)
theorem dX11_sums_14 : decode cX11_sums 14 = .ok (.iload_n 2, 1) := z_dd_28 (by decide +kernel)
theorem dX11_sums_15 : decode cX11_sums 15 = .ok (.iload_n 3, 1) := z_dd_29 (by decide +kernel)
set_option maxRecDepth 20000 in
theorem ggX11_sums_X10_hasSpan : GoodIn wsX11_sums wsX10_hasSpan := goodIn_sub (fa_c (me_s (me_l (me_l (me_l (me_l (me_l (me_l (List.mem_of_getElem? (i := 12) rfl)))))))) (fa_a (fa_c (me_s (me_l (me_l (me_l (me_l (me_l (me_l (List.mem_of_getElem? (i := 13) rfl)))))))) fa_n) (fun w h => (me_s (me_l (me_l (me_l (me_r h)))))))) (by decide +kernel)
set_option maxRecDepth 20000 in
theorem gX11_sums_X10_hasSpan : GoodIn wsX11_sums (wsV RX11 258 RX10 yX10_hasSpan wsX10_hasSpan) := goodIn_app (goodIn_sub (fa_c (me_s (me_l (me_l (me_l (me_l (me_l (me_l (List.mem_of_getElem? (i := 8) rfl)))))))) (fa_c (me_s (me_l (me_l (me_l (me_l (me_l (me_l (List.mem_of_getElem? (i := 9) rfl)))))))) (fa_c (me_s (me_l (me_l (me_l (me_l (me_l (me_l (List.mem_of_getElem? (i := 10) rfl)))))))) (fa_c (me_s (me_l (me_l (me_l (me_l (me_l (me_l (List.mem_of_getElem? (i := 11) rfl)))))))) fa_n)))) (by decide +kernel)) ggX11_sums_X10_hasSpan
theorem dX11_sums_16 : decode cX11_sums 16 = .ok (.invokevirtual 258, 3) := z_dd_182 (by decide +kernel)
theorem dX11_sums_19 : decode cX11_sums 19 = .ok (.ifCond .eq 13, 3) := z_dd_153 (by decide +kernel)
theorem dX11_sums_22 : decode cX11_sums 22 = .ok (.iload 4, 2) := z_dd_21 (by decide +kernel)
theorem dX11_sums_24 : decode cX11_sums 24 = .ok (.iconst 0, 1) := z_dd_3 (by decide +kernel)
theorem dX11_sums_25 : decode cX11_sums 25 = .ok (.iconst 1, 1) := z_dd_4 (by decide +kernel)
set_option maxRecDepth 20000 in
theorem ggX11_sums_X11_within : GoodIn wsX11_sums wsX11_within := goodIn_sub (fa_c (me_s (me_l (me_l (me_l (me_l (me_l (me_l (List.mem_of_getElem? (i := 16) rfl)))))))) fa_n) (by decide +kernel)
set_option maxRecDepth 20000 in
theorem gX11_sums_X11_within : GoodIn wsX11_sums (va_wsS RX11 88 yX11_within wsX11_within) := goodIn_app (goodIn_sub (fa_c (me_s (me_l (me_l (me_l (me_l (me_l (me_l (List.mem_of_getElem? (i := 14) rfl)))))))) (fa_c (me_s (me_l (me_l (me_l (me_l (me_l (me_l (List.mem_of_getElem? (i := 15) rfl)))))))) (fa_c (me_s (me_l (me_l (me_l (me_l (me_l (me_l (List.mem_of_getElem? (i := 4) rfl)))))))) fa_n))) (by decide +kernel)) ggX11_sums_X11_within
theorem dX11_sums_26 : decode cX11_sums 26 = .ok (.invokestatic 88, 3) := z_dd_184 (by decide +kernel)
theorem dX11_sums_29 : decode cX11_sums 29 = .ok (.ifCond .ne 7, 3) := z_dd_154 (by decide +kernel)
theorem dX11_sums_36 : decode cX11_sums 36 = .ok (.aload_n 0, 1) := z_dd_42 (by decide +kernel)
theorem dX11_sums_37 : decode cX11_sums 37 = .ok (.aload 5, 2) := z_dd_25 (by decide +kernel)
theorem dX11_sums_39 : decode cX11_sums 39 = .ok (.iload_n 1, 1) := z_dd_27 (by decide +kernel)
theorem dX11_sums_40 : decode cX11_sums 40 = .ok (.iload_n 2, 1) := z_dd_28 (by decide +kernel)
theorem dX11_sums_41 : decode cX11_sums 41 = .ok (.iload_n 3, 1) := z_dd_29 (by decide +kernel)
set_option maxRecDepth 20000 in
theorem ggX11_sums_X11_putBounds : GoodIn wsX11_sums wsX11_putBounds := goodIn_sub (fa_c (me_s (me_l (me_l (me_l (me_l (me_l (me_l (List.mem_of_getElem? (i := 20) rfl)))))))) (fa_a (fa_a (fa_a (fa_a (fa_a (fa_a (fa_c (me_s (me_l (me_l (me_l (me_l (me_l (me_l (List.mem_of_getElem? (i := 21) rfl)))))))) (fa_c (me_s (me_l (me_l (me_l (me_l (me_l (me_l (List.mem_of_getElem? (i := 22) rfl)))))))) (fa_c (me_s (me_l (me_l (me_l (me_l (me_l (me_l (List.mem_of_getElem? (i := 23) rfl)))))))) (fa_c (me_s (me_l (me_l (me_l (me_l (me_l (me_r (me_l (List.mem_of_getElem? (i := 0) rfl))))))))) (fa_c (me_s (me_l (me_l (me_l (me_l (me_l (me_r (me_l (List.mem_of_getElem? (i := 1) rfl))))))))) (fa_c (me_s (me_l (me_l (me_l (me_l (me_l (me_r (me_l (List.mem_of_getElem? (i := 2) rfl))))))))) (fa_c (me_s (me_l (me_l (me_l (me_l (me_l (me_r (me_l (List.mem_of_getElem? (i := 3) rfl))))))))) (fa_c (me_s (me_l (me_l (me_l (me_l (me_l (me_r (me_l (List.mem_of_getElem? (i := 4) rfl))))))))) (fa_c (me_s (me_l (me_l (me_l (me_l (me_l (me_r (me_l (List.mem_of_getElem? (i := 5) rfl))))))))) (fa_c (me_s (me_l (me_l (me_l (me_l (me_l (me_r (me_l (List.mem_of_getElem? (i := 6) rfl))))))))) (fa_c (me_s (me_l (me_l (me_l (me_l (me_l (me_r (me_l (List.mem_of_getElem? (i := 7) rfl))))))))) (fa_c (me_s (me_l (me_l (me_l (me_l (me_l (me_r (me_l (List.mem_of_getElem? (i := 8) rfl))))))))) (fa_c (me_s (me_l (me_l (me_l (me_l (me_l (me_r (me_l (List.mem_of_getElem? (i := 9) rfl))))))))) (fa_c (me_s (me_l (me_l (me_l (me_l (me_l (me_r (me_l (List.mem_of_getElem? (i := 10) rfl))))))))) (fa_c (me_s (me_l (me_l (me_l (me_l (me_l (me_r (me_l (List.mem_of_getElem? (i := 11) rfl))))))))) (fa_c (me_s (me_l (me_l (me_l (me_l (me_l (me_r (me_l (List.mem_of_getElem? (i := 12) rfl))))))))) (fa_c (me_s (me_l (me_l (me_l (me_l (me_l (me_r (me_l (List.mem_of_getElem? (i := 13) rfl))))))))) (fa_c (me_s (me_l (me_l (me_l (me_l (me_l (me_r (me_l (List.mem_of_getElem? (i := 14) rfl))))))))) (fa_c (me_s (me_l (me_l (me_l (me_l (me_l (me_r (me_l (List.mem_of_getElem? (i := 15) rfl))))))))) (fa_c (me_s (me_l (me_l (me_l (me_l (me_l (me_r (me_l (List.mem_of_getElem? (i := 16) rfl))))))))) (fa_c (me_s (me_l (me_l (me_l (me_l (me_l (me_r (me_l (List.mem_of_getElem? (i := 17) rfl))))))))) (fa_c (me_s (me_l (me_l (me_l (me_l (me_l (me_r (me_l (List.mem_of_getElem? (i := 18) rfl))))))))) (fa_c (me_s (me_l (me_l (me_l (me_l (me_l (me_r (me_l (List.mem_of_getElem? (i := 19) rfl))))))))) (fa_c (me_s (me_l (me_l (me_l (me_l (me_l (me_r (me_l (List.mem_of_getElem? (i := 20) rfl))))))))) fa_n)))))))))))))))))))))))) (fa_a (fa_c (me_s (me_l (me_l (me_l (me_l (me_l (me_r (me_l (List.mem_of_getElem? (i := 21) rfl))))))))) (fa_c (me_s (me_l (me_l (me_l (me_l (me_l (me_r (me_l (List.mem_of_getElem? (i := 22) rfl))))))))) (fa_c (me_s (me_l (me_l (me_l (me_l (me_l (me_r (me_l (List.mem_of_getElem? (i := 23) rfl))))))))) (fa_c (me_s (me_l (me_l (me_l (me_l (me_l (me_r (me_r (me_l (List.mem_of_getElem? (i := 0) rfl)))))))))) (fa_c (me_s (me_l (me_l (me_l (me_l (me_l (me_r (me_r (me_l (List.mem_of_getElem? (i := 1) rfl)))))))))) (fa_c (me_s (me_l (me_l (me_l (me_l (me_l (me_l (List.mem_of_getElem? (i := 4) rfl)))))))) (fa_c (me_s (me_l (me_l (me_l (me_l (me_l (me_r (me_r (me_l (List.mem_of_getElem? (i := 2) rfl)))))))))) (fa_c (me_s (me_l (me_l (me_l (me_l (me_l (me_r (me_r (me_l (List.mem_of_getElem? (i := 3) rfl)))))))))) (fa_c (me_s (me_l (me_l (me_l (me_l (me_l (me_r (me_r (me_l (List.mem_of_getElem? (i := 4) rfl)))))))))) (fa_c (me_s (me_l (me_l (me_l (me_l (me_l (me_r (me_r (me_l (List.mem_of_getElem? (i := 5) rfl)))))))))) (fa_c (me_s (me_l (me_l (me_l (me_l (me_l (me_r (me_r (me_l (List.mem_of_getElem? (i := 6) rfl)))))))))) (fa_c (me_s (me_l (me_l (me_l (me_l (me_l (me_r (me_r (me_l (List.mem_of_getElem? (i := 7) rfl)))))))))) (fa_c (me_s (me_l (me_l (me_l (me_l (me_l (me_r (me_r (me_l (List.mem_of_getElem? (i := 8) rfl)))))))))) (fa_c (me_s (me_l (me_l (me_l (me_l (me_l (me_r (me_r (me_l (List.mem_of_getElem? (i := 9) rfl)))))))))) (fa_c (me_s (me_l (me_l (me_l (me_l (me_l (me_r (me_r (me_l (List.mem_of_getElem? (i := 10) rfl)))))))))) (fa_c (me_s (me_l (me_l (me_l (me_l (me_l (me_r (me_r (me_l (List.mem_of_getElem? (i := 11) rfl)))))))))) (fa_c (me_s (me_l (me_l (me_l (me_l (me_l (me_r (me_r (me_l (List.mem_of_getElem? (i := 12) rfl)))))))))) (fa_c (me_s (me_l (me_l (me_l (me_l (me_l (me_r (me_r (me_l (List.mem_of_getElem? (i := 13) rfl)))))))))) (fa_c (me_s (me_l (me_l (me_l (me_l (me_l (me_r (me_r (me_l (List.mem_of_getElem? (i := 14) rfl)))))))))) (fa_c (me_s (me_l (me_l (me_l (me_l (me_l (me_r (me_r (me_l (List.mem_of_getElem? (i := 15) rfl)))))))))) (fa_c (me_s (me_l (me_l (me_l (me_l (me_l (me_r (me_r (me_l (List.mem_of_getElem? (i := 16) rfl)))))))))) (fa_c (me_s (me_l (me_l (me_l (me_l (me_l (me_r (me_r (me_l (List.mem_of_getElem? (i := 17) rfl)))))))))) (fa_c (me_s (me_l (me_l (me_l (me_l (me_l (me_r (me_r (me_l (List.mem_of_getElem? (i := 18) rfl)))))))))) (fa_c (me_s (me_l (me_l (me_l (me_l (me_l (me_r (me_r (me_l (List.mem_of_getElem? (i := 19) rfl)))))))))) fa_n)))))))))))))))))))))))) (fa_c (me_s (me_l (me_l (me_l (me_l (me_l (me_r (me_r (me_l (List.mem_of_getElem? (i := 20) rfl)))))))))) (fa_c (me_s (me_l (me_l (me_l (me_l (me_l (me_r (me_r (me_l (List.mem_of_getElem? (i := 21) rfl)))))))))) (fa_c (me_s (me_l (me_l (me_l (me_l (me_l (me_r (me_r (me_l (List.mem_of_getElem? (i := 22) rfl)))))))))) (fa_c (me_s (me_l (me_l (me_l (me_l (me_l (me_r (me_r (me_l (List.mem_of_getElem? (i := 23) rfl)))))))))) (fa_c (me_s (me_l (me_l (me_l (me_l (me_l (me_r (me_r (me_r (me_l (List.mem_of_getElem? (i := 0) rfl))))))))))) (fa_c (me_s (me_l (me_l (me_l (me_l (me_l (me_r (me_r (me_r (me_l (List.mem_of_getElem? (i := 1) rfl))))))))))) (fa_c (me_s (me_l (me_l (me_l (me_l (me_l (me_r (me_r (me_r (me_l (List.mem_of_getElem? (i := 2) rfl))))))))))) (fa_c (me_s (me_l (me_l (me_l (me_l (me_l (me_r (me_r (me_r (me_l (List.mem_of_getElem? (i := 3) rfl))))))))))) (fa_c (me_s (me_l (me_l (me_l (me_l (me_l (me_r (me_r (me_r (me_l (List.mem_of_getElem? (i := 4) rfl))))))))))) (fa_c (me_s (me_l (me_l (me_l (me_l (me_l (me_r (me_r (me_r (me_l (List.mem_of_getElem? (i := 5) rfl))))))))))) (fa_c (me_s (me_l (me_l (me_l (me_l (me_l (me_r (me_r (me_r (me_l (List.mem_of_getElem? (i := 6) rfl))))))))))) fa_n))))))))))))) (fun w h => (me_s (me_l (me_l (me_l (me_l (me_r h)))))))) (fun w h => (me_s (me_l (me_l (me_l (me_r h))))))) (fun w h => (me_s (me_l (me_l (me_r h)))))) (fun w h => (me_s (me_l (me_r h))))) (fun w h => (me_s (me_r h))))) (by decide +kernel)
set_option maxRecDepth 20000 in
theorem gX11_sums_X11_putBounds : GoodIn wsX11_sums (wsV RX11 263 RX11 yX11_putBounds wsX11_putBounds) := goodIn_app (goodIn_sub (fa_c (me_s (me_l (me_l (me_l (me_l (me_l (me_l (List.mem_of_getElem? (i := 17) rfl)))))))) (fa_c (me_s (me_l (me_l (me_l (me_l (me_l (me_l (List.mem_of_getElem? (i := 18) rfl)))))))) (fa_c (me_s (me_l (me_l (me_l (me_l (me_l (me_l (List.mem_of_getElem? (i := 19) rfl)))))))) (fa_c (me_s (me_l (me_l (me_l (me_l (me_l (me_l (List.mem_of_getElem? (i := 4) rfl)))))))) fa_n)))) (by decide +kernel)) ggX11_sums_X11_putBounds
theorem dX11_sums_42 : decode cX11_sums 42 = .ok (.invokevirtual 263, 3) := z_dd_182 (by decide +kernel)
theorem dX11_sums_45 : decode cX11_sums 45 = .ok (.iload 4, 2) := z_dd_21 (by decide +kernel)
theorem dX11_sums_47 : decode cX11_sums 47 = .ok (.ifCond .ne 13, 3) := z_dd_154 (by decide +kernel)
theorem dX11_sums_60 : decode cX11_sums 60 = .ok (.aload 5, 2) := z_dd_25 (by decide +kernel)
theorem dX11_sums_62 : decode cX11_sums 62 = .ok (.iload_n 2, 1) := z_dd_28 (by decide +kernel)
theorem dX11_sums_63 : decode cX11_sums 63 = .ok (.iload_n 3, 1) := z_dd_29 (by decide +kernel)
set_option maxRecDepth 20000 in
theorem ggX11_sums_X10_mostBlack : GoodIn wsX11_sums wsX10_mostBlack := goodIn_sub (fa_c (me_s (me_l (me_l (me_l (me_l (me_l (me_r (me_r (me_r (me_r (List.mem_of_getElem? (i := 11) rfl))))))))))) (fa_a (fa_a (fa_c (me_s (me_l (me_l (me_l (me_l (me_l (me_r (me_r (me_r (me_l (List.mem_of_getElem? (i := 11) rfl))))))))))) (fa_c (me_s (me_l (me_l (me_l (me_l (me_l (me_r (me_r (me_r (me_l (List.mem_of_getElem? (i := 12) rfl))))))))))) (fa_c (me_s (me_l (me_l (me_l (me_l (me_l (me_r (me_r (me_r (me_l (List.mem_of_getElem? (i := 13) rfl))))))))))) (fa_c (me_s (me_l (me_l (me_l (me_l (me_l (me_r (me_r (me_r (me_l (List.mem_of_getElem? (i := 23) rfl))))))))))) (fa_c (me_s (me_l (me_l (me_l (me_l (me_l (me_r (me_r (me_r (me_l (List.mem_of_getElem? (i := 18) rfl))))))))))) (fa_c (me_s (me_l (me_l (me_l (me_l (me_l (me_l (List.mem_of_getElem? (i := 9) rfl)))))))) (fa_c (me_s (me_l (me_l (me_l (me_l (me_l (me_l (List.mem_of_getElem? (i := 10) rfl)))))))) (fa_c (me_s (me_l (me_l (me_l (me_l (me_l (me_l (List.mem_of_getElem? (i := 11) rfl)))))))) (fa_c (me_s (me_l (me_l (me_l (me_l (me_l (me_l (List.mem_of_getElem? (i := 12) rfl)))))))) (fa_c (me_s (me_l (me_l (me_l (me_l (me_l (me_l (List.mem_of_getElem? (i := 13) rfl)))))))) (fa_c (me_s (me_l (me_l (me_l (me_l (me_l (me_r (me_r (me_r (me_l (List.mem_of_getElem? (i := 19) rfl))))))))))) (fa_c (me_s (me_l (me_l (me_l (me_l (me_l (me_r (me_r (me_r (me_l (List.mem_of_getElem? (i := 20) rfl))))))))))) (fa_c (me_s (me_l (me_l (me_l (me_l (me_l (me_r (me_r (me_r (me_l (List.mem_of_getElem? (i := 21) rfl))))))))))) (fa_c (me_s (me_l (me_l (me_l (me_l (me_l (me_r (me_r (me_r (me_l (List.mem_of_getElem? (i := 22) rfl))))))))))) (fa_c (me_s (me_l (me_l (me_l (me_l (me_l (me_r (me_r (me_r (me_l (List.mem_of_getElem? (i := 14) rfl))))))))))) (fa_c (me_s (me_l (me_l (me_l (me_l (me_l (me_r (me_r (me_r (me_r (List.mem_of_getElem? (i := 0) rfl))))))))))) (fa_c (me_s (me_l (me_l (me_l (me_l (me_l (me_r (me_r (me_r (me_r (List.mem_of_getElem? (i := 1) rfl))))))))))) (fa_c (me_s (me_l (me_l (me_l (me_l (me_l (me_l (List.mem_of_getElem? (i := 23) rfl)))))))) (fa_c (me_s (me_l (me_l (me_l (me_l (me_l (me_r (me_r (me_r (me_r (List.mem_of_getElem? (i := 2) rfl))))))))))) (fa_c (me_s (me_l (me_l (me_l (me_l (me_l (me_r (me_r (me_r (me_r (List.mem_of_getElem? (i := 3) rfl))))))))))) (fa_c (me_s (me_l (me_l (me_l (me_l (me_l (me_r (me_r (me_r (me_r (List.mem_of_getElem? (i := 4) rfl))))))))))) (fa_c (me_s (me_l (me_l (me_l (me_l (me_l (me_r (me_r (me_r (me_r (List.mem_of_getElem? (i := 5) rfl))))))))))) (fa_c (me_s (me_l (me_l (me_l (me_l (me_l (me_r (me_r (me_r (me_r (List.mem_of_getElem? (i := 6) rfl))))))))))) (fa_c (me_s (me_l (me_l (me_l (me_l (me_l (me_r (me_r (me_r (me_r (List.mem_of_getElem? (i := 7) rfl))))))))))) fa_n)))))))))))))))))))))))) (fa_c (me_s (me_l (me_l (me_l (me_l (me_l (me_l (List.mem_of_getElem? (i := 22) rfl)))))))) (fa_c (me_s (me_l (me_l (me_l (me_l (me_l (me_r (me_l (List.mem_of_getElem? (i := 0) rfl))))))))) fa_n))) (fun w h => (me_s (me_l (me_l (me_l (me_r h)))))))) (by decide +kernel)
set_option maxRecDepth 20000 in
theorem gX11_sums_X10_mostBlack : GoodIn wsX11_sums (wsV RX11 271 RX10 yX10_mostBlack wsX10_mostBlack) := goodIn_app (goodIn_sub (fa_c (me_s (me_l (me_l (me_l (me_l (me_l (me_r (me_r (me_r (me_r (List.mem_of_getElem? (i := 8) rfl))))))))))) (fa_c (me_s (me_l (me_l (me_l (me_l (me_l (me_r (me_r (me_r (me_r (List.mem_of_getElem? (i := 9) rfl))))))))))) (fa_c (me_s (me_l (me_l (me_l (me_l (me_l (me_r (me_r (me_r (me_r (List.mem_of_getElem? (i := 10) rfl))))))))))) (fa_c (me_s (me_l (me_l (me_l (me_l (me_l (me_l (List.mem_of_getElem? (i := 11) rfl)))))))) fa_n)))) (by decide +kernel)) ggX11_sums_X10_mostBlack
theorem dX11_sums_64 : decode cX11_sums 64 = .ok (.invokevirtual 271, 3) := z_dd_182 (by decide +kernel)
theorem dX11_sums_67 : decode cX11_sums 67 = .ok (.lreturn, 1) := z_dd_173 (by decide +kernel)
theorem dX11_sums_50 : decode cX11_sums 50 = .ok (.aload 5, 2) := z_dd_25 (by decide +kernel)
theorem dX11_sums_52 : decode cX11_sums 52 = .ok (.iload_n 2, 1) := z_dd_28 (by decide +kernel)
theorem dX11_sums_53 : decode cX11_sums 53 = .ok (.iload_n 3, 1) := z_dd_29 (by decide +kernel)
set_option maxRecDepth 20000 in
theorem ggX11_sums_X10_leastBlack : GoodIn wsX11_sums wsX10_leastBlack := goodIn_sub (fa_c (me_s (me_l (me_l (me_l (me_l (me_l (me_r (me_r (me_r (me_l (List.mem_of_getElem? (i := 10) rfl))))))))))) (fa_a (fa_a (fa_c (me_s (me_l (me_l (me_l (me_l (me_l (me_r (me_r (me_r (me_l (List.mem_of_getElem? (i := 11) rfl))))))))))) (fa_c (me_s (me_l (me_l (me_l (me_l (me_l (me_r (me_r (me_r (me_l (List.mem_of_getElem? (i := 12) rfl))))))))))) (fa_c (me_s (me_l (me_l (me_l (me_l (me_l (me_r (me_r (me_r (me_l (List.mem_of_getElem? (i := 13) rfl))))))))))) (fa_c (me_s (me_l (me_l (me_l (me_l (me_l (me_r (me_r (me_r (me_l (List.mem_of_getElem? (i := 14) rfl))))))))))) (fa_c (me_s (me_l (me_l (me_l (me_l (me_l (me_r (me_r (me_r (me_l (List.mem_of_getElem? (i := 15) rfl))))))))))) (fa_c (me_s (me_l (me_l (me_l (me_l (me_l (me_r (me_r (me_r (me_l (List.mem_of_getElem? (i := 16) rfl))))))))))) (fa_c (me_s (me_l (me_l (me_l (me_l (me_l (me_l (List.mem_of_getElem? (i := 23) rfl)))))))) (fa_c (me_s (me_l (me_l (me_l (me_l (me_l (me_r (me_r (me_r (me_l (List.mem_of_getElem? (i := 17) rfl))))))))))) (fa_c (me_s (me_l (me_l (me_l (me_l (me_l (me_r (me_r (me_r (me_l (List.mem_of_getElem? (i := 18) rfl))))))))))) (fa_c (me_s (me_l (me_l (me_l (me_l (me_l (me_l (List.mem_of_getElem? (i := 9) rfl)))))))) (fa_c (me_s (me_l (me_l (me_l (me_l (me_l (me_l (List.mem_of_getElem? (i := 10) rfl)))))))) (fa_c (me_s (me_l (me_l (me_l (me_l (me_l (me_l (List.mem_of_getElem? (i := 11) rfl)))))))) (fa_c (me_s (me_l (me_l (me_l (me_l (me_l (me_l (List.mem_of_getElem? (i := 12) rfl)))))))) (fa_c (me_s (me_l (me_l (me_l (me_l (me_l (me_l (List.mem_of_getElem? (i := 13) rfl)))))))) (fa_c (me_s (me_l (me_l (me_l (me_l (me_l (me_r (me_r (me_r (me_l (List.mem_of_getElem? (i := 19) rfl))))))))))) (fa_c (me_s (me_l (me_l (me_l (me_l (me_l (me_r (me_r (me_r (me_l (List.mem_of_getElem? (i := 20) rfl))))))))))) (fa_c (me_s (me_l (me_l (me_l (me_l (me_l (me_r (me_r (me_r (me_l (List.mem_of_getElem? (i := 21) rfl))))))))))) (fa_c (me_s (me_l (me_l (me_l (me_l (me_l (me_r (me_r (me_r (me_l (List.mem_of_getElem? (i := 22) rfl))))))))))) (fa_c (me_s (me_l (me_l (me_l (me_l (me_l (me_r (me_r (me_r (me_l (List.mem_of_getElem? (i := 23) rfl))))))))))) (fa_c (me_s (me_l (me_l (me_l (me_l (me_l (me_r (me_r (me_r (me_r (List.mem_of_getElem? (i := 0) rfl))))))))))) (fa_c (me_s (me_l (me_l (me_l (me_l (me_l (me_r (me_r (me_r (me_r (List.mem_of_getElem? (i := 1) rfl))))))))))) (fa_c (me_s (me_l (me_l (me_l (me_l (me_l (me_r (me_r (me_r (me_r (List.mem_of_getElem? (i := 2) rfl))))))))))) (fa_c (me_s (me_l (me_l (me_l (me_l (me_l (me_r (me_r (me_r (me_r (List.mem_of_getElem? (i := 3) rfl))))))))))) (fa_c (me_s (me_l (me_l (me_l (me_l (me_l (me_r (me_r (me_r (me_r (List.mem_of_getElem? (i := 4) rfl))))))))))) fa_n)))))))))))))))))))))))) (fa_c (me_s (me_l (me_l (me_l (me_l (me_l (me_r (me_r (me_r (me_r (List.mem_of_getElem? (i := 5) rfl))))))))))) (fa_c (me_s (me_l (me_l (me_l (me_l (me_l (me_r (me_r (me_r (me_r (List.mem_of_getElem? (i := 6) rfl))))))))))) (fa_c (me_s (me_l (me_l (me_l (me_l (me_l (me_r (me_r (me_r (me_r (List.mem_of_getElem? (i := 7) rfl))))))))))) (fa_c (me_s (me_l (me_l (me_l (me_l (me_l (me_l (List.mem_of_getElem? (i := 22) rfl)))))))) (fa_c (me_s (me_l (me_l (me_l (me_l (me_l (me_r (me_l (List.mem_of_getElem? (i := 0) rfl))))))))) fa_n)))))) (fun w h => (me_s (me_l (me_l (me_l (me_r h)))))))) (by decide +kernel)
set_option maxRecDepth 20000 in
theorem gX11_sums_X10_leastBlack : GoodIn wsX11_sums (wsV RX11 267 RX10 yX10_leastBlack wsX10_leastBlack) := goodIn_app (goodIn_sub (fa_c (me_s (me_l (me_l (me_l (me_l (me_l (me_r (me_r (me_r (me_l (List.mem_of_getElem? (i := 7) rfl))))))))))) (fa_c (me_s (me_l (me_l (me_l (me_l (me_l (me_r (me_r (me_r (me_l (List.mem_of_getElem? (i := 8) rfl))))))))))) (fa_c (me_s (me_l (me_l (me_l (me_l (me_l (me_r (me_r (me_r (me_l (List.mem_of_getElem? (i := 9) rfl))))))))))) (fa_c (me_s (me_l (me_l (me_l (me_l (me_l (me_l (List.mem_of_getElem? (i := 11) rfl)))))))) fa_n)))) (by decide +kernel)) ggX11_sums_X10_leastBlack
theorem dX11_sums_54 : decode cX11_sums 54 = .ok (.invokevirtual 267, 3) := z_dd_182 (by decide +kernel)
theorem dX11_sums_57 : decode cX11_sums 57 = .ok (.goto 10, 3) := z_dd_167 (by decide +kernel)
theorem dX11_judged_12 : decode cX11_judged 12 = .ok (.aload 4, 2) := z_dd_25 (by decide +kernel)
theorem dX11_judged_14 : decode cX11_judged 14 = .ok (.iload_n 2, 1) := z_dd_28 (by decide +kernel)
theorem dX11_judged_15 : decode cX11_judged 15 = .ok (.iload_n 3, 1) := z_dd_29 (by decide +kernel)
set_option maxRecDepth 20000 in
theorem ggX11_judged_X10_hasSpan : GoodIn wsX11_judged wsX10_hasSpan := goodIn_sub (fa_c (me_s (me_l (me_l (me_l (me_l (me_l (me_l (List.mem_of_getElem? (i := 13) rfl)))))))) (fa_a (fa_c (me_s (me_l (me_l (me_l (me_l (me_l (me_l (List.mem_of_getElem? (i := 14) rfl)))))))) fa_n) (fun w h => (me_s (me_l (me_l (me_l (me_r h)))))))) (by decide +kernel)
set_option maxRecDepth 20000 in
theorem gX11_judged_X10_hasSpan : GoodIn wsX11_judged (wsV RX11 258 RX10 yX10_hasSpan wsX10_hasSpan) := goodIn_app (goodIn_sub (fa_c (me_s (me_l (me_l (me_l (me_l (me_l (me_l (List.mem_of_getElem? (i := 9) rfl)))))))) (fa_c (me_s (me_l (me_l (me_l (me_l (me_l (me_l (List.mem_of_getElem? (i := 10) rfl)))))))) (fa_c (me_s (me_l (me_l (me_l (me_l (me_l (me_l (List.mem_of_getElem? (i := 11) rfl)))))))) (fa_c (me_s (me_l (me_l (me_l (me_l (me_l (me_l (List.mem_of_getElem? (i := 12) rfl)))))))) fa_n)))) (by decide +kernel)) ggX11_judged_X10_hasSpan
theorem dX11_judged_16 : decode cX11_judged 16 = .ok (.invokevirtual 258, 3) := z_dd_182 (by decide +kernel)
theorem dX11_judged_19 : decode cX11_judged 19 = .ok (.ifCond .ne 7, 3) := z_dd_154 (by decide +kernel)
theorem dX11_judged_26 : decode cX11_judged 26 = .ok (.aload_n 0, 1) := z_dd_42 (by decide +kernel)
theorem dX11_judged_27 : decode cX11_judged 27 = .ok (.aload 4, 2) := z_dd_25 (by decide +kernel)
theorem dX11_judged_29 : decode cX11_judged 29 = .ok (.iload_n 1, 1) := z_dd_27 (by decide +kernel)
theorem dX11_judged_30 : decode cX11_judged 30 = .ok (.iload_n 2, 1) := z_dd_28 (by decide +kernel)
theorem dX11_judged_31 : decode cX11_judged 31 = .ok (.iload_n 3, 1) := z_dd_29 (by decide +kernel)
set_option maxRecDepth 20000 in
theorem ggX11_judged_X11_putBounds : GoodIn wsX11_judged wsX11_putBounds := goodIn_sub (fa_c (me_s (me_l (me_l (me_l (me_l (me_l (me_l (List.mem_of_getElem? (i := 18) rfl)))))))) (fa_a (fa_a (fa_a (fa_a (fa_a (fa_a (fa_c (me_s (me_l (me_l (me_l (me_l (me_l (me_l (List.mem_of_getElem? (i := 19) rfl)))))))) (fa_c (me_s (me_l (me_l (me_l (me_l (me_l (me_l (List.mem_of_getElem? (i := 20) rfl)))))))) (fa_c (me_s (me_l (me_l (me_l (me_l (me_l (me_l (List.mem_of_getElem? (i := 21) rfl)))))))) (fa_c (me_s (me_l (me_l (me_l (me_l (me_l (me_l (List.mem_of_getElem? (i := 22) rfl)))))))) (fa_c (me_s (me_l (me_l (me_l (me_l (me_l (me_l (List.mem_of_getElem? (i := 23) rfl)))))))) (fa_c (me_s (me_l (me_l (me_l (me_l (me_l (me_r (me_l (List.mem_of_getElem? (i := 0) rfl))))))))) (fa_c (me_s (me_l (me_l (me_l (me_l (me_l (me_r (me_l (List.mem_of_getElem? (i := 1) rfl))))))))) (fa_c (me_s (me_l (me_l (me_l (me_l (me_l (me_r (me_l (List.mem_of_getElem? (i := 2) rfl))))))))) (fa_c (me_s (me_l (me_l (me_l (me_l (me_l (me_r (me_l (List.mem_of_getElem? (i := 3) rfl))))))))) (fa_c (me_s (me_l (me_l (me_l (me_l (me_l (me_r (me_l (List.mem_of_getElem? (i := 4) rfl))))))))) (fa_c (me_s (me_l (me_l (me_l (me_l (me_l (me_r (me_l (List.mem_of_getElem? (i := 5) rfl))))))))) (fa_c (me_s (me_l (me_l (me_l (me_l (me_l (me_r (me_l (List.mem_of_getElem? (i := 6) rfl))))))))) (fa_c (me_s (me_l (me_l (me_l (me_l (me_l (me_r (me_l (List.mem_of_getElem? (i := 7) rfl))))))))) (fa_c (me_s (me_l (me_l (me_l (me_l (me_l (me_r (me_l (List.mem_of_getElem? (i := 8) rfl))))))))) (fa_c (me_s (me_l (me_l (me_l (me_l (me_l (me_r (me_l (List.mem_of_getElem? (i := 9) rfl))))))))) (fa_c (me_s (me_l (me_l (me_l (me_l (me_l (me_r (me_l (List.mem_of_getElem? (i := 10) rfl))))))))) (fa_c (me_s (me_l (me_l (me_l (me_l (me_l (me_r (me_l (List.mem_of_getElem? (i := 11) rfl))))))))) (fa_c (me_s (me_l (me_l (me_l (me_l (me_l (me_r (me_l (List.mem_of_getElem? (i := 12) rfl))))))))) (fa_c (me_s (me_l (me_l (me_l (me_l (me_l (me_r (me_l (List.mem_of_getElem? (i := 13) rfl))))))))) (fa_c (me_s (me_l (me_l (me_l (me_l (me_l (me_r (me_l (List.mem_of_getElem? (i := 14) rfl))))))))) (fa_c (me_s (me_l (me_l (me_l (me_l (me_l (me_r (me_l (List.mem_of_getElem? (i := 15) rfl))))))))) (fa_c (me_s (me_l (me_l (me_l (me_l (me_l (me_r (me_l (List.mem_of_getElem? (i := 16) rfl))))))))) (fa_c (me_s (me_l (me_l (me_l (me_l (me_l (me_r (me_l (List.mem_of_getElem? (i := 17) rfl))))))))) (fa_c (me_s (me_l (me_l (me_l (me_l (me_l (me_r (me_l (List.mem_of_getElem? (i := 18) rfl))))))))) fa_n)))))))))))))))))))))))) (fa_a (fa_c (me_s (me_l (me_l (me_l (me_l (me_l (me_r (me_l (List.mem_of_getElem? (i := 19) rfl))))))))) (fa_c (me_s (me_l (me_l (me_l (me_l (me_l (me_r (me_l (List.mem_of_getElem? (i := 20) rfl))))))))) (fa_c (me_s (me_l (me_l (me_l (me_l (me_l (me_r (me_l (List.mem_of_getElem? (i := 21) rfl))))))))) (fa_c (me_s (me_l (me_l (me_l (me_l (me_l (me_r (me_l (List.mem_of_getElem? (i := 22) rfl))))))))) (fa_c (me_s (me_l (me_l (me_l (me_l (me_l (me_r (me_l (List.mem_of_getElem? (i := 23) rfl))))))))) (fa_c (me_s (me_l (me_l (me_l (me_l (me_l (me_l (List.mem_of_getElem? (i := 5) rfl)))))))) (fa_c (me_s (me_l (me_l (me_l (me_l (me_l (me_r (me_r (me_l (List.mem_of_getElem? (i := 0) rfl)))))))))) (fa_c (me_s (me_l (me_l (me_l (me_l (me_l (me_r (me_r (me_l (List.mem_of_getElem? (i := 1) rfl)))))))))) (fa_c (me_s (me_l (me_l (me_l (me_l (me_l (me_r (me_r (me_l (List.mem_of_getElem? (i := 2) rfl)))))))))) (fa_c (me_s (me_l (me_l (me_l (me_l (me_l (me_r (me_r (me_l (List.mem_of_getElem? (i := 3) rfl)))))))))) (fa_c (me_s (me_l (me_l (me_l (me_l (me_l (me_r (me_r (me_l (List.mem_of_getElem? (i := 4) rfl)))))))))) (fa_c (me_s (me_l (me_l (me_l (me_l (me_l (me_r (me_r (me_l (List.mem_of_getElem? (i := 5) rfl)))))))))) (fa_c (me_s (me_l (me_l (me_l (me_l (me_l (me_r (me_r (me_l (List.mem_of_getElem? (i := 6) rfl)))))))))) (fa_c (me_s (me_l (me_l (me_l (me_l (me_l (me_r (me_r (me_l (List.mem_of_getElem? (i := 7) rfl)))))))))) (fa_c (me_s (me_l (me_l (me_l (me_l (me_l (me_r (me_r (me_l (List.mem_of_getElem? (i := 8) rfl)))))))))) (fa_c (me_s (me_l (me_l (me_l (me_l (me_l (me_r (me_r (me_l (List.mem_of_getElem? (i := 9) rfl)))))))))) (fa_c (me_s (me_l (me_l (me_l (me_l (me_l (me_r (me_r (me_l (List.mem_of_getElem? (i := 10) rfl)))))))))) (fa_c (me_s (me_l (me_l (me_l (me_l (me_l (me_r (me_r (me_l (List.mem_of_getElem? (i := 11) rfl)))))))))) (fa_c (me_s (me_l (me_l (me_l (me_l (me_l (me_r (me_r (me_l (List.mem_of_getElem? (i := 12) rfl)))))))))) (fa_c (me_s (me_l (me_l (me_l (me_l (me_l (me_r (me_r (me_l (List.mem_of_getElem? (i := 13) rfl)))))))))) (fa_c (me_s (me_l (me_l (me_l (me_l (me_l (me_r (me_r (me_l (List.mem_of_getElem? (i := 14) rfl)))))))))) (fa_c (me_s (me_l (me_l (me_l (me_l (me_l (me_r (me_r (me_l (List.mem_of_getElem? (i := 15) rfl)))))))))) (fa_c (me_s (me_l (me_l (me_l (me_l (me_l (me_r (me_r (me_l (List.mem_of_getElem? (i := 16) rfl)))))))))) (fa_c (me_s (me_l (me_l (me_l (me_l (me_l (me_r (me_r (me_l (List.mem_of_getElem? (i := 17) rfl)))))))))) fa_n)))))))))))))))))))))))) (fa_c (me_s (me_l (me_l (me_l (me_l (me_l (me_r (me_r (me_l (List.mem_of_getElem? (i := 18) rfl)))))))))) (fa_c (me_s (me_l (me_l (me_l (me_l (me_l (me_r (me_r (me_l (List.mem_of_getElem? (i := 19) rfl)))))))))) (fa_c (me_s (me_l (me_l (me_l (me_l (me_l (me_r (me_r (me_l (List.mem_of_getElem? (i := 20) rfl)))))))))) (fa_c (me_s (me_l (me_l (me_l (me_l (me_l (me_r (me_r (me_l (List.mem_of_getElem? (i := 21) rfl)))))))))) (fa_c (me_s (me_l (me_l (me_l (me_l (me_l (me_r (me_r (me_l (List.mem_of_getElem? (i := 22) rfl)))))))))) (fa_c (me_s (me_l (me_l (me_l (me_l (me_l (me_r (me_r (me_l (List.mem_of_getElem? (i := 23) rfl)))))))))) (fa_c (me_s (me_l (me_l (me_l (me_l (me_l (me_r (me_r (me_r (List.mem_of_getElem? (i := 0) rfl)))))))))) (fa_c (me_s (me_l (me_l (me_l (me_l (me_l (me_r (me_r (me_r (List.mem_of_getElem? (i := 1) rfl)))))))))) (fa_c (me_s (me_l (me_l (me_l (me_l (me_l (me_r (me_r (me_r (List.mem_of_getElem? (i := 2) rfl)))))))))) (fa_c (me_s (me_l (me_l (me_l (me_l (me_l (me_r (me_r (me_r (List.mem_of_getElem? (i := 3) rfl)))))))))) (fa_c (me_s (me_l (me_l (me_l (me_l (me_l (me_r (me_r (me_r (List.mem_of_getElem? (i := 4) rfl)))))))))) fa_n))))))))))))) (fun w h => (me_s (me_l (me_l (me_l (me_l (me_r h)))))))) (fun w h => (me_s (me_l (me_l (me_l (me_r h))))))) (fun w h => (me_s (me_l (me_l (me_r h)))))) (fun w h => (me_s (me_l (me_r h))))) (fun w h => (me_s (me_r h))))) (by decide +kernel)
set_option maxRecDepth 20000 in
theorem gX11_judged_X11_putBounds : GoodIn wsX11_judged (wsV RX11 263 RX11 yX11_putBounds wsX11_putBounds) := goodIn_app (goodIn_sub (fa_c (me_s (me_l (me_l (me_l (me_l (me_l (me_l (List.mem_of_getElem? (i := 15) rfl)))))))) (fa_c (me_s (me_l (me_l (me_l (me_l (me_l (me_l (List.mem_of_getElem? (i := 16) rfl)))))))) (fa_c (me_s (me_l (me_l (me_l (me_l (me_l (me_l (List.mem_of_getElem? (i := 17) rfl)))))))) (fa_c (me_s (me_l (me_l (me_l (me_l (me_l (me_l (List.mem_of_getElem? (i := 5) rfl)))))))) fa_n)))) (by decide +kernel)) ggX11_judged_X11_putBounds
theorem dX11_judged_32 : decode cX11_judged 32 = .ok (.invokevirtual 263, 3) := z_dd_182 (by decide +kernel)
theorem dX11_judged_35 : decode cX11_judged 35 = .ok (.aload 4, 2) := z_dd_25 (by decide +kernel)
theorem dX11_judged_37 : decode cX11_judged 37 = .ok (.aload_n 0, 1) := z_dd_42 (by decide +kernel)
theorem dX11_judged_38 : decode cX11_judged 38 = .ok (.getfield 54, 3) := z_dd_180 (by decide +kernel)
theorem dX11_judged_41 : decode cX11_judged 41 = .ok (.iload_n 2, 1) := z_dd_28 (by decide +kernel)
theorem dX11_judged_42 : decode cX11_judged 42 = .ok (.iload_n 3, 1) := z_dd_29 (by decide +kernel)
set_option maxRecDepth 20000 in
theorem ggX11_judged_X10_blackBy : GoodIn wsX11_judged wsX10_blackBy := goodIn_sub (fa_c (me_s (me_l (me_l (me_l (me_l (me_l (me_r (me_r (me_r (List.mem_of_getElem? (i := 8) rfl)))))))))) (fa_a (fa_c (me_s (me_l (me_l (me_l (me_l (me_l (me_r (me_r (me_r (List.mem_of_getElem? (i := 9) rfl)))))))))) (fa_c (me_s (me_l (me_l (me_l (me_l (me_l (me_r (me_r (me_r (List.mem_of_getElem? (i := 10) rfl)))))))))) (fa_c (me_s (me_l (me_l (me_l (me_l (me_l (me_r (me_r (me_r (List.mem_of_getElem? (i := 11) rfl)))))))))) (fa_c (me_s (me_l (me_l (me_l (me_l (me_l (me_r (me_r (me_r (List.mem_of_getElem? (i := 12) rfl)))))))))) (fa_c (me_s (me_l (me_l (me_l (me_l (me_l (me_r (me_r (me_r (List.mem_of_getElem? (i := 13) rfl)))))))))) (fa_c (me_s (me_l (me_l (me_l (me_l (me_l (me_l (List.mem_of_getElem? (i := 10) rfl)))))))) (fa_c (me_s (me_l (me_l (me_l (me_l (me_l (me_l (List.mem_of_getElem? (i := 11) rfl)))))))) (fa_c (me_s (me_l (me_l (me_l (me_l (me_l (me_l (List.mem_of_getElem? (i := 12) rfl)))))))) (fa_c (me_s (me_l (me_l (me_l (me_l (me_l (me_l (List.mem_of_getElem? (i := 13) rfl)))))))) (fa_c (me_s (me_l (me_l (me_l (me_l (me_l (me_l (List.mem_of_getElem? (i := 14) rfl)))))))) (fa_c (me_s (me_l (me_l (me_l (me_l (me_l (me_r (me_r (me_r (List.mem_of_getElem? (i := 14) rfl)))))))))) (fa_c (me_s (me_l (me_l (me_l (me_l (me_l (me_r (me_r (me_r (List.mem_of_getElem? (i := 15) rfl)))))))))) (fa_c (me_s (me_l (me_l (me_l (me_l (me_l (me_r (me_r (me_r (List.mem_of_getElem? (i := 16) rfl)))))))))) (fa_c (me_s (me_l (me_l (me_l (me_l (me_l (me_r (me_r (me_r (List.mem_of_getElem? (i := 17) rfl)))))))))) (fa_c (me_s (me_l (me_l (me_l (me_l (me_l (me_r (me_r (me_r (List.mem_of_getElem? (i := 18) rfl)))))))))) (fa_c (me_s (me_l (me_l (me_l (me_l (me_l (me_l (List.mem_of_getElem? (i := 20) rfl)))))))) (fa_c (me_s (me_l (me_l (me_l (me_l (me_l (me_l (List.mem_of_getElem? (i := 21) rfl)))))))) (fa_c (me_s (me_l (me_l (me_l (me_l (me_l (me_l (List.mem_of_getElem? (i := 22) rfl)))))))) fa_n)))))))))))))))))) (fun w h => (me_s (me_l (me_l (me_l (me_r h)))))))) (by decide +kernel)
set_option maxRecDepth 20000 in
theorem gX11_judged_X10_blackBy : GoodIn wsX11_judged (wsV RX11 292 RX10 yX10_blackBy wsX10_blackBy) := goodIn_app (goodIn_sub (fa_c (me_s (me_l (me_l (me_l (me_l (me_l (me_r (me_r (me_r (List.mem_of_getElem? (i := 5) rfl)))))))))) (fa_c (me_s (me_l (me_l (me_l (me_l (me_l (me_r (me_r (me_r (List.mem_of_getElem? (i := 6) rfl)))))))))) (fa_c (me_s (me_l (me_l (me_l (me_l (me_l (me_r (me_r (me_r (List.mem_of_getElem? (i := 7) rfl)))))))))) (fa_c (me_s (me_l (me_l (me_l (me_l (me_l (me_l (List.mem_of_getElem? (i := 12) rfl)))))))) fa_n)))) (by decide +kernel)) ggX11_judged_X10_blackBy
theorem dX11_judged_43 : decode cX11_judged 43 = .ok (.invokevirtual 292, 3) := z_dd_182 (by decide +kernel)
theorem dX11_judged_46 : decode cX11_judged 46 = .ok (.lreturn, 1) := z_dd_173 (by decide +kernel)
theorem z_l100000 : (100000 : Int32).toInt = 100000 := by decide
theorem z_l200000 : (200000 : Int32).toInt = 200000 := by decide
theorem zj_X11_stationAt_X11 : ∀ w ∈ wsX110, w ∈ wsX11_stationAt := fun w h => (List.mem_cons_of_mem _ (List.mem_append_right _ h))
set_option maxHeartbeats 8000000 in
set_option maxRecDepth 100000 in
theorem sx_X11_stationAt (l : Launch) (G : z_G) (ad : Nat → Nat) (c : z_C) (I : z_I) (hB : z_iB I) (a1 : Int32) (hc : z_okc c) (h10 : c.1 ≤ 10) : z_Mq l yX11_stationAt wsX11_stationAt { frames := 1, cells := 0, slots := 0, locals := 12 } [.ref (ad 0), .int a1] G (shC c, ad, I, JX, PC c ad) (fun r u1 => u1 = (shC c, ad, I, JX, PC c ad) ∧ (r = none ∨ ∃ k, k < c.1 ∧ r = some (ad (100 + 8 * k)))) 0 0 := by
  intro sz
  refine z_headQ (cc := cX11_stationAt) (maxL := 2) (ret := (some (.object "PetrolBoard$Station"))) (by decide) rfl (Nat.le_of_ble_eq_true rfl) ?_
  intro p e s m below meth c0 ls hIn hK hsz hW hl
  obtain ⟨hx, hb, hr, hml, hown, hts, hlocks, hname⟩ := hIn
  subst hsz
  have hown : s.vm.findClass RX11 = some m.cls := hown
  have hA : ∀ q : Nat, s.heap.size ≤ q → z_A (shC c, ad, I, JX, PC c ad) s.heap.size q := fun q h => Or.inr h
  generalize hAe : z_A (shC c, ad, I, JX, PC c ad) s.heap.size = A at *
  have hS : va_S A s.heap s.heap [] := va_S.rf
  have hl : lv_has ls 2 [(0, .ref (ad 0)), (1, .int a1)] := hl
  refine lv_iload_n hx hb dX11_stationAt_0 rfl (lv_at hl 1 rfl) ?_
  refine lv_if_lt (tgt := 21) hx hb dX11_stationAt_1 (by decide) (fun c1 => ?_) (fun c1 => ?_)
  · have g2 := z_f_lt rfl z_l0 c1
    have b3 := Int32.toInt_lt a1
    refine lv_null hx hb dX11_stationAt_21 ?_
    exact z_nret hx hb hr hK hS (Nat.le_of_ble_eq_true rfl) (Nat.le_of_ble_eq_true rfl) hlocks dX11_stationAt_22 (shC c, ad, I, JX, PC c ad) hW ⟨rfl, Or.inl rfl⟩
  · have g4 := z_f_nlt rfl z_l0 c1
    have b5 := Int32.toInt_lt a1
    refine lv_iload_n hx hb dX11_stationAt_4 rfl (lv_at hl 1 rfl) ?_
    refine lv_aload_n hx hb dX11_stationAt_5 rfl (lv_at hl 0 rfl) ?_
    have r6 : 0 ≤ (I 0 8).toInt ∧ (I 0 8).toInt ≤ 10 := hB.2
    refine z_get (T := TX11) (N := 13) (ci := 11) (i := 0) (v := .int (I 0 8)) hx hb hts zj_X11_stationAt_X11 hown hK hW rfl rfl 8 (by decide) (hts (.fieldLink RX11 178 "PetrolBoard" "stationNumber" "I") (me_s (me_l (List.mem_of_getElem? (i := 0) rfl)))) (fun _ h => h) rfl dX11_stationAt_6 ?_
    refine lv_icmp_ge (tgt := 21) hx hb dX11_stationAt_9 (by decide) (fun c7 => ?_) (fun c7 => ?_)
    · have g8 := z_f_ge rfl rfl c7
      refine lv_null hx hb dX11_stationAt_21 ?_
      exact z_nret hx hb hr hK hS (Nat.le_of_ble_eq_true rfl) (Nat.le_of_ble_eq_true rfl) hlocks dX11_stationAt_22 (shC c, ad, I, JX, PC c ad) hW ⟨rfl, Or.inl rfl⟩
    · have g9 := z_f_nge rfl rfl c7
      refine lv_iload_n hx hb dX11_stationAt_12 rfl (lv_at hl 1 rfl) ?_
      refine lv_aload_n hx hb dX11_stationAt_13 rfl (lv_at hl 0 rfl) ?_
      refine z_get (T := TX11) (N := 13) (ci := 11) (i := 0) (v := .ref (ad 39)) hx hb hts zj_X11_stationAt_X11 hown hK hW rfl rfl 7 (by decide) (hts (.fieldLink RX11 50 "PetrolBoard" "stations" "[LPetrolBoard$Station;") (me_s (me_l (List.mem_of_getElem? (i := 1) rfl)))) (fun _ h => h) rfl dX11_stationAt_14 ?_
      refine z_alen (i := 39) (v := 10) hx hb hK hW rfl (by simp [z_tys]) (by rfl) dX11_stationAt_17 ?_
      refine lv_icmp_lt (tgt := 23) hx hb dX11_stationAt_18 (by decide) (fun c10 => ?_) (fun c10 => (by have g := z_f_nlt rfl z_l10 c10; omega))
      have g11 := z_f_lt rfl z_l10 c10
      refine lv_aload_n hx hb dX11_stationAt_23 rfl (lv_at hl 0 rfl) ?_
      refine z_get (T := TX11) (N := 13) (ci := 11) (i := 0) (v := .ref (ad 39)) hx hb hts zj_X11_stationAt_X11 hown hK hW rfl rfl 7 (by decide) (hts (.fieldLink RX11 50 "PetrolBoard" "stations" "[LPetrolBoard$Station;") (me_s (me_l (List.mem_of_getElem? (i := 1) rfl)))) (fun _ h => h) rfl dX11_stationAt_24 ?_
      refine lv_iload_n hx hb dX11_stationAt_27 rfl (lv_at hl 1 rfl) ?_
      obtain ⟨k12, ek12⟩ : ∃ k : Nat, (a1 : Int32).toNatClampNeg = k := ⟨_, rfl⟩
      rcases Nat.lt_or_ge k12 c.1 with hk12 | hk12
      · refine z_aald (i := 39) (v := .ref (ad (100 + 8 * k12))) hx hb hK hW rfl (by simp [z_tys]) rfl (z_ix rfl (by omega) (by omega)) (z_p39 ek12 hk12) dX11_stationAt_28 ?_
        exact z_qretO hx hb hr hK hS (Nat.le_of_ble_eq_true rfl) (Nat.le_of_ble_eq_true rfl) hlocks dX11_stationAt_29 (shC c, ad, I, JX, PC c ad) hW ⟨rfl, Or.inr ⟨k12, hk12, rfl⟩⟩
      · refine z_aald (i := 39) (v := .null) hx hb hK hW rfl (by simp [z_tys]) rfl (z_ix rfl (by omega) (by omega)) (z_p39n (by rw [ek12]; omega)) dX11_stationAt_28 ?_
        exact z_nret hx hb hr hK hS (Nat.le_of_ble_eq_true rfl) (Nat.le_of_ble_eq_true rfl) hlocks dX11_stationAt_29 (shC c, ad, I, JX, PC c ad) hW ⟨rfl, Or.inl rfl⟩
noncomputable def L_X11_deliver : z_L := [(1000, 999)]
set_option maxHeartbeats 8000000 in
set_option maxRecDepth 100000 in
theorem sx_X11_deliver (l : Launch) (G : z_G) (ad : Nat → Nat) (c : z_C) (I : z_I) (hB : z_iB I) (a1 : Int32) (a2 : Int32) (hc : z_okc c) (h10 : c.1 ≤ 10) (hS0 : z_iS c I) : z_M l yX11_deliver wsX11_deliver { frames := 2, cells := 0, slots := 0, locals := 34 } [.ref (ad 0), .int a1, .int a2] G (shC c, ad, I, JX, PC c ad) (fun r u1 => ∃ I1 : z_I, u1 = (shC c, ad, I1, JX, PC c ad) ∧ z_iB I1 ∧ z_fr L_X11_deliver I1 I ∧ z_iS c I1) 0 0 := by
  intro sz
  refine z_headQ (cc := cX11_deliver) (maxL := 4) (ret := (some .int)) (by decide) rfl (Nat.le_of_ble_eq_true rfl) ?_
  intro p e s m below meth c0 ls hIn hK hsz hW hl
  obtain ⟨hx, hb, hr, hml, hown, hts, hlocks, hname⟩ := hIn
  subst hsz
  have hown : s.vm.findClass RX11 = some m.cls := hown
  have hA : ∀ q : Nat, s.heap.size ≤ q → z_A (shC c, ad, I, JX, PC c ad) s.heap.size q := fun q h => Or.inr h
  generalize hAe : z_A (shC c, ad, I, JX, PC c ad) s.heap.size = A at *
  have hS : va_S A s.heap s.heap [] := va_S.rf
  have hl : lv_has ls 4 [(0, .ref (ad 0)), (1, .int a1), (2, .int a2)] := hl
  refine lv_aload_n hx hb dX11_deliver_0 rfl (lv_at hl 0 rfl) ?_
  refine lv_iload_n hx hb dX11_deliver_1 rfl (lv_at hl 1 rfl) ?_
  refine z_cq hW hS hA (va_runV (As := [.int a1]) (rest := []) ⟨hx, hb, hml, hown, hts⟩ (sx_X11_stationAt l G ad c I ⟨(by show 0 ≤ (I 0 0).toInt ∧ (I 0 0).toInt ≤ 719; exact hB.1), (by show 0 ≤ (I 0 8).toInt ∧ (I 0 8).toInt ≤ 10; exact hB.2)⟩ a1 hc h10 _) (cwV 1 hts gX11_deliver_X11_stationAt rfl rfl rfl hy_X11_stationAt ⟨Nat.le_of_ble_eq_true rfl, Nat.le_of_ble_eq_true rfl⟩) (z_preV (i := 0) hK hW rfl rfl) rfl rfl hl.1 rfl (lv_room (Nat.le_of_ble_eq_true rfl)) dX11_deliver_2 ⟨Nat.le_of_ble_eq_true rfl, Nat.le_of_ble_eq_true rfl⟩) (fun r u1 H locs hp hW hS => ?_)
  obtain ⟨e9, hp⟩ := hp
  rw [e9] at hW
  rcases hp with rfl | ⟨k1, hk1, rfl⟩
  · refine W.eq (g2 := F0 m 5 ls (.null :: [])) rfl ?_
    refine lv_astore_nN (lv' := [(3, .null), (0, .ref (ad 0)), (1, .int a1), (2, .int a2)]) hx hb dX11_deliver_5 rfl hl (by decide) rfl (fun ls hl => ?_)
    refine lv_aload_nN hx hb dX11_deliver_6 rfl (lv_at hl 0 rfl) ?_
    refine lv_ifnullN (tgt := 20) hx hb dX11_deliver_7 (by decide) ?_
    refine lv_iconst (v := (-1)) hx hb dX11_deliver_20 (by decide) ?_
    exact z_iret hx hb hr hK hS (Nat.le_of_ble_eq_true rfl) (Nat.le_of_ble_eq_true rfl) hlocks dX11_deliver_21 (shC c, ad, I, JX, PC c ad) hW ⟨I, rfl, ⟨(by show 0 ≤ (I 0 0).toInt ∧ (I 0 0).toInt ≤ 719; exact hB.1), (by show 0 ≤ (I 0 8).toInt ∧ (I 0 8).toInt ≤ 10; exact hB.2)⟩, z_fr_0, hS0⟩
  · refine W.eq (g2 := F0 m 5 ls (.ref (ad (100 + 8 * k1)) :: [])) rfl ?_
    refine lv_astore_n (lv' := [(3, .ref (ad (100 + 8 * k1))), (0, .ref (ad 0)), (1, .int a1), (2, .int a2)]) hx hb dX11_deliver_5 rfl hl (by decide) rfl (fun ls hl => ?_)
    refine lv_aload_n hx hb dX11_deliver_6 rfl (lv_at hl 0 rfl) ?_
    refine lv_ifnull hx hb dX11_deliver_7 ?_
    refine lv_iload_n hx hb dX11_deliver_10 rfl (lv_at hl 3 rfl) ?_
    refine lv_iconst (v := 1) hx hb dX11_deliver_11 (by decide) ?_
    refine lv_ldc (v := 100000) hx hb hown (hts (.constant RX11 230 (100000)) (me_s (me_l (me_l (List.mem_of_getElem? (i := 0) rfl))))) dX11_deliver_12 ?_
    refine z_ci hW hS hA (va_runS (As := [.int a2, .int 1, .int 100000]) (rest := []) ⟨hx, hb, hml, hown, hts⟩ (sx_X11_within l G ad c I  a2 1 100000 _) (va_cwS 3 hts gX11_deliver_X11_within rfl rfl rfl hy_X11_within.2 ⟨Nat.le_of_ble_eq_true rfl, Nat.le_of_ble_eq_true rfl⟩) (z_preS hK hW) rfl rfl hl.1 rfl (lv_room (Nat.le_of_ble_eq_true rfl)) dX11_deliver_14 ⟨Nat.le_of_ble_eq_true rfl, Nat.le_of_ble_eq_true rfl⟩) (fun r u1 H locs hp hW hS => ?_)
    obtain ⟨e9, hp⟩ := hp
    rw [e9] at hW
    rcases hp with ⟨rfl, h2, h3⟩ | rfl
    · have h2 := z_t_le z_l1 rfl h2
      have h3 := z_t_le rfl z_l100000 h3
      refine lv_if_ne (tgt := 22) hx hb dX11_deliver_17 (by decide) (fun c4 => ?_) (fun c4 => absurd c4 (by decide))
      refine lv_aload_n hx hb dX11_deliver_22 rfl (lv_at hl 0 rfl) ?_
      refine lv_iload_n hx hb dX11_deliver_23 rfl (lv_at hl 3 rfl) ?_
      refine z_ci hW hS hA (va_runV (As := [.int a2]) (rest := []) ⟨hx, hb, hml, hown, hts⟩ (sx_X10_addDelivery l G ad c I  k1 a2 hk1 h10 hS0 _) (cwV 1 hts gX11_deliver_X10_addDelivery rfl rfl rfl hy_X10_addDelivery ⟨Nat.le_of_ble_eq_true rfl, Nat.le_of_ble_eq_true rfl⟩) (z_preV (i := (100 + 8 * k1)) hK hW (z_ss0 hk1 h10) rfl) rfl rfl hl.1 rfl (lv_room (Nat.le_of_ble_eq_true rfl)) dX11_deliver_24 ⟨Nat.le_of_ble_eq_true rfl, Nat.le_of_ble_eq_true rfl⟩) (fun r u1 H locs hp hW hS => ?_)
      obtain ⟨I5, e9, fI5, SI5⟩ := hp
      rw [e9] at hW
      have f6 := z_fr_sub (L := L_X11_deliver) z_fr_0 fI5 (by decide)
      have k7 : 0 ≤ (I5 0 0).toInt ∧ (I5 0 0).toInt ≤ 719 := by rw [fI5 0 0 (by decide)]; exact (by show 0 ≤ (I 0 0).toInt ∧ (I 0 0).toInt ≤ 719; exact hB.1)
      have k8 : 0 ≤ (I5 0 8).toInt ∧ (I5 0 8).toInt ≤ 10 := by rw [fI5 0 8 (by decide)]; exact (by show 0 ≤ (I 0 8).toInt ∧ (I 0 8).toInt ≤ 10; exact hB.2)
      refine lv_topi (fun x9 ex9 => ?_)
      exact z_iret hx hb hr hK hS (Nat.le_of_ble_eq_true rfl) (Nat.le_of_ble_eq_true rfl) hlocks dX11_deliver_27 (shC c, ad, I5, JX, PC c ad) hW ⟨I5, rfl, ⟨(by show 0 ≤ (I5 0 0).toInt ∧ (I5 0 0).toInt ≤ 719; exact k7), (by show 0 ≤ (I5 0 8).toInt ∧ (I5 0 8).toInt ≤ 10; exact k8)⟩, f6, SI5⟩
    · refine lv_if_ne (tgt := 22) hx hb dX11_deliver_17 (by decide) (fun c10 => absurd (by decide) c10) (fun c10 => ?_)
      refine lv_iconst (v := (-1)) hx hb dX11_deliver_20 (by decide) ?_
      exact z_iret hx hb hr hK hS (Nat.le_of_ble_eq_true rfl) (Nat.le_of_ble_eq_true rfl) hlocks dX11_deliver_21 (shC c, ad, I, JX, PC c ad) hW ⟨I, rfl, ⟨(by show 0 ≤ (I 0 0).toInt ∧ (I 0 0).toInt ≤ 719; exact hB.1), (by show 0 ≤ (I 0 8).toInt ∧ (I 0 8).toInt ≤ 10; exact hB.2)⟩, z_fr_0, hS0⟩
noncomputable def L_X11_dip : z_L := [(1000, 999)]
theorem zj_X11_dip_X8 : ∀ w ∈ wsX80, w ∈ wsX11_dip := fun w h => (List.mem_cons_of_mem _ (List.mem_append_left _ (List.mem_append_right _ h)))
theorem zj_X11_dip_X11 : ∀ w ∈ wsX110, w ∈ wsX11_dip := fun w h => (List.mem_cons_of_mem _ (List.mem_append_left _ (List.mem_append_left _ (List.mem_append_right _ h))))
set_option maxHeartbeats 8000000 in
set_option maxRecDepth 100000 in
theorem sx_X11_dip (l : Launch) (G : z_G) (ad : Nat → Nat) (c : z_C) (I : z_I) (hB : z_iB I) (hP : z_iP I) (a1 : Int32) (a2 : Int32) (hc : z_okc c) (h10 : c.1 ≤ 10) (hS0 : z_iS c I) : z_M l yX11_dip wsX11_dip { frames := 2, cells := 0, slots := 0, locals := 35 } [.ref (ad 0), .int a1, .int a2] G (shC c, ad, I, JX, PC c ad) (fun r u1 => ∃ I1 : z_I, u1 = (shC c, ad, I1, JX, PC c ad) ∧ z_iB I1 ∧ z_iP I1 ∧ z_fr L_X11_dip I1 I ∧ z_iS c I1) 0 0 := by
  intro sz
  refine z_headQ (cc := cX11_dip) (maxL := 4) (ret := (some .int)) (by decide) rfl (Nat.le_of_ble_eq_true rfl) ?_
  intro p e s m below meth c0 ls hIn hK hsz hW hl
  obtain ⟨hx, hb, hr, hml, hown, hts, hlocks, hname⟩ := hIn
  subst hsz
  have hown : s.vm.findClass RX11 = some m.cls := hown
  have hA : ∀ q : Nat, s.heap.size ≤ q → z_A (shC c, ad, I, JX, PC c ad) s.heap.size q := fun q h => Or.inr h
  generalize hAe : z_A (shC c, ad, I, JX, PC c ad) s.heap.size = A at *
  have hS : va_S A s.heap s.heap [] := va_S.rf
  have hl : lv_has ls 4 [(0, .ref (ad 0)), (1, .int a1), (2, .int a2)] := hl
  refine lv_aload_n hx hb dX11_dip_0 rfl (lv_at hl 0 rfl) ?_
  refine lv_iload_n hx hb dX11_dip_1 rfl (lv_at hl 1 rfl) ?_
  refine z_cq hW hS hA (va_runV (As := [.int a1]) (rest := []) ⟨hx, hb, hml, hown, hts⟩ (sx_X11_stationAt l G ad c I ⟨(by show 0 ≤ (I 0 0).toInt ∧ (I 0 0).toInt ≤ 719; exact hB.1), (by show 0 ≤ (I 0 8).toInt ∧ (I 0 8).toInt ≤ 10; exact hB.2)⟩ a1 hc h10 _) (cwV 1 hts gX11_dip_X11_stationAt rfl rfl rfl hy_X11_stationAt ⟨Nat.le_of_ble_eq_true rfl, Nat.le_of_ble_eq_true rfl⟩) (z_preV (i := 0) hK hW rfl rfl) rfl rfl hl.1 rfl (lv_room (Nat.le_of_ble_eq_true rfl)) dX11_dip_2 ⟨Nat.le_of_ble_eq_true rfl, Nat.le_of_ble_eq_true rfl⟩) (fun r u1 H locs hp hW hS => ?_)
  obtain ⟨e9, hp⟩ := hp
  rw [e9] at hW
  rcases hp with rfl | ⟨k1, hk1, rfl⟩
  · refine W.eq (g2 := F0 m 5 ls (.null :: [])) rfl ?_
    refine lv_astore_nN (lv' := [(3, .null), (0, .ref (ad 0)), (1, .int a1), (2, .int a2)]) hx hb dX11_dip_5 rfl hl (by decide) rfl (fun ls hl => ?_)
    refine lv_aload_nN hx hb dX11_dip_6 rfl (lv_at hl 0 rfl) ?_
    refine lv_ifnullN (tgt := 20) hx hb dX11_dip_7 (by decide) ?_
    refine lv_iconst (v := (-1)) hx hb dX11_dip_20 (by decide) ?_
    exact z_iret hx hb hr hK hS (Nat.le_of_ble_eq_true rfl) (Nat.le_of_ble_eq_true rfl) hlocks dX11_dip_21 (shC c, ad, I, JX, PC c ad) hW ⟨I, rfl, ⟨(by show 0 ≤ (I 0 0).toInt ∧ (I 0 0).toInt ≤ 719; exact hB.1), (by show 0 ≤ (I 0 8).toInt ∧ (I 0 8).toInt ≤ 10; exact hB.2)⟩, (by show 0 ≤ (I 30 8).toInt ∧ (I 30 8).toInt ≤ 300; exact hP), z_fr_0, hS0⟩
  · refine W.eq (g2 := F0 m 5 ls (.ref (ad (100 + 8 * k1)) :: [])) rfl ?_
    refine lv_astore_n (lv' := [(3, .ref (ad (100 + 8 * k1))), (0, .ref (ad 0)), (1, .int a1), (2, .int a2)]) hx hb dX11_dip_5 rfl hl (by decide) rfl (fun ls hl => ?_)
    refine lv_aload_n hx hb dX11_dip_6 rfl (lv_at hl 0 rfl) ?_
    refine lv_ifnull hx hb dX11_dip_7 ?_
    refine lv_iload_n hx hb dX11_dip_10 rfl (lv_at hl 3 rfl) ?_
    refine lv_iconst (v := 0) hx hb dX11_dip_11 (by decide) ?_
    refine lv_ldc (v := 200000) hx hb hown (hts (.constant RX11 234 (200000)) (me_s (me_l (me_l (me_l (me_l (List.mem_of_getElem? (i := 0) rfl))))))) dX11_dip_12 ?_
    refine z_ci hW hS hA (va_runS (As := [.int a2, .int 0, .int 200000]) (rest := []) ⟨hx, hb, hml, hown, hts⟩ (sx_X11_within l G ad c I  a2 0 200000 _) (va_cwS 3 hts gX11_dip_X11_within rfl rfl rfl hy_X11_within.2 ⟨Nat.le_of_ble_eq_true rfl, Nat.le_of_ble_eq_true rfl⟩) (z_preS hK hW) rfl rfl hl.1 rfl (lv_room (Nat.le_of_ble_eq_true rfl)) dX11_dip_14 ⟨Nat.le_of_ble_eq_true rfl, Nat.le_of_ble_eq_true rfl⟩) (fun r u1 H locs hp hW hS => ?_)
    obtain ⟨e9, hp⟩ := hp
    rw [e9] at hW
    rcases hp with ⟨rfl, h2, h3⟩ | rfl
    · have h2 := z_t_le z_l0 rfl h2
      have h3 := z_t_le rfl z_l200000 h3
      refine lv_if_ne (tgt := 22) hx hb dX11_dip_17 (by decide) (fun c4 => ?_) (fun c4 => absurd c4 (by decide))
      refine lv_aload_n hx hb dX11_dip_22 rfl (lv_at hl 0 rfl) ?_
      refine lv_iload_n hx hb dX11_dip_23 rfl (lv_at hl 3 rfl) ?_
      refine lv_aload_n hx hb dX11_dip_24 rfl (lv_at hl 1 rfl) ?_
      have r5 : 0 ≤ (I 0 0).toInt ∧ (I 0 0).toInt ≤ 719 := hB.1
      refine z_get (T := TX11) (N := 13) (ci := 11) (i := 0) (v := .int (I 0 0)) hx hb hts zj_X11_dip_X11 hown hK hW rfl rfl 0 (by decide) (hts (.fieldLink RX11 85 "PetrolBoard" "today" "I") (me_s (me_l (me_l (me_l (me_l (List.mem_of_getElem? (i := 1) rfl))))))) (fun _ h => h) rfl dX11_dip_25 ?_
      refine lv_aload_n hx hb dX11_dip_28 rfl (lv_at hl 1 rfl) ?_
      refine z_get (T := TX11) (N := 13) (ci := 11) (i := 0) (v := .ref (ad 30)) hx hb hts zj_X11_dip_X11 hown hK hW rfl rfl 6 (by decide) (hts (.fieldLink RX11 44 "PetrolBoard" "pours" "LPetrolBoard$Pours;") (me_s (me_l (me_l (me_l (me_l (List.mem_of_getElem? (i := 2) rfl))))))) (fun _ h => h) rfl dX11_dip_29 ?_
      have r6 : 0 ≤ (I 30 8).toInt ∧ (I 30 8).toInt ≤ 300 := hP
      refine z_get (T := TX8) (N := 9) (ci := 8) (i := 30) (v := .int (I 30 8)) hx hb hts zj_X11_dip_X8 hown hK hW rfl rfl 8 (by decide) (hts (.fieldLink RX11 201 "PetrolBoard$Pours" "number" "I") (me_s (me_l (me_l (me_l (me_l (List.mem_of_getElem? (i := 3) rfl))))))) (fun _ h => h) rfl dX11_dip_32 ?_
      refine z_ci hW hS hA (va_runV (As := [.int a2, .int (I 0 0), .int (I 30 8)]) (rest := []) ⟨hx, hb, hml, hown, hts⟩ (sx_X10_addDip l G ad c I  k1 a2 (I 0 0) (I 30 8) hk1 h10 hS0 _) (cwV 3 hts gX11_dip_X10_addDip rfl rfl rfl hy_X10_addDip ⟨Nat.le_of_ble_eq_true rfl, Nat.le_of_ble_eq_true rfl⟩) (z_preV (i := (100 + 8 * k1)) hK hW (z_ss0 hk1 h10) rfl) rfl rfl hl.1 rfl (lv_room (Nat.le_of_ble_eq_true rfl)) dX11_dip_35 ⟨Nat.le_of_ble_eq_true rfl, Nat.le_of_ble_eq_true rfl⟩) (fun r u1 H locs hp hW hS => ?_)
      obtain ⟨I7, e9, fI7, SI7⟩ := hp
      rw [e9] at hW
      have f8 := z_fr_sub (L := L_X11_dip) z_fr_0 fI7 (by decide)
      have k9 : 0 ≤ (I7 0 0).toInt ∧ (I7 0 0).toInt ≤ 719 := by rw [fI7 0 0 (by decide)]; exact (by show 0 ≤ (I 0 0).toInt ∧ (I 0 0).toInt ≤ 719; exact hB.1)
      have k10 : 0 ≤ (I7 0 8).toInt ∧ (I7 0 8).toInt ≤ 10 := by rw [fI7 0 8 (by decide)]; exact (by show 0 ≤ (I 0 8).toInt ∧ (I 0 8).toInt ≤ 10; exact hB.2)
      have k11 : 0 ≤ (I7 30 8).toInt ∧ (I7 30 8).toInt ≤ 300 := by rw [fI7 30 8 (by decide)]; exact (by show 0 ≤ (I 30 8).toInt ∧ (I 30 8).toInt ≤ 300; exact hP)
      refine lv_topi (fun x12 ex12 => ?_)
      exact z_iret hx hb hr hK hS (Nat.le_of_ble_eq_true rfl) (Nat.le_of_ble_eq_true rfl) hlocks dX11_dip_38 (shC c, ad, I7, JX, PC c ad) hW ⟨I7, rfl, ⟨(by show 0 ≤ (I7 0 0).toInt ∧ (I7 0 0).toInt ≤ 719; exact k9), (by show 0 ≤ (I7 0 8).toInt ∧ (I7 0 8).toInt ≤ 10; exact k10)⟩, (by show 0 ≤ (I7 30 8).toInt ∧ (I7 30 8).toInt ≤ 300; exact k11), f8, SI7⟩
    · refine lv_if_ne (tgt := 22) hx hb dX11_dip_17 (by decide) (fun c13 => absurd (by decide) c13) (fun c13 => ?_)
      refine lv_iconst (v := (-1)) hx hb dX11_dip_20 (by decide) ?_
      exact z_iret hx hb hr hK hS (Nat.le_of_ble_eq_true rfl) (Nat.le_of_ble_eq_true rfl) hlocks dX11_dip_21 (shC c, ad, I, JX, PC c ad) hW ⟨I, rfl, ⟨(by show 0 ≤ (I 0 0).toInt ∧ (I 0 0).toInt ≤ 719; exact hB.1), (by show 0 ≤ (I 0 8).toInt ∧ (I 0 8).toInt ≤ 10; exact hB.2)⟩, (by show 0 ≤ (I 30 8).toInt ∧ (I 30 8).toInt ≤ 300; exact hP), z_fr_0, hS0⟩
theorem zj_X11_inBehind_X10 : ∀ w ∈ wsX100, w ∈ wsX11_inBehind := fun w h => (List.mem_cons_of_mem _ (List.mem_append_left _ (List.mem_append_left _ (List.mem_append_left _ (List.mem_append_left _ (List.mem_append_right _ h))))))
theorem zj_X11_inBehind_X11 : ∀ w ∈ wsX110, w ∈ wsX11_inBehind := fun w h => (List.mem_cons_of_mem _ (List.mem_append_left _ (List.mem_append_left _ (List.mem_append_left _ (List.mem_append_right _ h)))))
set_option maxHeartbeats 8000000 in
set_option maxRecDepth 100000 in
theorem sx_X11_inBehind (l : Launch) (G : z_G) (ad : Nat → Nat) (c : z_C) (I : z_I) (hO : z_iO I) (hB : z_iB I) (k : Nat) (a2 : Int32) (a3 : Int32) (hk : k < c.1) (h10 : c.1 ≤ 10) (hc : z_okc c) (ha : a3.toInt ≤ 1000) (hS0 : z_iS c I) : z_MS l yX11_inBehind wsX11_inBehind { frames := 4, cells := 0, slots := 0, locals := 86 } [.ref (ad 0), .ref (ad (100 + 8 * k)), .int a2, .int a3] G (shC c, ad, I, JX, PC c ad) (fun r u1 => u1 = (shC c, ad, I, JX, PC c ad)) 0 0 := by
  intro sz
  refine z_headS (cc := cX11_inBehind) (maxL := 6) (ret := (some .int)) (by decide) rfl (Nat.le_of_ble_eq_true rfl) ?_
  intro p e s m below meth c0 ls hIn hK hsz hW hl hSt
  obtain ⟨hx, hb, hr, hml, hown, hts, hlocks, hname⟩ := hIn
  subst hsz
  have hown : s.vm.findClass RX11 = some m.cls := hown
  have hA : ∀ q : Nat, s.heap.size ≤ q → z_A (shC c, ad, I, JX, PC c ad) s.heap.size q := fun q h => Or.inr h
  generalize hAe : z_A (shC c, ad, I, JX, PC c ad) s.heap.size = A at *
  have hS : va_S A s.heap s.heap [] := va_S.rf
  have hl : lv_has ls 6 [(0, .ref (ad 0)), (1, .ref (ad (100 + 8 * k))), (2, .int a2), (3, .int a3)] := hl
  refine lv_iload_n hx hb dX11_inBehind_0 rfl (lv_at hl 3 rfl) ?_
  refine lv_if_lt (tgt := 22) hx hb dX11_inBehind_1 (by decide) (fun c1 => ?_) (fun c1 => ?_)
  · have g2 := z_f_lt rfl z_l0 c1
    refine lv_iconst (v := 0) hx hb dX11_inBehind_22 (by decide) ?_
    exact z_iret hx hb hr hK hS (Nat.le_of_ble_eq_true rfl) (Nat.le_of_ble_eq_true rfl) hlocks dX11_inBehind_23 (shC c, ad, I, JX, PC c ad) hW rfl
  · have g3 := z_f_nlt rfl z_l0 c1
    refine lv_iload_n hx hb dX11_inBehind_4 rfl (lv_at hl 3 rfl) ?_
    refine lv_iconst (v := 1) hx hb dX11_inBehind_5 (by decide) ?_
    refine lv_iadd hx hb dX11_inBehind_6 ?_
    refine lv_topi (fun x4 ex4 => ?_)
    have tx4 : x4.toInt = a3.toInt + 1 := z_tadd ex4 rfl z_l1 (by omega) (by omega)
    refine lv_aload_n hx hb dX11_inBehind_7 rfl (lv_at hl 1 rfl) ?_
    have r5 : 0 ≤ (I (100 + 8 * k) 4).toInt ∧ (I (100 + 8 * k) 4).toInt ≤ 30 := (hS0 k hk)
    refine z_get (T := TX10) (N := 10) (ci := 10) (i := (100 + 8 * k)) (v := .int (I (100 + 8 * k) 4)) hx hb hts zj_X11_inBehind_X10 hown hK hW (z_ss0 hk h10) rfl 4 (by decide) (hts (.fieldLink RX11 238 "PetrolBoard$Station" "dips" "I") (me_s (me_l (me_l (me_l (me_l (me_l (me_l (List.mem_of_getElem? (i := 0) rfl))))))))) (fun _ h => h) rfl dX11_inBehind_8 ?_
    refine lv_icmp_ge (tgt := 22) hx hb dX11_inBehind_11 (by decide) (fun c6 => ?_) (fun c6 => ?_)
    · have g7 := z_f_ge rfl rfl c6
      refine lv_iconst (v := 0) hx hb dX11_inBehind_22 (by decide) ?_
      exact z_iret hx hb hr hK hS (Nat.le_of_ble_eq_true rfl) (Nat.le_of_ble_eq_true rfl) hlocks dX11_inBehind_23 (shC c, ad, I, JX, PC c ad) hW rfl
    · have g8 := z_f_nge rfl rfl c6
      refine lv_iload_n hx hb dX11_inBehind_14 rfl (lv_at hl 3 rfl) ?_
      refine lv_iconst (v := 1) hx hb dX11_inBehind_15 (by decide) ?_
      refine lv_iadd hx hb dX11_inBehind_16 ?_
      refine lv_topi (fun x9 ex9 => ?_)
      have tx9 : x9.toInt = a3.toInt + 1 := z_tadd ex9 rfl z_l1 (by omega) (by omega)
      refine lv_bipush (v := 30) hx hb dX11_inBehind_17 (by decide) ?_
      refine lv_icmp_lt (tgt := 24) hx hb dX11_inBehind_19 (by decide) (fun c10 => ?_) (fun c10 => ?_)
      · have g11 := z_f_lt rfl z_l30 c10
        refine lv_aload_n hx hb dX11_inBehind_24 rfl (lv_at hl 0 rfl) ?_
        refine z_get (T := TX11) (N := 13) (ci := 11) (i := 0) (v := .ref (ad 21)) hx hb hts zj_X11_inBehind_X11 hown hK hW rfl rfl 4 (by decide) (hts (.fieldLink RX11 30 "PetrolBoard" "orderBook" "LPetrolBoard$OrderBook;") (me_s (me_l (me_l (me_l (me_l (me_l (me_l (List.mem_of_getElem? (i := 1) rfl))))))))) (fun _ h => h) rfl dX11_inBehind_25 ?_
        refine lv_iconst (v := 3) hx hb dX11_inBehind_28 (by decide) ?_
        refine lv_aload_n hx hb dX11_inBehind_29 rfl (lv_at hl 1 rfl) ?_
        refine z_get (T := TX10) (N := 10) (ci := 10) (i := (100 + 8 * k)) (v := .ref (ad (100 + 8 * k + 2))) hx hb hts zj_X11_inBehind_X10 hown hK hW (z_ss0 hk h10) rfl 1 (by decide) (hts (.fieldLink RX11 246 "PetrolBoard$Station" "dipDay" "[I") (me_s (me_l (me_l (me_l (me_l (me_l (me_l (List.mem_of_getElem? (i := 2) rfl))))))))) (fun _ h => h) (z_pS hk h10 rfl rfl) dX11_inBehind_30 ?_
        refine lv_iload_n hx hb dX11_inBehind_33 rfl (lv_at hl 3 rfl) ?_
        refine z_iald (i := (100 + 8 * k + 2)) hx hb hK hW (z_ssj hk h10 (by decide)) (z_ix rfl (by omega) (by omega)) dX11_inBehind_34 ?_
        refine lv_topi (fun x12 ex12 => ?_)
        refine lv_bipush (v := 30) hx hb dX11_inBehind_35 (by decide) ?_
        refine lv_idiv hx hb dX11_inBehind_37 (by decide) ?_
        refine lv_topi (fun x13 ex13 => ?_)
        have tx13 := z_tdiv ex13 rfl z_l30 (by decide)
        refine lv_aload_n hx hb dX11_inBehind_38 rfl (lv_at hl 0 rfl) ?_
        have r14 : 0 ≤ (I 0 0).toInt ∧ (I 0 0).toInt ≤ 719 := hB.1
        refine z_get (T := TX11) (N := 13) (ci := 11) (i := 0) (v := .int (I 0 0)) hx hb hts zj_X11_inBehind_X11 hown hK hW rfl rfl 0 (by decide) (hts (.fieldLink RX11 85 "PetrolBoard" "today" "I") (me_s (me_l (me_l (me_l (me_l (me_l (me_l (List.mem_of_getElem? (i := 3) rfl))))))))) (fun _ h => h) rfl dX11_inBehind_39 ?_
        refine z_ci hW hS hA (va_runV (As := [.int 3, .int x13, .int (I 0 0)]) (rest := []) ⟨hx, hb, hml, hown, hts⟩ (sx_X6_amount l G ad c I (by show 0 ≤ (I 21 2).toInt ∧ (I 21 2).toInt ≤ 12; exact hO) 3 x13 (I 0 0) hc _) (cwV 3 hts gX11_inBehind_X6_amount rfl rfl rfl hy_X6_amount ⟨Nat.le_of_ble_eq_true rfl, Nat.le_of_ble_eq_true rfl⟩) (z_preVS (i := 21) hK hW hS hA hSt rfl rfl) rfl rfl hl.1 rfl (lv_room (Nat.le_of_ble_eq_true rfl)) dX11_inBehind_42 ⟨Nat.le_of_ble_eq_true rfl, Nat.le_of_ble_eq_true rfl⟩) (fun r u1 H locs hp hW hS => ?_)
        rw [hp] at hW
        refine lv_topi (fun x15 ex15 => ?_)
        refine lv_istore (lv' := [(4, .int x15), (0, .ref (ad 0)), (1, .ref (ad (100 + 8 * k))), (2, .int a2), (3, .int a3)]) hx hb dX11_inBehind_45 hl (by decide) rfl (fun ls hl => ?_)
        refine lv_aload_n hx hb dX11_inBehind_47 rfl (lv_at hl 1 rfl) ?_
        refine z_get (T := TX11) (N := 13) (ci := 11) (i := 0) (v := .ref (ad 30)) hx hb hts zj_X11_inBehind_X11 hown hK hW rfl rfl 6 (by decide) (hts (.fieldLink RX11 44 "PetrolBoard" "pours" "LPetrolBoard$Pours;") (me_s (me_l (me_l (me_l (me_l (me_l (me_l (List.mem_of_getElem? (i := 4) rfl))))))))) (fun _ h => h) rfl dX11_inBehind_48 ?_
        refine lv_iload_n hx hb dX11_inBehind_51 rfl (lv_at hl 3 rfl) ?_
        refine lv_aload_n hx hb dX11_inBehind_52 rfl (lv_at hl 2 rfl) ?_
        refine z_get (T := TX10) (N := 10) (ci := 10) (i := (100 + 8 * k)) (v := .ref (ad (100 + 8 * k + 4))) hx hb hts zj_X11_inBehind_X10 hown hK hW (z_ss0 hk h10) rfl 3 (by decide) (hts (.fieldLink RX11 249 "PetrolBoard$Station" "pouredThen" "[I") (me_s (me_l (me_l (me_l (me_l (me_l (me_l (List.mem_of_getElem? (i := 5) rfl))))))))) (fun _ h => h) (z_pS hk h10 rfl rfl) dX11_inBehind_53 ?_
        refine lv_iload_n hx hb dX11_inBehind_56 rfl (lv_at hl 4 rfl) ?_
        refine z_iald (i := (100 + 8 * k + 4)) hx hb hK hW (z_ssj hk h10 (by decide)) (z_ix rfl (by omega) (by omega)) dX11_inBehind_57 ?_
        refine lv_topi (fun x16 ex16 => ?_)
        refine lv_aload_n hx hb dX11_inBehind_58 rfl (lv_at hl 2 rfl) ?_
        refine z_get (T := TX10) (N := 10) (ci := 10) (i := (100 + 8 * k)) (v := .ref (ad (100 + 8 * k + 4))) hx hb hts zj_X11_inBehind_X10 hown hK hW (z_ss0 hk h10) rfl 3 (by decide) (hts (.fieldLink RX11 249 "PetrolBoard$Station" "pouredThen" "[I") (me_s (me_l (me_l (me_l (me_l (me_l (me_l (List.mem_of_getElem? (i := 5) rfl))))))))) (fun _ h => h) (z_pS hk h10 rfl rfl) dX11_inBehind_59 ?_
        refine lv_iload_n hx hb dX11_inBehind_62 rfl (lv_at hl 4 rfl) ?_
        refine lv_iconst (v := 1) hx hb dX11_inBehind_63 (by decide) ?_
        refine lv_iadd hx hb dX11_inBehind_64 ?_
        refine lv_topi (fun x17 ex17 => ?_)
        have tx17 : x17.toInt = a3.toInt + 1 := z_tadd ex17 rfl z_l1 (by omega) (by omega)
        refine z_iald (i := (100 + 8 * k + 4)) hx hb hK hW (z_ssj hk h10 (by decide)) (z_ix rfl (by omega) (by omega)) dX11_inBehind_65 ?_
        refine lv_topi (fun x18 ex18 => ?_)
        refine z_ci hW hS hA (va_runV (As := [.int a2, .int x16, .int x18]) (rest := []) ⟨hx, hb, hml, hown, hts⟩ (sx_X8_given l G ad c I  a2 x16 x18 _) (cwV 3 hts gX11_inBehind_X8_given rfl rfl rfl hy_X8_given ⟨Nat.le_of_ble_eq_true rfl, Nat.le_of_ble_eq_true rfl⟩) (z_preV (i := 30) hK hW rfl rfl) rfl rfl hl.1 rfl (lv_room (Nat.le_of_ble_eq_true rfl)) dX11_inBehind_66 ⟨Nat.le_of_ble_eq_true rfl, Nat.le_of_ble_eq_true rfl⟩) (fun r u1 H locs hp hW hS => ?_)
        rw [hp] at hW
        refine lv_topi (fun x19 ex19 => ?_)
        refine lv_istore (lv' := [(5, .int x19), (4, .int x15), (0, .ref (ad 0)), (1, .ref (ad (100 + 8 * k))), (2, .int a2), (3, .int a3)]) hx hb dX11_inBehind_69 hl (by decide) rfl (fun ls hl => ?_)
        refine lv_aload_n hx hb dX11_inBehind_71 rfl (lv_at hl 3 rfl) ?_
        refine z_get (T := TX10) (N := 10) (ci := 10) (i := (100 + 8 * k)) (v := .ref (ad (100 + 8 * k + 3))) hx hb hts zj_X11_inBehind_X10 hown hK hW (z_ss0 hk h10) rfl 2 (by decide) (hts (.fieldLink RX11 255 "PetrolBoard$Station" "deliveredThen" "[I") (me_s (me_l (me_l (me_l (me_l (me_l (me_l (List.mem_of_getElem? (i := 6) rfl))))))))) (fun _ h => h) (z_pS hk h10 rfl rfl) dX11_inBehind_72 ?_
        refine lv_iload_n hx hb dX11_inBehind_75 rfl (lv_at hl 5 rfl) ?_
        refine lv_iconst (v := 1) hx hb dX11_inBehind_76 (by decide) ?_
        refine lv_iadd hx hb dX11_inBehind_77 ?_
        refine lv_topi (fun x20 ex20 => ?_)
        have tx20 : x20.toInt = a3.toInt + 1 := z_tadd ex20 rfl z_l1 (by omega) (by omega)
        refine z_iald (i := (100 + 8 * k + 3)) hx hb hK hW (z_ssj hk h10 (by decide)) (z_ix rfl (by omega) (by omega)) dX11_inBehind_78 ?_
        refine lv_topi (fun x21 ex21 => ?_)
        refine lv_aload_n hx hb dX11_inBehind_79 rfl (lv_at hl 3 rfl) ?_
        refine z_get (T := TX10) (N := 10) (ci := 10) (i := (100 + 8 * k)) (v := .ref (ad (100 + 8 * k + 3))) hx hb hts zj_X11_inBehind_X10 hown hK hW (z_ss0 hk h10) rfl 2 (by decide) (hts (.fieldLink RX11 255 "PetrolBoard$Station" "deliveredThen" "[I") (me_s (me_l (me_l (me_l (me_l (me_l (me_l (List.mem_of_getElem? (i := 6) rfl))))))))) (fun _ h => h) (z_pS hk h10 rfl rfl) dX11_inBehind_80 ?_
        refine lv_iload_n hx hb dX11_inBehind_83 rfl (lv_at hl 5 rfl) ?_
        refine z_iald (i := (100 + 8 * k + 3)) hx hb hK hW (z_ssj hk h10 (by decide)) (z_ix rfl (by omega) (by omega)) dX11_inBehind_84 ?_
        refine lv_topi (fun x22 ex22 => ?_)
        refine lv_isub hx hb dX11_inBehind_85 ?_
        refine lv_topi (fun x23 ex23 => ?_)
        refine lv_iload hx hb dX11_inBehind_86 (lv_at hl 0 rfl) ?_
        refine lv_isub hx hb dX11_inBehind_88 ?_
        refine lv_topi (fun x24 ex24 => ?_)
        refine lv_iload hx hb dX11_inBehind_89 (lv_at hl 1 rfl) ?_
        refine lv_aload_n hx hb dX11_inBehind_91 rfl (lv_at hl 3 rfl) ?_
        refine z_get (T := TX10) (N := 10) (ci := 10) (i := (100 + 8 * k)) (v := .ref (ad (100 + 8 * k + 2))) hx hb hts zj_X11_inBehind_X10 hown hK hW (z_ss0 hk h10) rfl 1 (by decide) (hts (.fieldLink RX11 246 "PetrolBoard$Station" "dipDay" "[I") (me_s (me_l (me_l (me_l (me_l (me_l (me_l (List.mem_of_getElem? (i := 2) rfl))))))))) (fun _ h => h) (z_pS hk h10 rfl rfl) dX11_inBehind_92 ?_
        refine lv_iload_n hx hb dX11_inBehind_95 rfl (lv_at hl 5 rfl) ?_
        refine lv_iconst (v := 1) hx hb dX11_inBehind_96 (by decide) ?_
        refine lv_iadd hx hb dX11_inBehind_97 ?_
        refine lv_topi (fun x25 ex25 => ?_)
        have tx25 : x25.toInt = a3.toInt + 1 := z_tadd ex25 rfl z_l1 (by omega) (by omega)
        refine z_iald (i := (100 + 8 * k + 2)) hx hb hK hW (z_ssj hk h10 (by decide)) (z_ix rfl (by omega) (by omega)) dX11_inBehind_98 ?_
        refine lv_topi (fun x26 ex26 => ?_)
        refine lv_aload_n hx hb dX11_inBehind_99 rfl (lv_at hl 3 rfl) ?_
        refine z_get (T := TX10) (N := 10) (ci := 10) (i := (100 + 8 * k)) (v := .ref (ad (100 + 8 * k + 2))) hx hb hts zj_X11_inBehind_X10 hown hK hW (z_ss0 hk h10) rfl 1 (by decide) (hts (.fieldLink RX11 246 "PetrolBoard$Station" "dipDay" "[I") (me_s (me_l (me_l (me_l (me_l (me_l (me_l (List.mem_of_getElem? (i := 2) rfl))))))))) (fun _ h => h) (z_pS hk h10 rfl rfl) dX11_inBehind_100 ?_
        refine lv_iload_n hx hb dX11_inBehind_103 rfl (lv_at hl 5 rfl) ?_
        refine z_iald (i := (100 + 8 * k + 2)) hx hb hK hW (z_ssj hk h10 (by decide)) (z_ix rfl (by omega) (by omega)) dX11_inBehind_104 ?_
        refine z_topi (v := x12) ex12.symm ?_
        refine lv_isub hx hb dX11_inBehind_105 ?_
        refine lv_topi (fun x27 ex27 => ?_)
        refine lv_imul hx hb dX11_inBehind_106 ?_
        refine lv_topi (fun x28 ex28 => ?_)
        refine lv_isub hx hb dX11_inBehind_107 ?_
        refine lv_topi (fun x29 ex29 => ?_)
        exact z_iret hx hb hr hK hS (Nat.le_of_ble_eq_true rfl) (Nat.le_of_ble_eq_true rfl) hlocks dX11_inBehind_108 (shC c, ad, I, JX, PC c ad) hW rfl
      · have g30 := z_f_nlt rfl z_l30 c10
        refine lv_iconst (v := 0) hx hb dX11_inBehind_22 (by decide) ?_
        exact z_iret hx hb hr hK hS (Nat.le_of_ble_eq_true rfl) (Nat.le_of_ble_eq_true rfl) hlocks dX11_inBehind_23 (shC c, ad, I, JX, PC c ad) hW rfl
noncomputable def L_X11_putBounds : z_L := [(1000, 999)]
theorem zj_X11_putBounds_X10 : ∀ w ∈ wsX100, w ∈ wsX11_putBounds := fun w h => (List.mem_cons_of_mem _ (List.mem_append_left _ (List.mem_append_left _ (List.mem_append_left _ (List.mem_append_right _ h)))))
theorem zj_X11_putBounds_X11 : ∀ w ∈ wsX110, w ∈ wsX11_putBounds := fun w h => (List.mem_cons_of_mem _ (List.mem_append_left _ (List.mem_append_left _ (List.mem_append_left _ (List.mem_append_left _ (List.mem_append_right _ h))))))
set_option maxHeartbeats 8000000 in
set_option maxRecDepth 100000 in
theorem sx_X11_putBounds (l : Launch) (G : z_G) (ad : Nat → Nat) (c : z_C) (I : z_I) (hO : z_iO I) (hB : z_iB I) (k : Nat) (a2 : Int32) (a3 : Int32) (a4 : Int32) (hk : k < c.1) (h10 : c.1 ≤ 10) (hc : z_okc c) (hS0 : z_iS c I) : z_MvS l yX11_putBounds wsX11_putBounds { frames := 5, cells := 0, slots := 0, locals := 111 } [.ref (ad 0), .ref (ad (100 + 8 * k)), .int a2, .int a3, .int a4] G (shC c, ad, I, JX, PC c ad) (fun u1 => ∃ I1 : z_I, u1 = (shC c, ad, I1, JX, PC c ad) ∧ z_iO I1 ∧ z_iB I1 ∧ z_fr L_X11_putBounds I1 I ∧ z_iS c I1) 0 0 := by
  intro sz
  refine z_headS (cc := cX11_putBounds) (maxL := 7) (ret := none) (by decide) rfl (Nat.le_of_ble_eq_true rfl) ?_
  intro p e s m below meth c0 ls hIn hK hsz hW hl hSt
  obtain ⟨hx, hb, hr, hml, hown, hts, hlocks, hname⟩ := hIn
  subst hsz
  have hown : s.vm.findClass RX11 = some m.cls := hown
  have hA : ∀ q : Nat, s.heap.size ≤ q → z_A (shC c, ad, I, JX, PC c ad) s.heap.size q := fun q h => Or.inr h
  generalize hAe : z_A (shC c, ad, I, JX, PC c ad) s.heap.size = A at *
  have hS : va_S A s.heap s.heap [] := va_S.rf
  have hl : lv_has ls 7 [(0, .ref (ad 0)), (1, .ref (ad (100 + 8 * k))), (2, .int a2), (3, .int a3), (4, .int a4)] := hl
  refine lv_iload_n hx hb dX11_putBounds_0 rfl (lv_at hl 3 rfl) ?_
  refine lv_iconst (v := 0) hx hb dX11_putBounds_1 (by decide) ?_
  refine va_mmax (x := a3) (y := 0) hx hb (hml.trans hl.1.symm) hown (hts (.methodLink RX11 274 Lib.Math.max.name) (me_s (me_l (me_l (me_l (me_l (me_l (me_l (List.mem_of_getElem? (i := 0) rfl))))))))) (hts (.static Lib.Math.max.name) (me_s (me_l (me_l (me_l (me_l (me_l (me_l (List.mem_of_getElem? (i := 1) rfl))))))))) (hts (.initialized "java/lang/Math") (me_s (me_l (me_l (me_l (me_l (me_l (me_l (List.mem_of_getElem? (i := 2) rfl))))))))) (hts (.code Lib.Math.max.name Lib.Math.max.code 2 (some .int)) (me_s (me_l (me_l (me_l (me_l (me_l (me_l (List.mem_of_getElem? (i := 3) rfl))))))))) (Nat.le_of_ble_eq_true rfl) (Nat.le_of_ble_eq_true rfl) (Nat.le_of_ble_eq_true rfl) (Nat.le_of_ble_eq_true rfl) dX11_putBounds_2 ?_
  refine lv_topi (fun x1 ex1 => ?_)
  have tx1 := z_tmmax ex1 rfl z_l0
  refine lv_istore (lv' := [(5, .int x1), (0, .ref (ad 0)), (1, .ref (ad (100 + 8 * k))), (2, .int a2), (3, .int a3), (4, .int a4)]) hx hb dX11_putBounds_5 hl (by decide) rfl (fun ls hl => ?_)
  have lp2 : ∀ (f : Nat) (y3 : Int32) (I4 : z_I) (H : Heap) (locs : List Loc) (ls : Array Slot), (2147483647 < y3.toInt + (f : Int)) → (0 ≤ y3.toInt) → (z_iO I4) → (z_iB I4) → (x1.toInt ≤ y3.toInt) → (z_iS c I4) → (z_fr L_X11_putBounds I4 I) → z_W G A (shC c, ad, I4, JX, PC c ad) H → va_S A s.heap H locs → lv_has ls 7 [(5, .int y3), (0, .ref (ad 0)), (1, .ref (ad (100 + 8 * k))), (2, .int a2), (3, .int a3), (4, .int a4)] → W p l e (headSpec wsX11_putBounds { frames := 5, cells := 0, slots := 0, locals := 111 }).room s m ([.ref (ad 0), .ref (ad (100 + 8 * k)), .int a2, .int a3, .int a4] : List Value).toArray below meth c0 H locs 0 0 (MQ below (va_Qv (fun (u1 : z_U) => ∃ I1 : z_I, u1 = (shC c, ad, I1, JX, PC c ad) ∧ z_iO I1 ∧ z_iB I1 ∧ z_fr L_X11_putBounds I1 I ∧ z_iS c I1) (z_B G A) A) ([.ref (ad 0), .ref (ad (100 + 8 * k)), .int a2, .int a3, .int a4] : List Value).toArray s 0 0 A) (F0 m 7 ls []) := by
    intro f
    induction f with
    | zero => intro y3 I4  H locs ls lp2m lp2l5 lp2O lp2B lp2z lp2S lp2fr hW hS hl; exact absurd lp2m (by have := Int32.toInt_lt y3; have := Int32.le_toInt y3; omega)
    | succ f lp2ih =>
      intro y3 I4  H locs ls lp2m lp2l5 lp2O lp2B lp2z lp2S lp2fr hW hS hl
      refine lv_iload hx hb dX11_putBounds_7 (lv_at hl 0 rfl) ?_
      refine lv_iload hx hb dX11_putBounds_9 (lv_at hl 5 rfl) ?_
      refine lv_icmp_gt (tgt := 115) hx hb dX11_putBounds_11 (by decide) (fun c5 => ?_) (fun c5 => ?_)
      · have g6 := z_f_gt rfl rfl c5
        have b7 := Int32.toInt_lt y3
        have b8 := Int32.toInt_lt a4
        exact z_vret hx hb hr hK hS (Nat.le_of_ble_eq_true rfl) (Nat.le_of_ble_eq_true rfl) hlocks dX11_putBounds_115 (shC c, ad, I4, JX, PC c ad) hW ⟨I4, rfl, (by show 0 ≤ (I4 21 2).toInt ∧ (I4 21 2).toInt ≤ 12; exact lp2O), ⟨(by show 0 ≤ (I4 0 0).toInt ∧ (I4 0 0).toInt ≤ 719; exact lp2B.1), (by show 0 ≤ (I4 0 8).toInt ∧ (I4 0 8).toInt ≤ 10; exact lp2B.2)⟩, lp2fr, lp2S⟩
      · have g9 := z_f_ngt rfl rfl c5
        have b10 := Int32.toInt_lt y3
        have b11 := Int32.toInt_lt a4
        refine lv_iload hx hb dX11_putBounds_14 (lv_at hl 0 rfl) ?_
        refine lv_bipush (v := 30) hx hb dX11_putBounds_16 (by decide) ?_
        refine lv_icmp_ge (tgt := 115) hx hb dX11_putBounds_18 (by decide) (fun c12 => ?_) (fun c12 => ?_)
        · have g13 := z_f_ge rfl z_l30 c12
          exact z_vret hx hb hr hK hS (Nat.le_of_ble_eq_true rfl) (Nat.le_of_ble_eq_true rfl) hlocks dX11_putBounds_115 (shC c, ad, I4, JX, PC c ad) hW ⟨I4, rfl, (by show 0 ≤ (I4 21 2).toInt ∧ (I4 21 2).toInt ≤ 12; exact lp2O), ⟨(by show 0 ≤ (I4 0 0).toInt ∧ (I4 0 0).toInt ≤ 719; exact lp2B.1), (by show 0 ≤ (I4 0 8).toInt ∧ (I4 0 8).toInt ≤ 10; exact lp2B.2)⟩, lp2fr, lp2S⟩
        · have g14 := z_f_nge rfl z_l30 c12
          refine lv_aload_n hx hb dX11_putBounds_21 rfl (lv_at hl 1 rfl) ?_
          refine z_get (T := TX11) (N := 13) (ci := 11) (i := 0) (v := .ref (ad 21)) hx hb hts zj_X11_putBounds_X11 hown hK hW rfl rfl 4 (by decide) (hts (.fieldLink RX11 30 "PetrolBoard" "orderBook" "LPetrolBoard$OrderBook;") (me_s (me_l (me_l (me_l (me_l (me_l (me_l (List.mem_of_getElem? (i := 4) rfl))))))))) (fun _ h => h) rfl dX11_putBounds_22 ?_
          refine lv_iconst (v := 4) hx hb dX11_putBounds_25 (by decide) ?_
          refine lv_aload_n hx hb dX11_putBounds_26 rfl (lv_at hl 2 rfl) ?_
          refine z_get (T := TX10) (N := 10) (ci := 10) (i := (100 + 8 * k)) (v := .ref (ad (100 + 8 * k + 2))) hx hb hts zj_X11_putBounds_X10 hown hK hW (z_ss0 hk h10) rfl 1 (by decide) (hts (.fieldLink RX11 246 "PetrolBoard$Station" "dipDay" "[I") (me_s (me_l (me_l (me_l (me_l (me_l (me_l (List.mem_of_getElem? (i := 5) rfl))))))))) (fun _ h => h) (z_pS hk h10 rfl rfl) dX11_putBounds_27 ?_
          refine lv_iload hx hb dX11_putBounds_30 (lv_at hl 0 rfl) ?_
          refine z_iald (i := (100 + 8 * k + 2)) hx hb hK hW (z_ssj hk h10 (by decide)) (z_ix rfl (by omega) (by omega)) dX11_putBounds_32 ?_
          refine lv_topi (fun x15 ex15 => ?_)
          refine lv_bipush (v := 30) hx hb dX11_putBounds_33 (by decide) ?_
          refine lv_idiv hx hb dX11_putBounds_35 (by decide) ?_
          refine lv_topi (fun x16 ex16 => ?_)
          have tx16 := z_tdiv ex16 rfl z_l30 (by decide)
          refine lv_aload_n hx hb dX11_putBounds_36 rfl (lv_at hl 1 rfl) ?_
          have r17 : 0 ≤ (I4 0 0).toInt ∧ (I4 0 0).toInt ≤ 719 := lp2B.1
          refine z_get (T := TX11) (N := 13) (ci := 11) (i := 0) (v := .int (I4 0 0)) hx hb hts zj_X11_putBounds_X11 hown hK hW rfl rfl 0 (by decide) (hts (.fieldLink RX11 85 "PetrolBoard" "today" "I") (me_s (me_l (me_l (me_l (me_l (me_l (me_l (List.mem_of_getElem? (i := 6) rfl))))))))) (fun _ h => h) rfl dX11_putBounds_37 ?_
          refine z_ci hW hS hA (va_runV (As := [.int 4, .int x16, .int (I4 0 0)]) (rest := []) ⟨hx, hb, hml, hown, hts⟩ (sx_X6_amount l G ad c I4 (by show 0 ≤ (I4 21 2).toInt ∧ (I4 21 2).toInt ≤ 12; exact lp2O) 4 x16 (I4 0 0) hc _) (cwV 3 hts gX11_putBounds_X6_amount rfl rfl rfl hy_X6_amount ⟨Nat.le_of_ble_eq_true rfl, Nat.le_of_ble_eq_true rfl⟩) (z_preVS (i := 21) hK hW hS hA hSt rfl rfl) rfl rfl hl.1 rfl (lv_room (Nat.le_of_ble_eq_true rfl)) dX11_putBounds_40 ⟨Nat.le_of_ble_eq_true rfl, Nat.le_of_ble_eq_true rfl⟩) (fun r u1 H locs hp hW hS => ?_)
          rw [hp] at hW
          refine lv_topi (fun x18 ex18 => ?_)
          refine lv_istore (lv' := [(6, .int x18), (5, .int y3), (0, .ref (ad 0)), (1, .ref (ad (100 + 8 * k))), (2, .int a2), (3, .int a3), (4, .int a4)]) hx hb dX11_putBounds_43 hl (by decide) rfl (fun ls hl => ?_)
          refine lv_aload_n hx hb dX11_putBounds_45 rfl (lv_at hl 3 rfl) ?_
          refine z_get (T := TX10) (N := 10) (ci := 10) (i := (100 + 8 * k)) (v := .ref (ad (100 + 8 * k + 5))) hx hb hts zj_X11_putBounds_X10 hown hK hW (z_ss0 hk h10) rfl 7 (by decide) (hts (.fieldLink RX11 279 "PetrolBoard$Station" "low" "[I") (me_s (me_l (me_l (me_l (me_l (me_l (me_l (List.mem_of_getElem? (i := 7) rfl))))))))) (fun _ h => h) (z_pS hk h10 rfl rfl) dX11_putBounds_46 ?_
          refine lv_iload hx hb dX11_putBounds_49 (lv_at hl 1 rfl) ?_
          refine lv_iconst (v := 0) hx hb dX11_putBounds_51 (by decide) ?_
          refine lv_aload_n hx hb dX11_putBounds_52 rfl (lv_at hl 3 rfl) ?_
          refine z_get (T := TX10) (N := 10) (ci := 10) (i := (100 + 8 * k)) (v := .ref (ad (100 + 8 * k + 1))) hx hb hts zj_X11_putBounds_X10 hown hK hW (z_ss0 hk h10) rfl 0 (by decide) (hts (.fieldLink RX11 282 "PetrolBoard$Station" "told" "[I") (me_s (me_l (me_l (me_l (me_l (me_l (me_l (List.mem_of_getElem? (i := 8) rfl))))))))) (fun _ h => h) (z_pS hk h10 rfl rfl) dX11_putBounds_53 ?_
          refine lv_iload hx hb dX11_putBounds_56 (lv_at hl 1 rfl) ?_
          refine z_iald (i := (100 + 8 * k + 1)) hx hb hK hW (z_ssj hk h10 (by decide)) (z_ix rfl (by omega) (by omega)) dX11_putBounds_58 ?_
          refine lv_topi (fun x19 ex19 => ?_)
          refine lv_iload hx hb dX11_putBounds_59 (lv_at hl 0 rfl) ?_
          refine lv_isub hx hb dX11_putBounds_61 ?_
          refine lv_topi (fun x20 ex20 => ?_)
          refine va_mmax (x := 0) (y := x20) hx hb (hml.trans hl.1.symm) hown (hts (.methodLink RX11 274 Lib.Math.max.name) (me_s (me_l (me_l (me_l (me_l (me_l (me_l (List.mem_of_getElem? (i := 0) rfl))))))))) (hts (.static Lib.Math.max.name) (me_s (me_l (me_l (me_l (me_l (me_l (me_l (List.mem_of_getElem? (i := 1) rfl))))))))) (hts (.initialized "java/lang/Math") (me_s (me_l (me_l (me_l (me_l (me_l (me_l (List.mem_of_getElem? (i := 2) rfl))))))))) (hts (.code Lib.Math.max.name Lib.Math.max.code 2 (some .int)) (me_s (me_l (me_l (me_l (me_l (me_l (me_l (List.mem_of_getElem? (i := 3) rfl))))))))) (Nat.le_of_ble_eq_true rfl) (Nat.le_of_ble_eq_true rfl) (Nat.le_of_ble_eq_true rfl) (Nat.le_of_ble_eq_true rfl) dX11_putBounds_62 ?_
          refine lv_topi (fun x21 ex21 => ?_)
          have tx21 := z_tmmax ex21 z_l0 rfl
          refine z_iast (i := (100 + 8 * k + 5)) hx hb hK hW hS (z_ssj hk h10 (by decide)) (z_ix rfl (by omega) (by omega)) dX11_putBounds_65 (fun H locs hz1 hW hS => ?_)
          obtain ⟨I22, eI22⟩ : ∃ K : z_I, K = z_up I4 (100 + 8 * k + 5) y3.toNatClampNeg x21 := ⟨_, rfl⟩
          rw [← eI22] at hW
          have f23 := z_fr_a lp2fr (z_wad (L := L_X11_putBounds) (by decide) (by omega)) eI22
          have hS24 := z_iS_a lp2S (by decide) eI22
          refine lv_aload_n hx hb dX11_putBounds_66 rfl (lv_at hl 3 rfl) ?_
          refine z_get (T := TX10) (N := 10) (ci := 10) (i := (100 + 8 * k)) (v := .ref (ad (100 + 8 * k + 6))) hx hb hts zj_X11_putBounds_X10 hown hK hW (z_ss0 hk h10) rfl 8 (by decide) (hts (.fieldLink RX11 285 "PetrolBoard$Station" "high" "[I") (me_s (me_l (me_l (me_l (me_l (me_l (me_l (List.mem_of_getElem? (i := 9) rfl))))))))) (fun _ h => h) (z_pS hk h10 rfl rfl) dX11_putBounds_67 ?_
          refine lv_iload hx hb dX11_putBounds_70 (lv_at hl 1 rfl) ?_
          refine lv_aload_n hx hb dX11_putBounds_72 rfl (lv_at hl 3 rfl) ?_
          refine z_get (T := TX10) (N := 10) (ci := 10) (i := (100 + 8 * k)) (v := .ref (ad (100 + 8 * k + 1))) hx hb hts zj_X11_putBounds_X10 hown hK hW (z_ss0 hk h10) rfl 0 (by decide) (hts (.fieldLink RX11 282 "PetrolBoard$Station" "told" "[I") (me_s (me_l (me_l (me_l (me_l (me_l (me_l (List.mem_of_getElem? (i := 8) rfl))))))))) (fun _ h => h) (z_pS hk h10 rfl rfl) dX11_putBounds_73 ?_
          refine lv_iload hx hb dX11_putBounds_76 (lv_at hl 1 rfl) ?_
          refine z_iald (i := (100 + 8 * k + 1)) hx hb hK hW (z_ssj hk h10 (by decide)) (z_ix rfl (by omega) (by omega)) dX11_putBounds_78 ?_
          refine z_topi (v := x19) (by rw [eI22, z_up_n (by omega)]; exact ex19.symm) ?_
          refine lv_iload hx hb dX11_putBounds_79 (lv_at hl 0 rfl) ?_
          refine lv_iadd hx hb dX11_putBounds_81 ?_
          refine lv_topi (fun x25 ex25 => ?_)
          refine z_iast (i := (100 + 8 * k + 6)) hx hb hK hW hS (z_ssj hk h10 (by decide)) (z_ix rfl (by omega) (by omega)) dX11_putBounds_82 (fun H locs hz1 hW hS => ?_)
          obtain ⟨I26, eI26⟩ : ∃ K : z_I, K = z_up I22 (100 + 8 * k + 6) y3.toNatClampNeg x25 := ⟨_, rfl⟩
          rw [← eI26] at hW
          have f27 := z_fr_a f23 (z_wad (L := L_X11_putBounds) (by decide) (by omega)) eI26
          have hS28 := z_iS_a hS24 (by decide) eI26
          refine lv_aload_n hx hb dX11_putBounds_83 rfl (lv_at hl 3 rfl) ?_
          refine z_get (T := TX10) (N := 10) (ci := 10) (i := (100 + 8 * k)) (v := .ref (ad (100 + 8 * k + 7))) hx hb hts zj_X11_putBounds_X10 hown hK hW (z_ss0 hk h10) rfl 9 (by decide) (hts (.fieldLink RX11 288 "PetrolBoard$Station" "in" "[I") (me_s (me_l (me_l (me_l (me_l (me_l (me_l (List.mem_of_getElem? (i := 10) rfl))))))))) (fun _ h => h) (z_pS hk h10 rfl rfl) dX11_putBounds_84 ?_
          refine lv_iload hx hb dX11_putBounds_87 (lv_at hl 1 rfl) ?_
          refine lv_iload hx hb dX11_putBounds_89 (lv_at hl 1 rfl) ?_
          refine lv_iload hx hb dX11_putBounds_91 (lv_at hl 6 rfl) ?_
          refine lv_icmp_ge (tgt := 107) hx hb dX11_putBounds_93 (by decide) (fun c29 => ?_) (fun c29 => ?_)
          · have g30 := z_f_ge rfl rfl c29
            refine lv_iconst (v := 0) hx hb dX11_putBounds_107 (by decide) ?_
            refine z_iast (i := (100 + 8 * k + 7)) hx hb hK hW hS (z_ssj hk h10 (by decide)) (z_ix rfl (by omega) (by omega)) dX11_putBounds_108 (fun H locs hz1 hW hS => ?_)
            obtain ⟨I31, eI31⟩ : ∃ K : z_I, K = z_up I26 (100 + 8 * k + 7) y3.toNatClampNeg 0 := ⟨_, rfl⟩
            rw [← eI31] at hW
            have f32 := z_fr_a f27 (z_wad (L := L_X11_putBounds) (by decide) (by omega)) eI31
            have hS33 := z_iS_a hS28 (by decide) eI31
            obtain ⟨x34, ex34⟩ : ∃ y : Int32, y = y3 + 1 := ⟨_, rfl⟩
            have tx34 : x34.toInt = y3.toInt + 1 := z_tadd ex34 rfl z_l1 (by omega) (by omega)
            refine lv_iinc (v := x34) (lv' := [(5, .int x34), (6, .int x18), (0, .ref (ad 0)), (1, .ref (ad (100 + 8 * k))), (2, .int a2), (3, .int a3), (4, .int a4)]) hx hb dX11_putBounds_109 hl (k := 1) rfl (by rw [ex34]; rfl) (by decide) rfl (fun ls hl => ?_)
            refine lv_goto (tgt := 7) hx hb dX11_putBounds_112 (by decide) ?_
            exact lp2ih x34 I31  _ _ _ (by omega) (by omega) (by show 0 ≤ (I31 21 2).toInt ∧ (I31 21 2).toInt ≤ 12; rw [eI31, z_up_n (by omega), eI26, z_up_n (by omega), eI22, z_up_n (by omega)]; exact lp2O) ⟨(by show 0 ≤ (I31 0 0).toInt ∧ (I31 0 0).toInt ≤ 719; rw [eI31, z_up_n (by omega), eI26, z_up_n (by omega), eI22, z_up_n (by omega)]; exact lp2B.1), (by show 0 ≤ (I31 0 8).toInt ∧ (I31 0 8).toInt ≤ 10; rw [eI31, z_up_n (by omega), eI26, z_up_n (by omega), eI22, z_up_n (by omega)]; exact lp2B.2)⟩ (by omega) hS33 f32 hW hS (lv_sub hl [0, 2, 3, 4, 5, 6] rfl)
          · have g35 := z_f_nge rfl rfl c29
            refine lv_aload_n hx hb dX11_putBounds_96 rfl (lv_at hl 2 rfl) ?_
            refine lv_aload_n hx hb dX11_putBounds_97 rfl (lv_at hl 3 rfl) ?_
            refine lv_iload_n hx hb dX11_putBounds_98 rfl (lv_at hl 4 rfl) ?_
            refine lv_iload hx hb dX11_putBounds_99 (lv_at hl 1 rfl) ?_
            refine z_ci hW hS hA (va_runV (As := [.ref (ad (100 + 8 * k)), .int a2, .int y3]) (rest := [.int y3, .ref (ad (100 + 8 * k + 7))]) ⟨hx, hb, hml, hown, hts⟩ (sx_X11_inBehind l G ad c I26 (by show 0 ≤ (I26 21 2).toInt ∧ (I26 21 2).toInt ≤ 12; rw [eI26, z_up_n (by omega), eI22, z_up_n (by omega)]; exact lp2O) ⟨(by show 0 ≤ (I26 0 0).toInt ∧ (I26 0 0).toInt ≤ 719; rw [eI26, z_up_n (by omega), eI22, z_up_n (by omega)]; exact lp2B.1), (by show 0 ≤ (I26 0 8).toInt ∧ (I26 0 8).toInt ≤ 10; rw [eI26, z_up_n (by omega), eI22, z_up_n (by omega)]; exact lp2B.2)⟩ k a2 y3 hk h10 hc (by omega) hS28 _) (cwV 3 hts gX11_putBounds_X11_inBehind rfl rfl rfl hy_X11_inBehind ⟨Nat.le_of_ble_eq_true rfl, Nat.le_of_ble_eq_true rfl⟩) (z_preVS (i := 0) hK hW hS hA hSt rfl rfl) rfl rfl hl.1 rfl (lv_room (Nat.le_of_ble_eq_true rfl)) dX11_putBounds_101 ⟨Nat.le_of_ble_eq_true rfl, Nat.le_of_ble_eq_true rfl⟩) (fun r u1 H locs hp hW hS => ?_)
            rw [hp] at hW
            refine lv_topi (fun x36 ex36 => ?_)
            refine lv_goto (tgt := 108) hx hb dX11_putBounds_104 (by decide) ?_
            refine z_iast (i := (100 + 8 * k + 7)) hx hb hK hW hS (z_ssj hk h10 (by decide)) (z_ix rfl (by omega) (by omega)) dX11_putBounds_108 (fun H locs hz1 hW hS => ?_)
            obtain ⟨I37, eI37⟩ : ∃ K : z_I, K = z_up I26 (100 + 8 * k + 7) y3.toNatClampNeg x36 := ⟨_, rfl⟩
            rw [← eI37] at hW
            have f38 := z_fr_a f27 (z_wad (L := L_X11_putBounds) (by decide) (by omega)) eI37
            have hS39 := z_iS_a hS28 (by decide) eI37
            obtain ⟨x40, ex40⟩ : ∃ y : Int32, y = y3 + 1 := ⟨_, rfl⟩
            have tx40 : x40.toInt = y3.toInt + 1 := z_tadd ex40 rfl z_l1 (by omega) (by omega)
            refine lv_iinc (v := x40) (lv' := [(5, .int x40), (6, .int x18), (0, .ref (ad 0)), (1, .ref (ad (100 + 8 * k))), (2, .int a2), (3, .int a3), (4, .int a4)]) hx hb dX11_putBounds_109 hl (k := 1) rfl (by rw [ex40]; rfl) (by decide) rfl (fun ls hl => ?_)
            refine lv_goto (tgt := 7) hx hb dX11_putBounds_112 (by decide) ?_
            exact lp2ih x40 I37  _ _ _ (by omega) (by omega) (by show 0 ≤ (I37 21 2).toInt ∧ (I37 21 2).toInt ≤ 12; rw [eI37, z_up_n (by omega), eI26, z_up_n (by omega), eI22, z_up_n (by omega)]; exact lp2O) ⟨(by show 0 ≤ (I37 0 0).toInt ∧ (I37 0 0).toInt ≤ 719; rw [eI37, z_up_n (by omega), eI26, z_up_n (by omega), eI22, z_up_n (by omega)]; exact lp2B.1), (by show 0 ≤ (I37 0 8).toInt ∧ (I37 0 8).toInt ≤ 10; rw [eI37, z_up_n (by omega), eI26, z_up_n (by omega), eI22, z_up_n (by omega)]; exact lp2B.2)⟩ (by omega) hS39 f38 hW hS (lv_sub hl [0, 2, 3, 4, 5, 6] rfl)
  exact lp2 4294967296 x1 I  _ _ _ (z_m0u _) (by omega) (by show 0 ≤ (I 21 2).toInt ∧ (I 21 2).toInt ≤ 12; exact hO) ⟨(by show 0 ≤ (I 0 0).toInt ∧ (I 0 0).toInt ≤ 719; exact hB.1), (by show 0 ≤ (I 0 8).toInt ∧ (I 0 8).toInt ≤ 10; exact hB.2)⟩ (by omega) hS0 z_fr_0 hW hS (lv_sub hl [0, 1, 2, 3, 4, 5] rfl)
theorem zj_X11_in_X10 : ∀ w ∈ wsX100, w ∈ wsX11_in := fun w h => (List.mem_cons_of_mem _ (List.mem_append_left _ (List.mem_append_left _ (List.mem_append_left _ (List.mem_append_left _ (List.mem_append_right _ h))))))
set_option maxHeartbeats 8000000 in
set_option maxRecDepth 100000 in
theorem sx_X11_in (l : Launch) (G : z_G) (ad : Nat → Nat) (c : z_C) (I : z_I) (hO : z_iO I) (hB : z_iB I) (a1 : Int32) (a2 : Int32) (hc : z_okc c) (h10 : c.1 ≤ 10) (hS0 : z_iS c I) : z_MS l yX11_in wsX11_in { frames := 5, cells := 0, slots := 0, locals := 111 } [.ref (ad 0), .int a1, .int a2] G (shC c, ad, I, JX, PC c ad) (fun r u1 => u1 = (shC c, ad, I, JX, PC c ad)) 0 0 := by
  intro sz
  refine z_headS (cc := cX11_in) (maxL := 4) (ret := (some .int)) (by decide) rfl (Nat.le_of_ble_eq_true rfl) ?_
  intro p e s m below meth c0 ls hIn hK hsz hW hl hSt
  obtain ⟨hx, hb, hr, hml, hown, hts, hlocks, hname⟩ := hIn
  subst hsz
  have hown : s.vm.findClass RX11 = some m.cls := hown
  have hA : ∀ q : Nat, s.heap.size ≤ q → z_A (shC c, ad, I, JX, PC c ad) s.heap.size q := fun q h => Or.inr h
  generalize hAe : z_A (shC c, ad, I, JX, PC c ad) s.heap.size = A at *
  have hS : va_S A s.heap s.heap [] := va_S.rf
  have hl : lv_has ls 4 [(0, .ref (ad 0)), (1, .int a1), (2, .int a2)] := hl
  refine lv_aload_n hx hb dX11_in_0 rfl (lv_at hl 0 rfl) ?_
  refine lv_iload_n hx hb dX11_in_1 rfl (lv_at hl 1 rfl) ?_
  refine z_cq hW hS hA (va_runV (As := [.int a1]) (rest := []) ⟨hx, hb, hml, hown, hts⟩ (sx_X11_stationAt l G ad c I ⟨(by show 0 ≤ (I 0 0).toInt ∧ (I 0 0).toInt ≤ 719; exact hB.1), (by show 0 ≤ (I 0 8).toInt ∧ (I 0 8).toInt ≤ 10; exact hB.2)⟩ a1 hc h10 _) (cwV 1 hts gX11_in_X11_stationAt rfl rfl rfl hy_X11_stationAt ⟨Nat.le_of_ble_eq_true rfl, Nat.le_of_ble_eq_true rfl⟩) (z_preV (i := 0) hK hW rfl rfl) rfl rfl hl.1 rfl (lv_room (Nat.le_of_ble_eq_true rfl)) dX11_in_2 ⟨Nat.le_of_ble_eq_true rfl, Nat.le_of_ble_eq_true rfl⟩) (fun r u1 H locs hp hW hS => ?_)
  obtain ⟨e9, hp⟩ := hp
  rw [e9] at hW
  rcases hp with rfl | ⟨k1, hk1, rfl⟩
  · refine W.eq (g2 := F0 m 5 ls (.null :: [])) rfl ?_
    refine lv_astore_nN (lv' := [(3, .null), (0, .ref (ad 0)), (1, .int a1), (2, .int a2)]) hx hb dX11_in_5 rfl hl (by decide) rfl (fun ls hl => ?_)
    refine lv_aload_nN hx hb dX11_in_6 rfl (lv_at hl 0 rfl) ?_
    refine lv_ifnullN (tgt := 24) hx hb dX11_in_7 (by decide) ?_
    refine lv_ldc (v := (-2000000000)) hx hb hown (hts (.constant RX11 241 (-2000000000)) (me_s (me_l (me_l (me_l (me_l (me_l (me_l (List.mem_of_getElem? (i := 1) rfl))))))))) dX11_in_24 ?_
    exact z_iret hx hb hr hK hS (Nat.le_of_ble_eq_true rfl) (Nat.le_of_ble_eq_true rfl) hlocks dX11_in_26 (shC c, ad, I, JX, PC c ad) hW rfl
  · refine W.eq (g2 := F0 m 5 ls (.ref (ad (100 + 8 * k1)) :: [])) rfl ?_
    refine lv_astore_n (lv' := [(3, .ref (ad (100 + 8 * k1))), (0, .ref (ad 0)), (1, .int a1), (2, .int a2)]) hx hb dX11_in_5 rfl hl (by decide) rfl (fun ls hl => ?_)
    refine lv_aload_n hx hb dX11_in_6 rfl (lv_at hl 0 rfl) ?_
    refine lv_ifnull hx hb dX11_in_7 ?_
    refine lv_iload_n hx hb dX11_in_10 rfl (lv_at hl 3 rfl) ?_
    refine lv_if_lt (tgt := 24) hx hb dX11_in_11 (by decide) (fun c2 => ?_) (fun c2 => ?_)
    · have g3 := z_f_lt rfl z_l0 c2
      have b4 := Int32.toInt_lt a2
      refine lv_ldc (v := (-2000000000)) hx hb hown (hts (.constant RX11 241 (-2000000000)) (me_s (me_l (me_l (me_l (me_l (me_l (me_l (List.mem_of_getElem? (i := 1) rfl))))))))) dX11_in_24 ?_
      exact z_iret hx hb hr hK hS (Nat.le_of_ble_eq_true rfl) (Nat.le_of_ble_eq_true rfl) hlocks dX11_in_26 (shC c, ad, I, JX, PC c ad) hW rfl
    · have g5 := z_f_nlt rfl z_l0 c2
      have b6 := Int32.toInt_lt a2
      refine lv_iload_n hx hb dX11_in_14 rfl (lv_at hl 3 rfl) ?_
      refine lv_aload_n hx hb dX11_in_15 rfl (lv_at hl 0 rfl) ?_
      have r7 : 0 ≤ (I (100 + 8 * k1) 4).toInt ∧ (I (100 + 8 * k1) 4).toInt ≤ 30 := (hS0 k1 hk1)
      refine z_get (T := TX10) (N := 10) (ci := 10) (i := (100 + 8 * k1)) (v := .int (I (100 + 8 * k1) 4)) hx hb hts zj_X11_in_X10 hown hK hW (z_ss0 hk1 h10) rfl 4 (by decide) (hts (.fieldLink RX11 238 "PetrolBoard$Station" "dips" "I") (me_s (me_l (me_l (me_l (me_l (me_l (me_l (List.mem_of_getElem? (i := 0) rfl))))))))) (fun _ h => h) rfl dX11_in_16 ?_
      refine lv_iconst (v := 1) hx hb dX11_in_19 (by decide) ?_
      refine lv_isub hx hb dX11_in_20 ?_
      refine lv_topi (fun x8 ex8 => ?_)
      have tx8 : x8.toInt = (I (100 + 8 * k1) 4).toInt - 1 := z_tsub ex8 rfl z_l1 (by omega) (by omega)
      refine lv_icmp_lt (tgt := 27) hx hb dX11_in_21 (by decide) (fun c9 => ?_) (fun c9 => ?_)
      · have g10 := z_f_lt rfl rfl c9
        refine lv_aload_n hx hb dX11_in_27 rfl (lv_at hl 1 rfl) ?_
        refine lv_aload_n hx hb dX11_in_28 rfl (lv_at hl 0 rfl) ?_
        refine lv_iload_n hx hb dX11_in_29 rfl (lv_at hl 2 rfl) ?_
        refine lv_iload_n hx hb dX11_in_30 rfl (lv_at hl 3 rfl) ?_
        refine z_ci hW hS hA (va_runV (As := [.ref (ad (100 + 8 * k1)), .int a1, .int a2]) (rest := []) ⟨hx, hb, hml, hown, hts⟩ (sx_X11_inBehind l G ad c I (by show 0 ≤ (I 21 2).toInt ∧ (I 21 2).toInt ≤ 12; exact hO) ⟨(by show 0 ≤ (I 0 0).toInt ∧ (I 0 0).toInt ≤ 719; exact hB.1), (by show 0 ≤ (I 0 8).toInt ∧ (I 0 8).toInt ≤ 10; exact hB.2)⟩ k1 a1 a2 hk1 h10 hc (by omega) hS0 _) (cwV 3 hts gX11_in_X11_inBehind rfl rfl rfl hy_X11_inBehind ⟨Nat.le_of_ble_eq_true rfl, Nat.le_of_ble_eq_true rfl⟩) (z_preVS (i := 0) hK hW hS hA hSt rfl rfl) rfl rfl hl.1 rfl (lv_room (Nat.le_of_ble_eq_true rfl)) dX11_in_31 ⟨Nat.le_of_ble_eq_true rfl, Nat.le_of_ble_eq_true rfl⟩) (fun r u1 H locs hp hW hS => ?_)
        rw [hp] at hW
        refine lv_topi (fun x11 ex11 => ?_)
        exact z_iret hx hb hr hK hS (Nat.le_of_ble_eq_true rfl) (Nat.le_of_ble_eq_true rfl) hlocks dX11_in_34 (shC c, ad, I, JX, PC c ad) hW rfl
      · have g12 := z_f_nlt rfl rfl c9
        refine lv_ldc (v := (-2000000000)) hx hb hown (hts (.constant RX11 241 (-2000000000)) (me_s (me_l (me_l (me_l (me_l (me_l (me_l (List.mem_of_getElem? (i := 1) rfl))))))))) dX11_in_24 ?_
        exact z_iret hx hb hr hK hS (Nat.le_of_ble_eq_true rfl) (Nat.le_of_ble_eq_true rfl) hlocks dX11_in_26 (shC c, ad, I, JX, PC c ad) hW rfl
noncomputable def L_X11_sums : z_L := [(1000, 999)]
set_option maxHeartbeats 8000000 in
set_option maxRecDepth 100000 in
theorem sx_X11_sums (l : Launch) (G : z_G) (ad : Nat → Nat) (c : z_C) (I : z_I) (hO : z_iO I) (hB : z_iB I) (a1 : Int32) (a2 : Int32) (a3 : Int32) (a4 : Int32) (hc : z_okc c) (h10 : c.1 ≤ 10) (hS0 : z_iS c I) : z_MlS l yX11_sums wsX11_sums { frames := 6, cells := 0, slots := 0, locals := 137 } [.ref (ad 0), .int a1, .int a2, .int a3, .int a4] G (shC c, ad, I, JX, PC c ad) (fun r u1 => ∃ I1 : z_I, u1 = (shC c, ad, I1, JX, PC c ad) ∧ z_iO I1 ∧ z_iB I1 ∧ z_fr L_X11_sums I1 I ∧ z_iS c I1) 0 0 := by
  intro sz
  refine z_headS (cc := cX11_sums) (maxL := 6) (ret := (some .long)) (by decide) rfl (Nat.le_of_ble_eq_true rfl) ?_
  intro p e s m below meth c0 ls hIn hK hsz hW hl hSt
  obtain ⟨hx, hb, hr, hml, hown, hts, hlocks, hname⟩ := hIn
  subst hsz
  have hown : s.vm.findClass RX11 = some m.cls := hown
  have hA : ∀ q : Nat, s.heap.size ≤ q → z_A (shC c, ad, I, JX, PC c ad) s.heap.size q := fun q h => Or.inr h
  generalize hAe : z_A (shC c, ad, I, JX, PC c ad) s.heap.size = A at *
  have hS : va_S A s.heap s.heap [] := va_S.rf
  have hl : lv_has ls 6 [(0, .ref (ad 0)), (1, .int a1), (2, .int a2), (3, .int a3), (4, .int a4)] := hl
  refine lv_aload_n hx hb dX11_sums_0 rfl (lv_at hl 0 rfl) ?_
  refine lv_iload_n hx hb dX11_sums_1 rfl (lv_at hl 1 rfl) ?_
  refine z_cq hW hS hA (va_runV (As := [.int a1]) (rest := []) ⟨hx, hb, hml, hown, hts⟩ (sx_X11_stationAt l G ad c I ⟨(by show 0 ≤ (I 0 0).toInt ∧ (I 0 0).toInt ≤ 719; exact hB.1), (by show 0 ≤ (I 0 8).toInt ∧ (I 0 8).toInt ≤ 10; exact hB.2)⟩ a1 hc h10 _) (cwV 1 hts gX11_sums_X11_stationAt rfl rfl rfl hy_X11_stationAt ⟨Nat.le_of_ble_eq_true rfl, Nat.le_of_ble_eq_true rfl⟩) (z_preV (i := 0) hK hW rfl rfl) rfl rfl hl.1 rfl (lv_room (Nat.le_of_ble_eq_true rfl)) dX11_sums_2 ⟨Nat.le_of_ble_eq_true rfl, Nat.le_of_ble_eq_true rfl⟩) (fun r u1 H locs hp hW hS => ?_)
  obtain ⟨e9, hp⟩ := hp
  rw [e9] at hW
  rcases hp with rfl | ⟨k1, hk1, rfl⟩
  · refine W.eq (g2 := F0 m 5 ls (.null :: [])) rfl ?_
    refine lv_astoreN (lv' := [(5, .null), (0, .ref (ad 0)), (1, .int a1), (2, .int a2), (3, .int a3), (4, .int a4)]) hx hb dX11_sums_5 hl (by decide) rfl (fun ls hl => ?_)
    refine lv_aloadN hx hb dX11_sums_7 (lv_at hl 0 rfl) ?_
    refine lv_ifnullN (tgt := 32) hx hb dX11_sums_9 (by decide) ?_
    refine lv_ldc2 (v := (-1)) hx hb hown (hts (.constantLong RX11 261 (-1)) (me_s (me_l (me_l (me_l (me_l (me_l (me_l (List.mem_of_getElem? (i := 0) rfl))))))))) dX11_sums_32 ?_
    exact z_lret hx hb hr hK hS (Nat.le_of_ble_eq_true rfl) (Nat.le_of_ble_eq_true rfl) hlocks dX11_sums_35 (shC c, ad, I, JX, PC c ad) hW ⟨I, rfl, (by show 0 ≤ (I 21 2).toInt ∧ (I 21 2).toInt ≤ 12; exact hO), ⟨(by show 0 ≤ (I 0 0).toInt ∧ (I 0 0).toInt ≤ 719; exact hB.1), (by show 0 ≤ (I 0 8).toInt ∧ (I 0 8).toInt ≤ 10; exact hB.2)⟩, z_fr_0, hS0⟩
  · refine W.eq (g2 := F0 m 5 ls (.ref (ad (100 + 8 * k1)) :: [])) rfl ?_
    refine lv_astore (lv' := [(5, .ref (ad (100 + 8 * k1))), (0, .ref (ad 0)), (1, .int a1), (2, .int a2), (3, .int a3), (4, .int a4)]) hx hb dX11_sums_5 hl (by decide) rfl (fun ls hl => ?_)
    refine lv_aload hx hb dX11_sums_7 (lv_at hl 0 rfl) ?_
    refine lv_ifnull hx hb dX11_sums_9 ?_
    refine lv_aload hx hb dX11_sums_12 (lv_at hl 0 rfl) ?_
    refine lv_iload_n hx hb dX11_sums_14 rfl (lv_at hl 3 rfl) ?_
    refine lv_iload_n hx hb dX11_sums_15 rfl (lv_at hl 4 rfl) ?_
    refine z_ci hW hS hA (va_runV (As := [.int a2, .int a3]) (rest := []) ⟨hx, hb, hml, hown, hts⟩ (sx_X10_hasSpan l G ad c I  k1 a2 a3 hk1 h10 hS0 _) (cwV 2 hts gX11_sums_X10_hasSpan rfl rfl rfl hy_X10_hasSpan ⟨Nat.le_of_ble_eq_true rfl, Nat.le_of_ble_eq_true rfl⟩) (z_preV (i := (100 + 8 * k1)) hK hW (z_ss0 hk1 h10) rfl) rfl rfl hl.1 rfl (lv_room (Nat.le_of_ble_eq_true rfl)) dX11_sums_16 ⟨Nat.le_of_ble_eq_true rfl, Nat.le_of_ble_eq_true rfl⟩) (fun r u1 H locs hp hW hS => ?_)
    obtain ⟨e9, hp⟩ := hp
    rw [e9] at hW
    rcases hp with ⟨rfl, h2, h3, h4⟩ | rfl
    · refine lv_if_eq (tgt := 32) hx hb dX11_sums_19 (by decide) (fun c5 => absurd c5 (by decide)) (fun c5 => ?_)
      refine lv_iload hx hb dX11_sums_22 (lv_at hl 5 rfl) ?_
      refine lv_iconst (v := 0) hx hb dX11_sums_24 (by decide) ?_
      refine lv_iconst (v := 1) hx hb dX11_sums_25 (by decide) ?_
      refine z_ci hW hS hA (va_runS (As := [.int a4, .int 0, .int 1]) (rest := []) ⟨hx, hb, hml, hown, hts⟩ (sx_X11_within l G ad c I  a4 0 1 _) (va_cwS 3 hts gX11_sums_X11_within rfl rfl rfl hy_X11_within.2 ⟨Nat.le_of_ble_eq_true rfl, Nat.le_of_ble_eq_true rfl⟩) (z_preS hK hW) rfl rfl hl.1 rfl (lv_room (Nat.le_of_ble_eq_true rfl)) dX11_sums_26 ⟨Nat.le_of_ble_eq_true rfl, Nat.le_of_ble_eq_true rfl⟩) (fun r u1 H locs hp hW hS => ?_)
      obtain ⟨e9, hp⟩ := hp
      rw [e9] at hW
      rcases hp with ⟨rfl, h6, h7⟩ | rfl
      · have h6 := z_t_le z_l0 rfl h6
        have h7 := z_t_le rfl z_l1 h7
        refine lv_if_ne (tgt := 36) hx hb dX11_sums_29 (by decide) (fun c8 => ?_) (fun c8 => absurd c8 (by decide))
        refine lv_aload_n hx hb dX11_sums_36 rfl (lv_at hl 1 rfl) ?_
        refine lv_aload hx hb dX11_sums_37 (lv_at hl 0 rfl) ?_
        refine lv_iload_n hx hb dX11_sums_39 rfl (lv_at hl 2 rfl) ?_
        refine lv_iload_n hx hb dX11_sums_40 rfl (lv_at hl 3 rfl) ?_
        refine lv_iload_n hx hb dX11_sums_41 rfl (lv_at hl 4 rfl) ?_
        refine z_cv hW hS hA (va_runV (As := [.ref (ad (100 + 8 * k1)), .int a1, .int a2, .int a3]) (rest := []) ⟨hx, hb, hml, hown, hts⟩ (sx_X11_putBounds l G ad c I (by show 0 ≤ (I 21 2).toInt ∧ (I 21 2).toInt ≤ 12; exact hO) ⟨(by show 0 ≤ (I 0 0).toInt ∧ (I 0 0).toInt ≤ 719; exact hB.1), (by show 0 ≤ (I 0 8).toInt ∧ (I 0 8).toInt ≤ 10; exact hB.2)⟩ k1 a1 a2 a3 hk1 h10 hc hS0 _) (cwV 4 hts gX11_sums_X11_putBounds rfl rfl rfl hy_X11_putBounds ⟨Nat.le_of_ble_eq_true rfl, Nat.le_of_ble_eq_true rfl⟩) (z_preVS (i := 0) hK hW hS hA hSt rfl rfl) rfl rfl hl.1 rfl (lv_room (Nat.le_of_ble_eq_true rfl)) dX11_sums_42 ⟨Nat.le_of_ble_eq_true rfl, Nat.le_of_ble_eq_true rfl⟩) (fun u1 H locs hp hW hS => ?_)
        obtain ⟨I9, e9, hI9O, hI9B, fI9, SI9⟩ := hp
        rw [e9] at hW
        have f10 := z_fr_sub (L := L_X11_sums) z_fr_0 fI9 (by decide)
        refine lv_iload hx hb dX11_sums_45 (lv_at hl 5 rfl) ?_
        refine lv_if_ne (tgt := 60) hx hb dX11_sums_47 (by decide) (fun c11 => ?_) (fun c11 => ?_)
        · have g12 := z_f_ne rfl z_l0 c11
          refine lv_aload hx hb dX11_sums_60 (lv_at hl 0 rfl) ?_
          refine lv_iload_n hx hb dX11_sums_62 rfl (lv_at hl 3 rfl) ?_
          refine lv_iload_n hx hb dX11_sums_63 rfl (lv_at hl 4 rfl) ?_
          refine z_cl hW hS hA (va_runV (As := [.int a2, .int a3]) (rest := []) ⟨hx, hb, hml, hown, hts⟩ (sx_X10_mostBlack l G ad c I9  k1 a2 a3 hk1 h10 SI9 _) (cwV 2 hts gX11_sums_X10_mostBlack rfl rfl rfl hy_X10_mostBlack ⟨Nat.le_of_ble_eq_true rfl, Nat.le_of_ble_eq_true rfl⟩) (z_preV (i := (100 + 8 * k1)) hK hW (z_ss0 hk1 h10) rfl) rfl rfl hl.1 rfl (lv_room (Nat.le_of_ble_eq_true rfl)) dX11_sums_64 ⟨Nat.le_of_ble_eq_true rfl, Nat.le_of_ble_eq_true rfl⟩) (fun r u1 H locs hp hW hS => ?_)
          rw [hp] at hW
          refine lv_topl (fun x13 ex13 => ?_)
          exact z_lret hx hb hr hK hS (Nat.le_of_ble_eq_true rfl) (Nat.le_of_ble_eq_true rfl) hlocks dX11_sums_67 (shC c, ad, I9, JX, PC c ad) hW ⟨I9, rfl, (by show 0 ≤ (I9 21 2).toInt ∧ (I9 21 2).toInt ≤ 12; exact hI9O), ⟨(by show 0 ≤ (I9 0 0).toInt ∧ (I9 0 0).toInt ≤ 719; exact hI9B.1), (by show 0 ≤ (I9 0 8).toInt ∧ (I9 0 8).toInt ≤ 10; exact hI9B.2)⟩, f10, SI9⟩
        · have g14 := z_f_eq rfl z_l0 c11
          refine lv_aload hx hb dX11_sums_50 (lv_at hl 0 rfl) ?_
          refine lv_iload_n hx hb dX11_sums_52 rfl (lv_at hl 3 rfl) ?_
          refine lv_iload_n hx hb dX11_sums_53 rfl (lv_at hl 4 rfl) ?_
          refine z_cl hW hS hA (va_runV (As := [.int a2, .int a3]) (rest := []) ⟨hx, hb, hml, hown, hts⟩ (sx_X10_leastBlack l G ad c I9  k1 a2 a3 hk1 h10 SI9 _) (cwV 2 hts gX11_sums_X10_leastBlack rfl rfl rfl hy_X10_leastBlack ⟨Nat.le_of_ble_eq_true rfl, Nat.le_of_ble_eq_true rfl⟩) (z_preV (i := (100 + 8 * k1)) hK hW (z_ss0 hk1 h10) rfl) rfl rfl hl.1 rfl (lv_room (Nat.le_of_ble_eq_true rfl)) dX11_sums_54 ⟨Nat.le_of_ble_eq_true rfl, Nat.le_of_ble_eq_true rfl⟩) (fun r u1 H locs hp hW hS => ?_)
          rw [hp] at hW
          refine lv_topl (fun x15 ex15 => ?_)
          refine lv_goto (tgt := 67) hx hb dX11_sums_57 (by decide) ?_
          exact z_lret hx hb hr hK hS (Nat.le_of_ble_eq_true rfl) (Nat.le_of_ble_eq_true rfl) hlocks dX11_sums_67 (shC c, ad, I9, JX, PC c ad) hW ⟨I9, rfl, (by show 0 ≤ (I9 21 2).toInt ∧ (I9 21 2).toInt ≤ 12; exact hI9O), ⟨(by show 0 ≤ (I9 0 0).toInt ∧ (I9 0 0).toInt ≤ 719; exact hI9B.1), (by show 0 ≤ (I9 0 8).toInt ∧ (I9 0 8).toInt ≤ 10; exact hI9B.2)⟩, f10, SI9⟩
      · refine lv_if_ne (tgt := 36) hx hb dX11_sums_29 (by decide) (fun c16 => absurd (by decide) c16) (fun c16 => ?_)
        refine lv_ldc2 (v := (-1)) hx hb hown (hts (.constantLong RX11 261 (-1)) (me_s (me_l (me_l (me_l (me_l (me_l (me_l (List.mem_of_getElem? (i := 0) rfl))))))))) dX11_sums_32 ?_
        exact z_lret hx hb hr hK hS (Nat.le_of_ble_eq_true rfl) (Nat.le_of_ble_eq_true rfl) hlocks dX11_sums_35 (shC c, ad, I, JX, PC c ad) hW ⟨I, rfl, (by show 0 ≤ (I 21 2).toInt ∧ (I 21 2).toInt ≤ 12; exact hO), ⟨(by show 0 ≤ (I 0 0).toInt ∧ (I 0 0).toInt ≤ 719; exact hB.1), (by show 0 ≤ (I 0 8).toInt ∧ (I 0 8).toInt ≤ 10; exact hB.2)⟩, z_fr_0, hS0⟩
    · refine lv_if_eq (tgt := 32) hx hb dX11_sums_19 (by decide) (fun c17 => ?_) (fun c17 => absurd (by decide) c17)
      refine lv_ldc2 (v := (-1)) hx hb hown (hts (.constantLong RX11 261 (-1)) (me_s (me_l (me_l (me_l (me_l (me_l (me_l (List.mem_of_getElem? (i := 0) rfl))))))))) dX11_sums_32 ?_
      exact z_lret hx hb hr hK hS (Nat.le_of_ble_eq_true rfl) (Nat.le_of_ble_eq_true rfl) hlocks dX11_sums_35 (shC c, ad, I, JX, PC c ad) hW ⟨I, rfl, (by show 0 ≤ (I 21 2).toInt ∧ (I 21 2).toInt ≤ 12; exact hO), ⟨(by show 0 ≤ (I 0 0).toInt ∧ (I 0 0).toInt ≤ 719; exact hB.1), (by show 0 ≤ (I 0 8).toInt ∧ (I 0 8).toInt ≤ 10; exact hB.2)⟩, z_fr_0, hS0⟩
noncomputable def L_X11_level : z_L := [(40, 999)]
theorem zj_X11_level_X11 : ∀ w ∈ wsX110, w ∈ wsX11_level := fun w h => (List.mem_cons_of_mem _ (List.mem_append_right _ h))
set_option maxHeartbeats 8000000 in
set_option maxRecDepth 100000 in
theorem sx_X11_level (l : Launch) (G : z_G) (ad : Nat → Nat) (c : z_C) (I : z_I) (a1 : Int32) (a2 : Int32) (hc : z_okc c) (h10 : c.1 ≤ 10) : z_M l yX11_level wsX11_level { frames := 2, cells := 0, slots := 0, locals := 34 } [.ref (ad 0), .int a1, .int a2] G (shC c, ad, I, JX, PC c ad) (fun r u1 => ∃ I1 : z_I, u1 = (shC c, ad, I1, JX, PC c ad) ∧ z_fr L_X11_level I1 I ∧ (r = 1 ∨ r = 0)) 0 0 := by
  intro sz
  refine z_headQ (cc := cX11_level) (maxL := 3) (ret := (some .boolean)) (by decide) rfl (Nat.le_of_ble_eq_true rfl) ?_
  intro p e s m below meth c0 ls hIn hK hsz hW hl
  obtain ⟨hx, hb, hr, hml, hown, hts, hlocks, hname⟩ := hIn
  subst hsz
  have hown : s.vm.findClass RX11 = some m.cls := hown
  have hA : ∀ q : Nat, s.heap.size ≤ q → z_A (shC c, ad, I, JX, PC c ad) s.heap.size q := fun q h => Or.inr h
  generalize hAe : z_A (shC c, ad, I, JX, PC c ad) s.heap.size = A at *
  have hS : va_S A s.heap s.heap [] := va_S.rf
  have hl : lv_has ls 3 [(0, .ref (ad 0)), (1, .int a1), (2, .int a2)] := hl
  refine lv_iload_n hx hb dX11_level_0 rfl (lv_at hl 1 rfl) ?_
  refine lv_if_lt (tgt := 24) hx hb dX11_level_1 (by decide) (fun c1 => ?_) (fun c1 => ?_)
  · have g2 := z_f_lt rfl z_l0 c1
    have b3 := Int32.toInt_lt a1
    refine lv_iconst (v := 0) hx hb dX11_level_24 (by decide) ?_
    exact z_zret hx hb hr (by decide) hK hS (Nat.le_of_ble_eq_true rfl) (Nat.le_of_ble_eq_true rfl) hlocks dX11_level_25 (shC c, ad, I, JX, PC c ad) hW ⟨I, rfl, z_fr_0, Or.inr rfl⟩
  · have g4 := z_f_nlt rfl z_l0 c1
    have b5 := Int32.toInt_lt a1
    refine lv_iload_n hx hb dX11_level_4 rfl (lv_at hl 1 rfl) ?_
    refine lv_aload_n hx hb dX11_level_5 rfl (lv_at hl 0 rfl) ?_
    refine z_get (T := TX11) (N := 13) (ci := 11) (i := 0) (v := .ref (ad 40)) hx hb hts zj_X11_level_X11 hown hK hW rfl rfl 9 (by decide) (hts (.fieldLink RX11 54 "PetrolBoard" "row" "[I") (me_s (me_l (List.mem_of_getElem? (i := 0) rfl)))) (fun _ h => h) rfl dX11_level_6 ?_
    refine z_alen (i := 40) (v := 30) hx hb hK hW rfl (by simp [z_tys]) (by rfl) dX11_level_9 ?_
    refine lv_icmp_ge (tgt := 24) hx hb dX11_level_10 (by decide) (fun c6 => ?_) (fun c6 => ?_)
    · have g7 := z_f_ge rfl z_l30 c6
      refine lv_iconst (v := 0) hx hb dX11_level_24 (by decide) ?_
      exact z_zret hx hb hr (by decide) hK hS (Nat.le_of_ble_eq_true rfl) (Nat.le_of_ble_eq_true rfl) hlocks dX11_level_25 (shC c, ad, I, JX, PC c ad) hW ⟨I, rfl, z_fr_0, Or.inr rfl⟩
    · have g8 := z_f_nge rfl z_l30 c6
      refine lv_iload_n hx hb dX11_level_13 rfl (lv_at hl 2 rfl) ?_
      refine lv_iconst (v := 0) hx hb dX11_level_14 (by decide) ?_
      refine lv_ldcw (v := 300000) hx hb hown (hts (.constant RX11 291 (300000)) (me_s (me_l (List.mem_of_getElem? (i := 1) rfl)))) dX11_level_15 ?_
      refine z_ci hW hS hA (va_runS (As := [.int a2, .int 0, .int 300000]) (rest := []) ⟨hx, hb, hml, hown, hts⟩ (sx_X11_within l G ad c I  a2 0 300000 _) (va_cwS 3 hts gX11_level_X11_within rfl rfl rfl hy_X11_within.2 ⟨Nat.le_of_ble_eq_true rfl, Nat.le_of_ble_eq_true rfl⟩) (z_preS hK hW) rfl rfl hl.1 rfl (lv_room (Nat.le_of_ble_eq_true rfl)) dX11_level_18 ⟨Nat.le_of_ble_eq_true rfl, Nat.le_of_ble_eq_true rfl⟩) (fun r u1 H locs hp hW hS => ?_)
      obtain ⟨e9, hp⟩ := hp
      rw [e9] at hW
      rcases hp with ⟨rfl, h9, h10⟩ | rfl
      · have h9 := z_t_le z_l0 rfl h9
        have h10 := z_t_le rfl z_l300000 h10
        refine lv_if_ne (tgt := 26) hx hb dX11_level_21 (by decide) (fun c11 => ?_) (fun c11 => absurd c11 (by decide))
        refine lv_aload_n hx hb dX11_level_26 rfl (lv_at hl 0 rfl) ?_
        refine z_get (T := TX11) (N := 13) (ci := 11) (i := 0) (v := .ref (ad 40)) hx hb hts zj_X11_level_X11 hown hK hW rfl rfl 9 (by decide) (hts (.fieldLink RX11 54 "PetrolBoard" "row" "[I") (me_s (me_l (List.mem_of_getElem? (i := 0) rfl)))) (fun _ h => h) rfl dX11_level_27 ?_
        refine lv_iload_n hx hb dX11_level_30 rfl (lv_at hl 1 rfl) ?_
        refine lv_iload_n hx hb dX11_level_31 rfl (lv_at hl 2 rfl) ?_
        refine z_iast (i := 40) hx hb hK hW hS rfl (z_ix rfl (by omega) (by omega)) dX11_level_32 (fun H locs hz1 hW hS => ?_)
        obtain ⟨I12, eI12⟩ : ∃ K : z_I, K = z_up I 40 a1.toNatClampNeg a2 := ⟨_, rfl⟩
        rw [← eI12] at hW
        have f13 := z_fr_a z_fr_0 (show z_wa L_X11_level 40 = true by decide) eI12
        refine lv_iconst (v := 1) hx hb dX11_level_33 (by decide) ?_
        exact z_zret hx hb hr (by decide) hK hS (Nat.le_of_ble_eq_true rfl) (Nat.le_of_ble_eq_true rfl) hlocks dX11_level_34 (shC c, ad, I12, JX, PC c ad) hW ⟨I12, rfl, f13, Or.inl rfl⟩
      · refine lv_if_ne (tgt := 26) hx hb dX11_level_21 (by decide) (fun c14 => absurd (by decide) c14) (fun c14 => ?_)
        refine lv_iconst (v := 0) hx hb dX11_level_24 (by decide) ?_
        exact z_zret hx hb hr (by decide) hK hS (Nat.le_of_ble_eq_true rfl) (Nat.le_of_ble_eq_true rfl) hlocks dX11_level_25 (shC c, ad, I, JX, PC c ad) hW ⟨I, rfl, z_fr_0, Or.inr rfl⟩
noncomputable def L_X11_judged : z_L := [(1000, 999)]
theorem zj_X11_judged_X11 : ∀ w ∈ wsX110, w ∈ wsX11_judged := fun w h => (List.mem_cons_of_mem _ (List.mem_append_left _ (List.mem_append_left _ (List.mem_append_left _ (List.mem_append_left _ (List.mem_append_right _ h))))))
set_option maxHeartbeats 8000000 in
set_option maxRecDepth 100000 in
theorem sx_X11_judged (l : Launch) (G : z_G) (ad : Nat → Nat) (c : z_C) (I : z_I) (hO : z_iO I) (hB : z_iB I) (a1 : Int32) (a2 : Int32) (a3 : Int32) (hc : z_okc c) (h10 : c.1 ≤ 10) (hS0 : z_iS c I) : z_MlS l yX11_judged wsX11_judged { frames := 6, cells := 0, slots := 0, locals := 137 } [.ref (ad 0), .int a1, .int a2, .int a3] G (shC c, ad, I, JX, PC c ad) (fun r u1 => ∃ I1 : z_I, u1 = (shC c, ad, I1, JX, PC c ad) ∧ z_iO I1 ∧ z_iB I1 ∧ z_fr L_X11_judged I1 I ∧ z_iS c I1) 0 0 := by
  intro sz
  refine z_headS (cc := cX11_judged) (maxL := 5) (ret := (some .long)) (by decide) rfl (Nat.le_of_ble_eq_true rfl) ?_
  intro p e s m below meth c0 ls hIn hK hsz hW hl hSt
  obtain ⟨hx, hb, hr, hml, hown, hts, hlocks, hname⟩ := hIn
  subst hsz
  have hown : s.vm.findClass RX11 = some m.cls := hown
  have hA : ∀ q : Nat, s.heap.size ≤ q → z_A (shC c, ad, I, JX, PC c ad) s.heap.size q := fun q h => Or.inr h
  generalize hAe : z_A (shC c, ad, I, JX, PC c ad) s.heap.size = A at *
  have hS : va_S A s.heap s.heap [] := va_S.rf
  have hl : lv_has ls 5 [(0, .ref (ad 0)), (1, .int a1), (2, .int a2), (3, .int a3)] := hl
  refine lv_aload_n hx hb dX11_judged_0 rfl (lv_at hl 0 rfl) ?_
  refine lv_iload_n hx hb dX11_judged_1 rfl (lv_at hl 1 rfl) ?_
  refine z_cq hW hS hA (va_runV (As := [.int a1]) (rest := []) ⟨hx, hb, hml, hown, hts⟩ (sx_X11_stationAt l G ad c I ⟨(by show 0 ≤ (I 0 0).toInt ∧ (I 0 0).toInt ≤ 719; exact hB.1), (by show 0 ≤ (I 0 8).toInt ∧ (I 0 8).toInt ≤ 10; exact hB.2)⟩ a1 hc h10 _) (cwV 1 hts gX11_judged_X11_stationAt rfl rfl rfl hy_X11_stationAt ⟨Nat.le_of_ble_eq_true rfl, Nat.le_of_ble_eq_true rfl⟩) (z_preV (i := 0) hK hW rfl rfl) rfl rfl hl.1 rfl (lv_room (Nat.le_of_ble_eq_true rfl)) dX11_judged_2 ⟨Nat.le_of_ble_eq_true rfl, Nat.le_of_ble_eq_true rfl⟩) (fun r u1 H locs hp hW hS => ?_)
  obtain ⟨e9, hp⟩ := hp
  rw [e9] at hW
  rcases hp with rfl | ⟨k1, hk1, rfl⟩
  · refine W.eq (g2 := F0 m 5 ls (.null :: [])) rfl ?_
    refine lv_astoreN (lv' := [(4, .null), (0, .ref (ad 0)), (1, .int a1), (2, .int a2), (3, .int a3)]) hx hb dX11_judged_5 hl (by decide) rfl (fun ls hl => ?_)
    refine lv_aloadN hx hb dX11_judged_7 (lv_at hl 0 rfl) ?_
    refine lv_ifnullN (tgt := 22) hx hb dX11_judged_9 (by decide) ?_
    refine lv_ldc2 (v := (-1)) hx hb hown (hts (.constantLong RX11 261 (-1)) (me_s (me_l (me_l (me_l (me_l (me_l (me_l (List.mem_of_getElem? (i := 0) rfl))))))))) dX11_judged_22 ?_
    exact z_lret hx hb hr hK hS (Nat.le_of_ble_eq_true rfl) (Nat.le_of_ble_eq_true rfl) hlocks dX11_judged_25 (shC c, ad, I, JX, PC c ad) hW ⟨I, rfl, (by show 0 ≤ (I 21 2).toInt ∧ (I 21 2).toInt ≤ 12; exact hO), ⟨(by show 0 ≤ (I 0 0).toInt ∧ (I 0 0).toInt ≤ 719; exact hB.1), (by show 0 ≤ (I 0 8).toInt ∧ (I 0 8).toInt ≤ 10; exact hB.2)⟩, z_fr_0, hS0⟩
  · refine W.eq (g2 := F0 m 5 ls (.ref (ad (100 + 8 * k1)) :: [])) rfl ?_
    refine lv_astore (lv' := [(4, .ref (ad (100 + 8 * k1))), (0, .ref (ad 0)), (1, .int a1), (2, .int a2), (3, .int a3)]) hx hb dX11_judged_5 hl (by decide) rfl (fun ls hl => ?_)
    refine lv_aload hx hb dX11_judged_7 (lv_at hl 0 rfl) ?_
    refine lv_ifnull hx hb dX11_judged_9 ?_
    refine lv_aload hx hb dX11_judged_12 (lv_at hl 0 rfl) ?_
    refine lv_iload_n hx hb dX11_judged_14 rfl (lv_at hl 3 rfl) ?_
    refine lv_iload_n hx hb dX11_judged_15 rfl (lv_at hl 4 rfl) ?_
    refine z_ci hW hS hA (va_runV (As := [.int a2, .int a3]) (rest := []) ⟨hx, hb, hml, hown, hts⟩ (sx_X10_hasSpan l G ad c I  k1 a2 a3 hk1 h10 hS0 _) (cwV 2 hts gX11_judged_X10_hasSpan rfl rfl rfl hy_X10_hasSpan ⟨Nat.le_of_ble_eq_true rfl, Nat.le_of_ble_eq_true rfl⟩) (z_preV (i := (100 + 8 * k1)) hK hW (z_ss0 hk1 h10) rfl) rfl rfl hl.1 rfl (lv_room (Nat.le_of_ble_eq_true rfl)) dX11_judged_16 ⟨Nat.le_of_ble_eq_true rfl, Nat.le_of_ble_eq_true rfl⟩) (fun r u1 H locs hp hW hS => ?_)
    obtain ⟨e9, hp⟩ := hp
    rw [e9] at hW
    rcases hp with ⟨rfl, h2, h3, h4⟩ | rfl
    · refine lv_if_ne (tgt := 26) hx hb dX11_judged_19 (by decide) (fun c5 => ?_) (fun c5 => absurd c5 (by decide))
      refine lv_aload_n hx hb dX11_judged_26 rfl (lv_at hl 1 rfl) ?_
      refine lv_aload hx hb dX11_judged_27 (lv_at hl 0 rfl) ?_
      refine lv_iload_n hx hb dX11_judged_29 rfl (lv_at hl 2 rfl) ?_
      refine lv_iload_n hx hb dX11_judged_30 rfl (lv_at hl 3 rfl) ?_
      refine lv_iload_n hx hb dX11_judged_31 rfl (lv_at hl 4 rfl) ?_
      refine z_cv hW hS hA (va_runV (As := [.ref (ad (100 + 8 * k1)), .int a1, .int a2, .int a3]) (rest := []) ⟨hx, hb, hml, hown, hts⟩ (sx_X11_putBounds l G ad c I (by show 0 ≤ (I 21 2).toInt ∧ (I 21 2).toInt ≤ 12; exact hO) ⟨(by show 0 ≤ (I 0 0).toInt ∧ (I 0 0).toInt ≤ 719; exact hB.1), (by show 0 ≤ (I 0 8).toInt ∧ (I 0 8).toInt ≤ 10; exact hB.2)⟩ k1 a1 a2 a3 hk1 h10 hc hS0 _) (cwV 4 hts gX11_judged_X11_putBounds rfl rfl rfl hy_X11_putBounds ⟨Nat.le_of_ble_eq_true rfl, Nat.le_of_ble_eq_true rfl⟩) (z_preVS (i := 0) hK hW hS hA hSt rfl rfl) rfl rfl hl.1 rfl (lv_room (Nat.le_of_ble_eq_true rfl)) dX11_judged_32 ⟨Nat.le_of_ble_eq_true rfl, Nat.le_of_ble_eq_true rfl⟩) (fun u1 H locs hp hW hS => ?_)
      obtain ⟨I6, e9, hI6O, hI6B, fI6, SI6⟩ := hp
      rw [e9] at hW
      have f7 := z_fr_sub (L := L_X11_judged) z_fr_0 fI6 (by decide)
      refine lv_aload hx hb dX11_judged_35 (lv_at hl 0 rfl) ?_
      refine lv_aload_n hx hb dX11_judged_37 rfl (lv_at hl 1 rfl) ?_
      refine z_get (T := TX11) (N := 13) (ci := 11) (i := 0) (v := .ref (ad 40)) hx hb hts zj_X11_judged_X11 hown hK hW rfl rfl 9 (by decide) (hts (.fieldLink RX11 54 "PetrolBoard" "row" "[I") (me_s (me_l (me_l (me_l (me_l (me_l (me_l (List.mem_of_getElem? (i := 1) rfl))))))))) (fun _ h => h) rfl dX11_judged_38 ?_
      refine lv_iload_n hx hb dX11_judged_41 rfl (lv_at hl 3 rfl) ?_
      refine lv_iload_n hx hb dX11_judged_42 rfl (lv_at hl 4 rfl) ?_
      refine z_cl hW hS hA (va_runV (As := [.ref (ad 40), .int a2, .int a3]) (rest := []) ⟨hx, hb, hml, hown, hts⟩ (sx_X10_blackBy l G ad c I6  k1 a2 a3 hk1 h10 SI6 _) (cwV 3 hts gX11_judged_X10_blackBy rfl rfl rfl hy_X10_blackBy ⟨Nat.le_of_ble_eq_true rfl, Nat.le_of_ble_eq_true rfl⟩) (z_preV (i := (100 + 8 * k1)) hK hW (z_ss0 hk1 h10) rfl) rfl rfl hl.1 rfl (lv_room (Nat.le_of_ble_eq_true rfl)) dX11_judged_43 ⟨Nat.le_of_ble_eq_true rfl, Nat.le_of_ble_eq_true rfl⟩) (fun r u1 H locs hp hW hS => ?_)
      rw [hp] at hW
      refine lv_topl (fun x8 ex8 => ?_)
      exact z_lret hx hb hr hK hS (Nat.le_of_ble_eq_true rfl) (Nat.le_of_ble_eq_true rfl) hlocks dX11_judged_46 (shC c, ad, I6, JX, PC c ad) hW ⟨I6, rfl, (by show 0 ≤ (I6 21 2).toInt ∧ (I6 21 2).toInt ≤ 12; exact hI6O), ⟨(by show 0 ≤ (I6 0 0).toInt ∧ (I6 0 0).toInt ≤ 719; exact hI6B.1), (by show 0 ≤ (I6 0 8).toInt ∧ (I6 0 8).toInt ≤ 10; exact hI6B.2)⟩, f7, SI6⟩
    · refine lv_if_ne (tgt := 26) hx hb dX11_judged_19 (by decide) (fun c9 => absurd (by decide) c9) (fun c9 => ?_)
      refine lv_ldc2 (v := (-1)) hx hb hown (hts (.constantLong RX11 261 (-1)) (me_s (me_l (me_l (me_l (me_l (me_l (me_l (List.mem_of_getElem? (i := 0) rfl))))))))) dX11_judged_22 ?_
      exact z_lret hx hb hr hK hS (Nat.le_of_ble_eq_true rfl) (Nat.le_of_ble_eq_true rfl) hlocks dX11_judged_25 (shC c, ad, I, JX, PC c ad) hW ⟨I, rfl, (by show 0 ≤ (I 21 2).toInt ∧ (I 21 2).toInt ≤ 12; exact hO), ⟨(by show 0 ≤ (I 0 0).toInt ∧ (I 0 0).toInt ≤ 719; exact hB.1), (by show 0 ≤ (I 0 8).toInt ∧ (I 0 8).toInt ≤ 10; exact hB.2)⟩, z_fr_0, hS0⟩
