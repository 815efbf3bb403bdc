theorem dX11_want_8 : decode cX11_want 8 = .ok (.iload_n 2, 1) := z_dd_28 (by decide +kernel)
theorem dX11_want_9 : decode cX11_want 9 = .ok (.iconst 0, 1) := z_dd_3 (by decide +kernel)
theorem dX11_want_10 : decode cX11_want 10 = .ok (.bipush 20, 2) := z_dd_16 (by decide +kernel)
set_option maxRecDepth 20000 in
theorem ggX11_want_X11_within : GoodIn wsX11_want wsX11_within := goodIn_sub (fa_c (me_s (me_l (me_l (List.mem_of_getElem? (i := 9) rfl)))) fa_n) (by decide +kernel)
set_option maxRecDepth 20000 in
theorem gX11_want_X11_within : GoodIn wsX11_want (va_wsS RX11 88 yX11_within wsX11_within) := goodIn_app (goodIn_sub (fa_c (me_s (me_l (me_l (List.mem_of_getElem? (i := 7) rfl)))) (fa_c (me_s (me_l (me_l (List.mem_of_getElem? (i := 8) rfl)))) (fa_c (me_s (me_l (me_l (List.mem_of_getElem? (i := 4) rfl)))) fa_n))) (by decide +kernel)) ggX11_want_X11_within
theorem dX11_want_12 : decode cX11_want 12 = .ok (.invokestatic 88, 3) := z_dd_184 (by decide +kernel)
theorem dX11_want_15 : decode cX11_want 15 = .ok (.ifCond .ne 5, 3) := z_dd_154 (by decide +kernel)
theorem dX11_want_20 : decode cX11_want 20 = .ok (.aload_n 0, 1) := z_dd_42 (by decide +kernel)
theorem dX11_want_21 : decode cX11_want 21 = .ok (.getfield 61, 3) := z_dd_180 (by decide +kernel)
theorem dX11_want_24 : decode cX11_want 24 = .ok (.iload_n 1, 1) := z_dd_27 (by decide +kernel)
theorem dX11_want_25 : decode cX11_want 25 = .ok (.iload_n 2, 1) := z_dd_28 (by decide +kernel)
set_option maxRecDepth 20000 in
theorem ggX11_want_X4_putWant : GoodIn wsX11_want wsX4_putWant := goodIn_sub (fa_c (me_s (me_l (me_l (List.mem_of_getElem? (i := 14) rfl)))) (fa_a (fa_c (me_s (me_l (me_l (List.mem_of_getElem? (i := 15) rfl)))) fa_n) (fun w h => (me_s (me_r h))))) (by decide +kernel)
set_option maxRecDepth 20000 in
theorem gX11_want_X4_putWant : GoodIn wsX11_want (wsV RX11 299 RX4 yX4_putWant wsX4_putWant) := goodIn_app (goodIn_sub (fa_c (me_s (me_l (me_l (List.mem_of_getElem? (i := 10) rfl)))) (fa_c (me_s (me_l (me_l (List.mem_of_getElem? (i := 11) rfl)))) (fa_c (me_s (me_l (me_l (List.mem_of_getElem? (i := 12) rfl)))) (fa_c (me_s (me_l (me_l (List.mem_of_getElem? (i := 13) rfl)))) fa_n)))) (by decide +kernel)) ggX11_want_X4_putWant
theorem dX11_want_26 : decode cX11_want 26 = .ok (.invokevirtual 299, 3) := z_dd_182 (by decide +kernel)
theorem dX11_want_29 : decode cX11_want 29 = .ok (.iconst 1, 1) := z_dd_4 (by decide +kernel)
theorem dX11_want_30 : decode cX11_want 30 = .ok (.ireturn, 1) := z_dd_172 (by decide +kernel)
theorem dX11_road_11 : decode cX11_road 11 = .ok (.aload_n 0, 1) := z_dd_42 (by decide +kernel)
theorem dX11_road_12 : decode cX11_road 12 = .ok (.iload_n 2, 1) := z_dd_28 (by decide +kernel)
set_option maxRecDepth 20000 in
theorem ggX11_road_X11_hasStation : GoodIn wsX11_road wsX11_hasStation := goodIn_sub (fa_c (me_s (me_l (me_l (List.mem_of_getElem? (i := 11) rfl)))) (fa_a (fa_c (me_s (me_l (me_l (List.mem_of_getElem? (i := 12) rfl)))) fa_n) (fun w h => (me_s (me_l (me_r h)))))) (by decide +kernel)
set_option maxRecDepth 20000 in
theorem gX11_road_X11_hasStation : GoodIn wsX11_road (wsV RX11 182 RX11 yX11_hasStation wsX11_hasStation) := goodIn_app (goodIn_sub (fa_c (me_s (me_l (me_l (List.mem_of_getElem? (i := 7) rfl)))) (fa_c (me_s (me_l (me_l (List.mem_of_getElem? (i := 8) rfl)))) (fa_c (me_s (me_l (me_l (List.mem_of_getElem? (i := 9) rfl)))) (fa_c (me_s (me_l (me_l (List.mem_of_getElem? (i := 10) rfl)))) fa_n)))) (by decide +kernel)) ggX11_road_X11_hasStation
theorem dX11_road_13 : decode cX11_road 13 = .ok (.invokevirtual 182, 3) := z_dd_182 (by decide +kernel)
theorem dX11_road_16 : decode cX11_road 16 = .ok (.ifCond .eq 14, 3) := z_dd_153 (by decide +kernel)
theorem dX11_road_19 : decode cX11_road 19 = .ok (.iload_n 3, 1) := z_dd_29 (by decide +kernel)
theorem dX11_road_20 : decode cX11_road 20 = .ok (.iconst 0, 1) := z_dd_3 (by decide +kernel)
theorem dX11_road_21 : decode cX11_road 21 = .ok (.sipush 999, 3) := z_dd_17 (by decide +kernel)
set_option maxRecDepth 20000 in
theorem ggX11_road_X11_within : GoodIn wsX11_road wsX11_within := goodIn_sub (fa_c (me_s (me_l (me_l (List.mem_of_getElem? (i := 15) rfl)))) fa_n) (by decide +kernel)
set_option maxRecDepth 20000 in
theorem gX11_road_X11_within : GoodIn wsX11_road (va_wsS RX11 88 yX11_within wsX11_within) := goodIn_app (goodIn_sub (fa_c (me_s (me_l (me_l (List.mem_of_getElem? (i := 13) rfl)))) (fa_c (me_s (me_l (me_l (List.mem_of_getElem? (i := 14) rfl)))) (fa_c (me_s (me_l (me_l (List.mem_of_getElem? (i := 10) rfl)))) fa_n))) (by decide +kernel)) ggX11_road_X11_within
theorem dX11_road_24 : decode cX11_road 24 = .ok (.invokestatic 88, 3) := z_dd_184 (by decide +kernel)
theorem dX11_road_27 : decode cX11_road 27 = .ok (.ifCond .ne 5, 3) := z_dd_154 (by decide +kernel)
theorem dX11_road_32 : decode cX11_road 32 = .ok (.aload_n 0, 1) := z_dd_42 (by decide +kernel)
theorem dX11_road_33 : decode cX11_road 33 = .ok (.getfield 61, 3) := z_dd_180 (by decide +kernel)
theorem dX11_road_36 : decode cX11_road 36 = .ok (.iload_n 1, 1) := z_dd_27 (by decide +kernel)
theorem dX11_road_37 : decode cX11_road 37 = .ok (.iload_n 2, 1) := z_dd_28 (by decide +kernel)
theorem dX11_road_38 : decode cX11_road 38 = .ok (.iload_n 3, 1) := z_dd_29 (by decide +kernel)
set_option maxRecDepth 20000 in
theorem ggX11_road_X4_putRoad : GoodIn wsX11_road wsX4_putRoad := goodIn_sub (fa_c (me_s (me_l (me_l (List.mem_of_getElem? (i := 19) rfl)))) (fa_a (fa_c (me_s (me_l (me_l (List.mem_of_getElem? (i := 20) rfl)))) (fa_c (me_s (me_l (me_l (List.mem_of_getElem? (i := 21) rfl)))) (fa_c (me_s (me_l (me_l (List.mem_of_getElem? (i := 2) rfl)))) (fa_c (me_s (me_l (me_l (List.mem_of_getElem? (i := 3) rfl)))) (fa_c (me_s (me_l (me_l (List.mem_of_getElem? (i := 4) rfl)))) (fa_c (me_s (me_l (me_l (List.mem_of_getElem? (i := 5) rfl)))) (fa_c (me_s (me_l (me_l (List.mem_of_getElem? (i := 6) rfl)))) fa_n))))))) (fun w h => (me_s (me_r h))))) (by decide +kernel)
set_option maxRecDepth 20000 in
theorem gX11_road_X4_putRoad : GoodIn wsX11_road (wsV RX11 306 RX4 yX4_putRoad wsX4_putRoad) := goodIn_app (goodIn_sub (fa_c (me_s (me_l (me_l (List.mem_of_getElem? (i := 16) rfl)))) (fa_c (me_s (me_l (me_l (List.mem_of_getElem? (i := 17) rfl)))) (fa_c (me_s (me_l (me_l (List.mem_of_getElem? (i := 18) rfl)))) (fa_c (me_s (me_l (me_l (List.mem_of_getElem? (i := 4) rfl)))) fa_n)))) (by decide +kernel)) ggX11_road_X4_putRoad
theorem dX11_road_39 : decode cX11_road 39 = .ok (.invokevirtual 306, 3) := z_dd_182 (by decide +kernel)
theorem dX11_road_42 : decode cX11_road 42 = .ok (.iconst 1, 1) := z_dd_4 (by decide +kernel)
theorem dX11_road_43 : decode cX11_road 43 = .ok (.ireturn, 1) := z_dd_172 (by decide +kernel)
theorem dX11_flow_0 : decode cX11_flow 0 = .ok (.iload_n 2, 1) := z_dd_28 (by decide +kernel)
theorem dX11_flow_1 : decode cX11_flow 1 = .ok (.iconst 0, 1) := z_dd_3 (by decide +kernel)
theorem dX11_flow_2 : decode cX11_flow 2 = .ok (.iconst 1, 1) := z_dd_4 (by decide +kernel)
set_option maxRecDepth 20000 in
theorem ggX11_flow_X11_within : GoodIn wsX11_flow wsX11_within := goodIn_sub (fa_c (me_s (me_l (me_l (me_l (List.mem_of_getElem? (i := 6) rfl))))) fa_n) (by decide +kernel)
set_option maxRecDepth 20000 in
theorem gX11_flow_X11_within : GoodIn wsX11_flow (va_wsS RX11 88 yX11_within wsX11_within) := goodIn_app (goodIn_sub (fa_c (me_s (me_l (me_l (me_l (List.mem_of_getElem? (i := 3) rfl))))) (fa_c (me_s (me_l (me_l (me_l (List.mem_of_getElem? (i := 4) rfl))))) (fa_c (me_s (me_l (me_l (me_l (List.mem_of_getElem? (i := 5) rfl))))) fa_n))) (by decide +kernel)) ggX11_flow_X11_within
theorem dX11_flow_3 : decode cX11_flow 3 = .ok (.invokestatic 88, 3) := z_dd_184 (by decide +kernel)
theorem dX11_flow_6 : decode cX11_flow 6 = .ok (.ifCond .eq 19, 3) := z_dd_153 (by decide +kernel)
theorem dX11_flow_9 : decode cX11_flow 9 = .ok (.iload_n 1, 1) := z_dd_27 (by decide +kernel)
theorem dX11_flow_10 : decode cX11_flow 10 = .ok (.iconst (-1), 1) := z_dd_2 (by decide +kernel)
theorem dX11_flow_11 : decode cX11_flow 11 = .ok (.if_icmp .eq 16, 3) := z_dd_159 (by decide +kernel)
theorem dX11_flow_27 : decode cX11_flow 27 = .ok (.aload_n 0, 1) := z_dd_42 (by decide +kernel)
theorem dX11_flow_28 : decode cX11_flow 28 = .ok (.getfield 61, 3) := z_dd_180 (by decide +kernel)
theorem dX11_flow_31 : decode cX11_flow 31 = .ok (.iload_n 1, 1) := z_dd_27 (by decide +kernel)
set_option maxRecDepth 20000 in
theorem ggX11_flow_X4_send : GoodIn wsX11_flow wsX4_send := goodIn_sub (fa_c (me_s (me_l (me_l (me_l (List.mem_of_getElem? (i := 16) rfl))))) (fa_a (fa_a (fa_c (me_s (me_l (me_l (me_l (List.mem_of_getElem? (i := 17) rfl))))) (fa_c (me_s (me_l (me_l (me_l (List.mem_of_getElem? (i := 18) rfl))))) (fa_c (me_s (me_l (me_l (me_l (List.mem_of_getElem? (i := 19) rfl))))) (fa_c (me_s (me_l (me_l (me_l (List.mem_of_getElem? (i := 20) rfl))))) (fa_c (me_s (me_l (me_l (me_l (List.mem_of_getElem? (i := 21) rfl))))) (fa_c (me_s (me_l (me_l (me_l (List.mem_of_getElem? (i := 22) rfl))))) (fa_c (me_s (me_l (me_l (me_l (List.mem_of_getElem? (i := 23) rfl))))) (fa_c (me_s (me_l (me_l (me_r (me_l (List.mem_of_getElem? (i := 0) rfl)))))) (fa_c (me_s (me_l (me_l (me_r (me_l (List.mem_of_getElem? (i := 1) rfl)))))) (fa_c (me_s (me_l (me_l (me_r (me_l (List.mem_of_getElem? (i := 2) rfl)))))) (fa_c (me_s (me_l (me_l (me_r (me_l (List.mem_of_getElem? (i := 3) rfl)))))) (fa_c (me_s (me_l (me_l (me_r (me_l (List.mem_of_getElem? (i := 4) rfl)))))) (fa_c (me_s (me_l (me_l (me_r (me_l (List.mem_of_getElem? (i := 5) rfl)))))) (fa_c (me_s (me_l (me_l (me_r (me_l (List.mem_of_getElem? (i := 6) rfl)))))) (fa_c (me_s (me_l (me_l (me_l (List.mem_of_getElem? (i := 10) rfl))))) (fa_c (me_s (me_l (me_l (me_r (me_l (List.mem_of_getElem? (i := 7) rfl)))))) (fa_c (me_s (me_l (me_l (me_r (me_l (List.mem_of_getElem? (i := 8) rfl)))))) (fa_c (me_s (me_l (me_l (me_r (me_l (List.mem_of_getElem? (i := 9) rfl)))))) (fa_c (me_s (me_l (me_l (me_r (me_l (List.mem_of_getElem? (i := 10) rfl)))))) (fa_c (me_s (me_l (me_l (me_r (me_l (List.mem_of_getElem? (i := 11) rfl)))))) (fa_c (me_s (me_l (me_l (me_r (me_l (List.mem_of_getElem? (i := 12) rfl)))))) (fa_c (me_s (me_l (me_l (me_r (me_l (List.mem_of_getElem? (i := 13) rfl)))))) (fa_c (me_s (me_l (me_l (me_r (me_l (List.mem_of_getElem? (i := 14) rfl)))))) (fa_c (me_s (me_l (me_l (me_r (me_l (List.mem_of_getElem? (i := 15) rfl)))))) fa_n)))))))))))))))))))))))) (fa_c (me_s (me_l (me_l (me_r (me_l (List.mem_of_getElem? (i := 16) rfl)))))) (fa_c (me_s (me_l (me_l (me_r (me_l (List.mem_of_getElem? (i := 17) rfl)))))) (fa_c (me_s (me_l (me_l (me_r (me_l (List.mem_of_getElem? (i := 18) rfl)))))) (fa_c (me_s (me_l (me_l (me_r (me_l (List.mem_of_getElem? (i := 19) rfl)))))) (fa_c (me_s (me_l (me_l (me_r (me_l (List.mem_of_getElem? (i := 20) rfl)))))) (fa_c (me_s (me_l (me_l (me_r (me_l (List.mem_of_getElem? (i := 21) rfl)))))) (fa_c (me_s (me_l (me_l (me_r (me_l (List.mem_of_getElem? (i := 22) rfl)))))) (fa_c (me_s (me_l (me_l (me_r (me_l (List.mem_of_getElem? (i := 23) rfl)))))) (fa_c (me_s (me_l (me_l (me_r (me_r (List.mem_of_getElem? (i := 0) rfl)))))) (fa_c (me_s (me_l (me_l (me_r (me_r (List.mem_of_getElem? (i := 1) rfl)))))) (fa_c (me_s (me_l (me_l (me_r (me_r (List.mem_of_getElem? (i := 2) rfl)))))) (fa_c (me_s (me_l (me_l (me_r (me_r (List.mem_of_getElem? (i := 3) rfl)))))) (fa_c (me_s (me_l (me_l (me_r (me_r (List.mem_of_getElem? (i := 4) rfl)))))) (fa_c (me_s (me_l (me_l (me_r (me_r (List.mem_of_getElem? (i := 5) rfl)))))) (fa_c (me_s (me_l (me_l (me_r (me_r (List.mem_of_getElem? (i := 6) rfl)))))) (fa_c (me_s (me_l (me_l (me_r (me_r (List.mem_of_getElem? (i := 7) rfl)))))) (fa_c (me_s (me_l (me_l (me_r (me_r (List.mem_of_getElem? (i := 8) rfl)))))) (fa_c (me_s (me_l (me_l (me_r (me_r (List.mem_of_getElem? (i := 9) rfl)))))) (fa_c (me_s (me_l (me_l (me_r (me_r (List.mem_of_getElem? (i := 10) rfl)))))) (fa_c (me_s (me_l (me_l (me_r (me_r (List.mem_of_getElem? (i := 11) rfl)))))) fa_n))))))))))))))))))))) (fun w h => (me_s (me_r h))))) (by decide +kernel)
set_option maxRecDepth 20000 in
theorem gX11_flow_X4_send : GoodIn wsX11_flow (wsV RX11 310 RX4 yX4_send wsX4_send) := goodIn_app (goodIn_sub (fa_c (me_s (me_l (me_l (me_l (List.mem_of_getElem? (i := 13) rfl))))) (fa_c (me_s (me_l (me_l (me_l (List.mem_of_getElem? (i := 14) rfl))))) (fa_c (me_s (me_l (me_l (me_l (List.mem_of_getElem? (i := 15) rfl))))) (fa_c (me_s (me_l (me_l (me_l (List.mem_of_getElem? (i := 10) rfl))))) fa_n)))) (by decide +kernel)) ggX11_flow_X4_send
theorem dX11_flow_32 : decode cX11_flow 32 = .ok (.invokevirtual 310, 3) := z_dd_182 (by decide +kernel)
theorem dX11_flow_35 : decode cX11_flow 35 = .ok (.iload_n 2, 1) := z_dd_28 (by decide +kernel)
theorem dX11_flow_36 : decode cX11_flow 36 = .ok (.ifCond .ne 13, 3) := z_dd_154 (by decide +kernel)
theorem dX11_flow_49 : decode cX11_flow 49 = .ok (.aload_n 0, 1) := z_dd_42 (by decide +kernel)
theorem dX11_flow_50 : decode cX11_flow 50 = .ok (.getfield 61, 3) := z_dd_180 (by decide +kernel)
theorem dX11_flow_53 : decode cX11_flow 53 = .ok (.getfield 316, 3) := z_dd_180 (by decide +kernel)
theorem dX11_flow_56 : decode cX11_flow 56 = .ok (.ireturn, 1) := z_dd_172 (by decide +kernel)
theorem dX11_flow_39 : decode cX11_flow 39 = .ok (.aload_n 0, 1) := z_dd_42 (by decide +kernel)
theorem dX11_flow_40 : decode cX11_flow 40 = .ok (.getfield 61, 3) := z_dd_180 (by decide +kernel)
theorem dX11_flow_43 : decode cX11_flow 43 = .ok (.getfield 313, 3) := z_dd_180 (by decide +kernel)
theorem dX11_flow_46 : decode cX11_flow 46 = .ok (.goto 10, 3) := z_dd_167 (by decide +kernel)
theorem dX11_flow_14 : decode cX11_flow 14 = .ok (.aload_n 0, 1) := z_dd_42 (by decide +kernel)
theorem dX11_flow_15 : decode cX11_flow 15 = .ok (.getfield 61, 3) := z_dd_180 (by decide +kernel)
theorem dX11_flow_18 : decode cX11_flow 18 = .ok (.iload_n 1, 1) := z_dd_27 (by decide +kernel)
set_option maxRecDepth 20000 in
theorem ggX11_flow_X4_hasPort : GoodIn wsX11_flow wsX4_hasPort := goodIn_sub (fa_c (me_s (me_l (me_l (me_l (List.mem_of_getElem? (i := 11) rfl))))) (fa_a (fa_c (me_s (me_l (me_l (me_l (List.mem_of_getElem? (i := 12) rfl))))) fa_n) (fun w h => (me_s (me_r h))))) (by decide +kernel)
set_option maxRecDepth 20000 in
theorem gX11_flow_X4_hasPort : GoodIn wsX11_flow (wsV RX11 303 RX4 yX4_hasPort wsX4_hasPort) := goodIn_app (goodIn_sub (fa_c (me_s (me_l (me_l (me_l (List.mem_of_getElem? (i := 7) rfl))))) (fa_c (me_s (me_l (me_l (me_l (List.mem_of_getElem? (i := 8) rfl))))) (fa_c (me_s (me_l (me_l (me_l (List.mem_of_getElem? (i := 9) rfl))))) (fa_c (me_s (me_l (me_l (me_l (List.mem_of_getElem? (i := 10) rfl))))) fa_n)))) (by decide +kernel)) ggX11_flow_X4_hasPort
theorem dX11_flow_19 : decode cX11_flow 19 = .ok (.invokevirtual 303, 3) := z_dd_182 (by decide +kernel)
theorem dX11_flow_22 : decode cX11_flow 22 = .ok (.ifCond .ne 5, 3) := z_dd_154 (by decide +kernel)
theorem dX11_flow_25 : decode cX11_flow 25 = .ok (.iconst (-1), 1) := z_dd_2 (by decide +kernel)
theorem dX11_flow_26 : decode cX11_flow 26 = .ok (.ireturn, 1) := z_dd_172 (by decide +kernel)
theorem dX11_ask_11 : decode cX11_ask 11 = .ok (.iload_n 2, 1) := z_dd_28 (by decide +kernel)
theorem dX11_ask_12 : decode cX11_ask 12 = .ok (.iconst 1, 1) := z_dd_4 (by decide +kernel)
theorem dX11_ask_13 : decode cX11_ask 13 = .ok (.sipush 500, 3) := z_dd_17 (by decide +kernel)
set_option maxRecDepth 20000 in
theorem ggX11_ask_X11_within : GoodIn wsX11_ask wsX11_within := goodIn_sub (fa_c (me_s (me_l (me_l (me_l (me_l (me_l (me_l (me_l (List.mem_of_getElem? (i := 16) rfl))))))))) fa_n) (by decide +kernel)
set_option maxRecDepth 20000 in
theorem gX11_ask_X11_within : GoodIn wsX11_ask (va_wsS RX11 88 yX11_within wsX11_within) := goodIn_app (goodIn_sub (fa_c (me_s (me_l (me_l (me_l (me_l (me_l (me_l (me_l (List.mem_of_getElem? (i := 13) rfl))))))))) (fa_c (me_s (me_l (me_l (me_l (me_l (me_l (me_l (me_l (List.mem_of_getElem? (i := 14) rfl))))))))) (fa_c (me_s (me_l (me_l (me_l (me_l (me_l (me_l (me_l (List.mem_of_getElem? (i := 15) rfl))))))))) fa_n))) (by decide +kernel)) ggX11_ask_X11_within
theorem dX11_ask_16 : decode cX11_ask 16 = .ok (.invokestatic 88, 3) := z_dd_184 (by decide +kernel)
theorem dX11_ask_19 : decode cX11_ask 19 = .ok (.ifCond .eq 13, 3) := z_dd_153 (by decide +kernel)
theorem dX11_ask_22 : decode cX11_ask 22 = .ok (.iload_n 3, 1) := z_dd_29 (by decide +kernel)
theorem dX11_ask_23 : decode cX11_ask 23 = .ok (.iconst 1, 1) := z_dd_4 (by decide +kernel)
theorem dX11_ask_24 : decode cX11_ask 24 = .ok (.bipush 8, 2) := z_dd_16 (by decide +kernel)
theorem dX11_ask_26 : decode cX11_ask 26 = .ok (.invokestatic 88, 3) := z_dd_184 (by decide +kernel)
theorem dX11_ask_29 : decode cX11_ask 29 = .ok (.ifCond .ne 5, 3) := z_dd_154 (by decide +kernel)
theorem dX11_ask_34 : decode cX11_ask 34 = .ok (.iload 4, 2) := z_dd_21 (by decide +kernel)
set_option maxRecDepth 20000 in
theorem ggX11_ask_X11_isReason : GoodIn wsX11_ask wsX11_isReason := goodIn_sub (fa_c (me_s (me_l (me_l (me_l (me_l (me_l (me_l (me_l (List.mem_of_getElem? (i := 19) rfl))))))))) (fa_c (me_s (me_l (me_l (me_l (me_l (me_l (me_l (me_l (List.mem_of_getElem? (i := 13) rfl))))))))) (fa_c (me_s (me_l (me_l (me_l (me_l (me_l (me_l (me_l (List.mem_of_getElem? (i := 14) rfl))))))))) (fa_c (me_s (me_l (me_l (me_l (me_l (me_l (me_l (me_l (List.mem_of_getElem? (i := 15) rfl))))))))) (fa_c (me_s (me_l (me_l (me_l (me_l (me_l (me_l (me_l (List.mem_of_getElem? (i := 16) rfl))))))))) fa_n))))) (by decide +kernel)
set_option maxRecDepth 20000 in
theorem gX11_ask_X11_isReason : GoodIn wsX11_ask (va_wsS RX11 319 yX11_isReason wsX11_isReason) := goodIn_app (goodIn_sub (fa_c (me_s (me_l (me_l (me_l (me_l (me_l (me_l (me_l (List.mem_of_getElem? (i := 17) rfl))))))))) (fa_c (me_s (me_l (me_l (me_l (me_l (me_l (me_l (me_l (List.mem_of_getElem? (i := 18) rfl))))))))) (fa_c (me_s (me_l (me_l (me_l (me_l (me_l (me_l (me_l (List.mem_of_getElem? (i := 15) rfl))))))))) fa_n))) (by decide +kernel)) ggX11_ask_X11_isReason
theorem dX11_ask_36 : decode cX11_ask 36 = .ok (.invokestatic 319, 3) := z_dd_184 (by decide +kernel)
theorem dX11_ask_39 : decode cX11_ask 39 = .ok (.ifCond .eq 26, 3) := z_dd_153 (by decide +kernel)
theorem dX11_ask_42 : decode cX11_ask 42 = .ok (.iload 5, 2) := z_dd_21 (by decide +kernel)
theorem dX11_ask_44 : decode cX11_ask 44 = .ok (.aload_n 0, 1) := z_dd_42 (by decide +kernel)
theorem dX11_ask_45 : decode cX11_ask 45 = .ok (.getfield 85, 3) := z_dd_180 (by decide +kernel)
theorem dX11_ask_48 : decode cX11_ask 48 = .ok (.sipush 719, 3) := z_dd_17 (by decide +kernel)
theorem dX11_ask_51 : decode cX11_ask 51 = .ok (.invokestatic 88, 3) := z_dd_184 (by decide +kernel)
theorem dX11_ask_54 : decode cX11_ask 54 = .ok (.ifCond .eq 11, 3) := z_dd_153 (by decide +kernel)
theorem dX11_ask_57 : decode cX11_ask 57 = .ok (.iload 6, 2) := z_dd_21 (by decide +kernel)
set_option maxRecDepth 20000 in
theorem ggX11_ask_X11_isWay : GoodIn wsX11_ask wsX11_isWay := goodIn_sub (fa_c (me_s (me_l (me_l (me_l (me_l (me_l (me_l (me_l (List.mem_of_getElem? (i := 22) rfl))))))))) (fa_c (me_s (me_l (me_l (me_l (me_l (me_l (me_l (me_l (List.mem_of_getElem? (i := 13) rfl))))))))) (fa_c (me_s (me_l (me_l (me_l (me_l (me_l (me_l (me_l (List.mem_of_getElem? (i := 14) rfl))))))))) (fa_c (me_s (me_l (me_l (me_l (me_l (me_l (me_l (me_l (List.mem_of_getElem? (i := 15) rfl))))))))) (fa_c (me_s (me_l (me_l (me_l (me_l (me_l (me_l (me_l (List.mem_of_getElem? (i := 16) rfl))))))))) fa_n))))) (by decide +kernel)
set_option maxRecDepth 20000 in
theorem gX11_ask_X11_isWay : GoodIn wsX11_ask (va_wsS RX11 322 yX11_isWay wsX11_isWay) := goodIn_app (goodIn_sub (fa_c (me_s (me_l (me_l (me_l (me_l (me_l (me_l (me_l (List.mem_of_getElem? (i := 20) rfl))))))))) (fa_c (me_s (me_l (me_l (me_l (me_l (me_l (me_l (me_l (List.mem_of_getElem? (i := 21) rfl))))))))) (fa_c (me_s (me_l (me_l (me_l (me_l (me_l (me_l (me_l (List.mem_of_getElem? (i := 15) rfl))))))))) fa_n))) (by decide +kernel)) ggX11_ask_X11_isWay
theorem dX11_ask_59 : decode cX11_ask 59 = .ok (.invokestatic 322, 3) := z_dd_184 (by decide +kernel)
theorem dX11_ask_62 : decode cX11_ask 62 = .ok (.ifCond .ne 5, 3) := z_dd_154 (by decide +kernel)
theorem dX11_ask_67 : decode cX11_ask 67 = .ok (.aload_n 0, 1) := z_dd_42 (by decide +kernel)
theorem dX11_ask_68 : decode cX11_ask 68 = .ok (.getfield 68, 3) := z_dd_180 (by decide +kernel)
theorem dX11_ask_71 : decode cX11_ask 71 = .ok (.iload_n 1, 1) := z_dd_27 (by decide +kernel)
theorem dX11_ask_72 : decode cX11_ask 72 = .ok (.iload_n 2, 1) := z_dd_28 (by decide +kernel)
theorem dX11_ask_73 : decode cX11_ask 73 = .ok (.iload_n 3, 1) := z_dd_29 (by decide +kernel)
theorem dX11_ask_74 : decode cX11_ask 74 = .ok (.iload 4, 2) := z_dd_21 (by decide +kernel)
theorem dX11_ask_76 : decode cX11_ask 76 = .ok (.iload 5, 2) := z_dd_21 (by decide +kernel)
theorem dX11_ask_78 : decode cX11_ask 78 = .ok (.iload 6, 2) := z_dd_21 (by decide +kernel)
set_option maxRecDepth 20000 in
theorem ggX11_ask_X3_add : GoodIn wsX11_ask wsX3_add := goodIn_sub (fa_c (me_s (me_l (me_l (me_l (me_l (me_l (me_l (me_r (me_l (List.mem_of_getElem? (i := 3) rfl)))))))))) (fa_a (fa_c (me_s (me_l (me_l (me_l (me_l (me_l (me_l (me_r (me_l (List.mem_of_getElem? (i := 4) rfl)))))))))) (fa_c (me_s (me_l (me_l (me_l (me_l (me_l (me_l (me_r (me_l (List.mem_of_getElem? (i := 5) rfl)))))))))) (fa_c (me_s (me_l (me_l (me_l (me_l (me_l (me_l (me_r (me_l (List.mem_of_getElem? (i := 6) rfl)))))))))) (fa_c (me_s (me_l (me_l (me_l (me_l (me_l (me_l (me_r (me_l (List.mem_of_getElem? (i := 7) rfl)))))))))) (fa_c (me_s (me_l (me_l (me_l (me_l (me_l (me_l (me_r (me_l (List.mem_of_getElem? (i := 8) rfl)))))))))) (fa_c (me_s (me_l (me_l (me_l (me_l (me_l (me_l (me_r (me_l (List.mem_of_getElem? (i := 9) rfl)))))))))) (fa_c (me_s (me_l (me_l (me_l (me_l (me_l (me_l (me_r (me_l (List.mem_of_getElem? (i := 10) rfl)))))))))) fa_n))))))) (fun w h => (me_s (me_l (me_l (me_l (me_l (me_r h))))))))) (by decide +kernel)
set_option maxRecDepth 20000 in
theorem gX11_ask_X3_add : GoodIn wsX11_ask (wsV RX11 325 RX3 yX3_add wsX3_add) := goodIn_app (goodIn_sub (fa_c (me_s (me_l (me_l (me_l (me_l (me_l (me_l (me_l (List.mem_of_getElem? (i := 23) rfl))))))))) (fa_c (me_s (me_l (me_l (me_l (me_l (me_l (me_l (me_r (me_l (List.mem_of_getElem? (i := 0) rfl)))))))))) (fa_c (me_s (me_l (me_l (me_l (me_l (me_l (me_l (me_r (me_l (List.mem_of_getElem? (i := 1) rfl)))))))))) (fa_c (me_s (me_l (me_l (me_l (me_l (me_l (me_l (me_r (me_l (List.mem_of_getElem? (i := 2) rfl)))))))))) fa_n)))) (by decide +kernel)) ggX11_ask_X3_add
theorem dX11_ask_80 : decode cX11_ask 80 = .ok (.invokevirtual 325, 3) := z_dd_182 (by decide +kernel)
theorem dX11_ask_83 : decode cX11_ask 83 = .ok (.istore 7, 2) := z_dd_54 (by decide +kernel)
theorem dX11_ask_85 : decode cX11_ask 85 = .ok (.aload_n 0, 1) := z_dd_42 (by decide +kernel)
theorem dX11_ask_86 : decode cX11_ask 86 = .ok (.getfield 68, 3) := z_dd_180 (by decide +kernel)
theorem dX11_ask_89 : decode cX11_ask 89 = .ok (.iload 7, 2) := z_dd_21 (by decide +kernel)
set_option maxRecDepth 20000 in
theorem ggX11_ask_X3_has : GoodIn wsX11_ask wsX3_has := goodIn_sub (fa_c (me_s (me_l (me_l (me_l (me_l (me_l (me_l (me_r (me_l (List.mem_of_getElem? (i := 14) rfl)))))))))) (fa_a (fa_c (me_s (me_l (me_l (me_l (me_l (me_l (me_l (me_r (me_l (List.mem_of_getElem? (i := 4) rfl)))))))))) fa_n) (fun w h => (me_s (me_l (me_l (me_l (me_l (me_r h))))))))) (by decide +kernel)
set_option maxRecDepth 20000 in
theorem gX11_ask_X3_has : GoodIn wsX11_ask (wsV RX11 328 RX3 yX3_has wsX3_has) := goodIn_app (goodIn_sub (fa_c (me_s (me_l (me_l (me_l (me_l (me_l (me_l (me_r (me_l (List.mem_of_getElem? (i := 11) rfl)))))))))) (fa_c (me_s (me_l (me_l (me_l (me_l (me_l (me_l (me_r (me_l (List.mem_of_getElem? (i := 12) rfl)))))))))) (fa_c (me_s (me_l (me_l (me_l (me_l (me_l (me_l (me_r (me_l (List.mem_of_getElem? (i := 13) rfl)))))))))) (fa_c (me_s (me_l (me_l (me_l (me_l (me_l (me_l (me_r (me_l (List.mem_of_getElem? (i := 2) rfl)))))))))) fa_n)))) (by decide +kernel)) ggX11_ask_X3_has
theorem dX11_ask_91 : decode cX11_ask 91 = .ok (.invokevirtual 328, 3) := z_dd_182 (by decide +kernel)
theorem dX11_ask_94 : decode cX11_ask 94 = .ok (.ifCond .eq 64, 3) := z_dd_153 (by decide +kernel)
theorem dX11_ask_97 : decode cX11_ask 97 = .ok (.aload_n 0, 1) := z_dd_42 (by decide +kernel)
theorem dX11_ask_98 : decode cX11_ask 98 = .ok (.getfield 68, 3) := z_dd_180 (by decide +kernel)
theorem dX11_ask_101 : decode cX11_ask 101 = .ok (.getfield 329, 3) := z_dd_180 (by decide +kernel)
theorem dX11_ask_104 : decode cX11_ask 104 = .ok (.iload 7, 2) := z_dd_21 (by decide +kernel)
theorem dX11_ask_106 : decode cX11_ask 106 = .ok (.aload_n 0, 1) := z_dd_42 (by decide +kernel)
theorem dX11_ask_107 : decode cX11_ask 107 = .ok (.getfield 85, 3) := z_dd_180 (by decide +kernel)
theorem dX11_ask_110 : decode cX11_ask 110 = .ok (.iastore, 1) := z_dd_79 (by decide +kernel)
theorem dX11_ask_111 : decode cX11_ask 111 = .ok (.aload_n 0, 1) := z_dd_42 (by decide +kernel)
theorem dX11_ask_112 : decode cX11_ask 112 = .ok (.getfield 68, 3) := z_dd_180 (by decide +kernel)
theorem dX11_ask_115 : decode cX11_ask 115 = .ok (.getfield 332, 3) := z_dd_180 (by decide +kernel)
theorem dX11_ask_118 : decode cX11_ask 118 = .ok (.iload 7, 2) := z_dd_21 (by decide +kernel)
theorem dX11_ask_120 : decode cX11_ask 120 = .ok (.aload_n 0, 1) := z_dd_42 (by decide +kernel)
theorem dX11_ask_121 : decode cX11_ask 121 = .ok (.getfield 30, 3) := z_dd_180 (by decide +kernel)
theorem dX11_ask_124 : decode cX11_ask 124 = .ok (.aload_n 0, 1) := z_dd_42 (by decide +kernel)
theorem dX11_ask_125 : decode cX11_ask 125 = .ok (.getfield 16, 3) := z_dd_180 (by decide +kernel)
theorem dX11_ask_128 : decode cX11_ask 128 = .ok (.aload_n 0, 1) := z_dd_42 (by decide +kernel)
theorem dX11_ask_129 : decode cX11_ask 129 = .ok (.getfield 68, 3) := z_dd_180 (by decide +kernel)
theorem dX11_ask_132 : decode cX11_ask 132 = .ok (.iload 7, 2) := z_dd_21 (by decide +kernel)
set_option maxRecDepth 20000 in
theorem ggX11_ask_X6_grant : GoodIn wsX11_ask wsX6_grant := goodIn_sub (fa_c (me_s (me_l (me_l (me_l (me_l (me_l (me_l (me_r (me_l (List.mem_of_getElem? (i := 19) rfl)))))))))) (fa_a (fa_a (fa_a (fa_a (fa_a (fa_a (fa_c (me_s (me_l (me_l (me_l (me_l (me_l (me_l (me_r (me_l (List.mem_of_getElem? (i := 20) rfl)))))))))) (fa_c (me_s (me_l (me_l (me_l (me_l (me_l (me_l (me_r (me_l (List.mem_of_getElem? (i := 21) rfl)))))))))) (fa_c (me_s (me_l (me_l (me_l (me_l (me_l (me_l (me_r (me_l (List.mem_of_getElem? (i := 22) rfl)))))))))) (fa_c (me_s (me_l (me_l (me_l (me_l (me_l (me_l (me_r (me_l (List.mem_of_getElem? (i := 23) rfl)))))))))) (fa_c (me_s (me_l (me_l (me_l (me_l (me_l (me_l (me_r (me_r (me_l (List.mem_of_getElem? (i := 0) rfl))))))))))) (fa_c (me_s (me_l (me_l (me_l (me_l (me_l (me_l (me_r (me_r (me_l (List.mem_of_getElem? (i := 1) rfl))))))))))) (fa_c (me_s (me_l (me_l (me_l (me_l (me_l (me_l (me_r (me_r (me_l (List.mem_of_getElem? (i := 2) rfl))))))))))) (fa_c (me_s (me_l (me_l (me_l (me_l (me_l (me_l (me_r (me_r (me_l (List.mem_of_getElem? (i := 3) rfl))))))))))) (fa_c (me_s (me_l (me_l (me_l (me_l (me_l (me_l (me_r (me_l (List.mem_of_getElem? (i := 12) rfl)))))))))) (fa_c (me_s (me_l (me_l (me_l (me_l (me_l (me_l (me_r (me_l (List.mem_of_getElem? (i := 13) rfl)))))))))) (fa_c (me_s (me_l (me_l (me_l (me_l (me_l (me_l (me_r (me_l (List.mem_of_getElem? (i := 2) rfl)))))))))) (fa_c (me_s (me_l (me_l (me_l (me_l (me_l (me_l (me_r (me_l (List.mem_of_getElem? (i := 14) rfl)))))))))) (fa_c (me_s (me_l (me_l (me_l (me_l (me_l (me_l (me_r (me_l (List.mem_of_getElem? (i := 4) rfl)))))))))) (fa_c (me_s (me_l (me_l (me_l (me_l (me_l (me_l (me_r (me_r (me_l (List.mem_of_getElem? (i := 4) rfl))))))))))) (fa_c (me_s (me_l (me_l (me_l (me_l (me_l (me_l (me_r (me_r (me_l (List.mem_of_getElem? (i := 5) rfl))))))))))) (fa_c (me_s (me_l (me_l (me_l (me_l (me_l (me_l (me_r (me_r (me_l (List.mem_of_getElem? (i := 6) rfl))))))))))) (fa_c (me_s (me_l (me_l (me_l (me_l (me_l (me_l (me_r (me_l (List.mem_of_getElem? (i := 18) rfl)))))))))) (fa_c (me_s (me_l (me_l (me_l (me_l (me_l (me_l (me_r (me_r (me_l (List.mem_of_getElem? (i := 7) rfl))))))))))) (fa_c (me_s (me_l (me_l (me_l (me_l (me_l (me_l (me_r (me_r (me_l (List.mem_of_getElem? (i := 8) rfl))))))))))) (fa_c (me_s (me_l (me_l (me_l (me_l (me_l (me_l (me_r (me_r (me_l (List.mem_of_getElem? (i := 9) rfl))))))))))) (fa_c (me_s (me_l (me_l (me_l (me_l (me_l (me_l (me_r (me_r (me_l (List.mem_of_getElem? (i := 10) rfl))))))))))) (fa_c (me_s (me_l (me_l (me_l (me_l (me_l (me_l (me_r (me_r (me_l (List.mem_of_getElem? (i := 11) rfl))))))))))) (fa_c (me_s (me_l (me_l (me_l (me_l (me_l (me_l (me_r (me_r (me_l (List.mem_of_getElem? (i := 12) rfl))))))))))) (fa_c (me_s (me_l (me_l (me_l (me_l (me_l (me_l (me_r (me_r (me_l (List.mem_of_getElem? (i := 13) rfl))))))))))) fa_n)))))))))))))))))))))))) (fa_a (fa_c (me_s (me_l (me_l (me_l (me_l (me_l (me_l (me_r (me_r (me_l (List.mem_of_getElem? (i := 14) rfl))))))))))) (fa_c (me_s (me_l (me_l (me_l (me_l (me_l (me_l (me_r (me_r (me_l (List.mem_of_getElem? (i := 15) rfl))))))))))) (fa_c (me_s (me_l (me_l (me_l (me_l (me_l (me_l (me_r (me_r (me_l (List.mem_of_getElem? (i := 16) rfl))))))))))) (fa_c (me_s (me_l (me_l (me_l (me_l (me_l (me_l (me_l (List.mem_of_getElem? (i := 8) rfl))))))))) (fa_c (me_s (me_l (me_l (me_l (me_l (me_l (me_l (me_l (List.mem_of_getElem? (i := 9) rfl))))))))) (fa_c (me_s (me_l (me_l (me_l (me_l (me_l (me_l (me_l (List.mem_of_getElem? (i := 10) rfl))))))))) (fa_c (me_s (me_l (me_l (me_l (me_l (me_l (me_l (me_l (List.mem_of_getElem? (i := 11) rfl))))))))) (fa_c (me_s (me_l (me_l (me_l (me_l (me_l (me_l (me_l (List.mem_of_getElem? (i := 12) rfl))))))))) (fa_c (me_s (me_l (me_l (me_l (me_l (me_l (me_l (me_r (me_r (me_l (List.mem_of_getElem? (i := 17) rfl))))))))))) (fa_c (me_s (me_l (me_l (me_l (me_l (me_l (me_l (me_r (me_r (me_l (List.mem_of_getElem? (i := 18) rfl))))))))))) (fa_c (me_s (me_l (me_l (me_l (me_l (me_l (me_l (me_r (me_r (me_l (List.mem_of_getElem? (i := 19) rfl))))))))))) (fa_c (me_s (me_l (me_l (me_l (me_l (me_l (me_l (me_r (me_r (me_l (List.mem_of_getElem? (i := 20) rfl))))))))))) (fa_c (me_s (me_l (me_l (me_l (me_l (me_l (me_l (me_r (me_r (me_l (List.mem_of_getElem? (i := 21) rfl))))))))))) (fa_c (me_s (me_l (me_l (me_l (me_l (me_l (me_l (me_r (me_r (me_l (List.mem_of_getElem? (i := 22) rfl))))))))))) (fa_c (me_s (me_l (me_l (me_l (me_l (me_l (me_l (me_r (me_r (me_l (List.mem_of_getElem? (i := 23) rfl))))))))))) (fa_c (me_s (me_l (me_l (me_l (me_l (me_l (me_l (me_r (me_r (me_r (me_l (List.mem_of_getElem? (i := 0) rfl)))))))))))) (fa_c (me_s (me_l (me_l (me_l (me_l (me_l (me_l (me_r (me_r (me_r (me_l (List.mem_of_getElem? (i := 1) rfl)))))))))))) (fa_c (me_s (me_l (me_l (me_l (me_l (me_l (me_l (me_r (me_r (me_r (me_l (List.mem_of_getElem? (i := 2) rfl)))))))))))) (fa_c (me_s (me_l (me_l (me_l (me_l (me_l (me_l (me_r (me_r (me_r (me_l (List.mem_of_getElem? (i := 3) rfl)))))))))))) (fa_c (me_s (me_l (me_l (me_l (me_l (me_l (me_l (me_r (me_r (me_r (me_l (List.mem_of_getElem? (i := 4) rfl)))))))))))) (fa_c (me_s (me_l (me_l (me_l (me_l (me_l (me_l (me_r (me_r (me_r (me_l (List.mem_of_getElem? (i := 5) rfl)))))))))))) (fa_c (me_s (me_l (me_l (me_l (me_l (me_l (me_l (me_r (me_r (me_r (me_l (List.mem_of_getElem? (i := 6) rfl)))))))))))) (fa_c (me_s (me_l (me_l (me_l (me_l (me_l (me_l (me_r (me_r (me_r (me_l (List.mem_of_getElem? (i := 7) rfl)))))))))))) (fa_c (me_s (me_l (me_l (me_l (me_l (me_l (me_l (me_r (me_r (me_r (me_l (List.mem_of_getElem? (i := 8) rfl)))))))))))) fa_n)))))))))))))))))))))))) (fa_a (fa_c (me_s (me_l (me_l (me_l (me_l (me_l (me_l (me_r (me_r (me_r (me_l (List.mem_of_getElem? (i := 9) rfl)))))))))))) (fa_c (me_s (me_l (me_l (me_l (me_l (me_l (me_l (me_r (me_r (me_r (me_l (List.mem_of_getElem? (i := 10) rfl)))))))))))) (fa_c (me_s (me_l (me_l (me_l (me_l (me_l (me_l (me_r (me_r (me_r (me_l (List.mem_of_getElem? (i := 11) rfl)))))))))))) (fa_c (me_s (me_l (me_l (me_l (me_l (me_l (me_l (me_r (me_r (me_r (me_l (List.mem_of_getElem? (i := 12) rfl)))))))))))) (fa_c (me_s (me_l (me_l (me_l (me_l (me_l (me_l (me_r (me_r (me_r (me_l (List.mem_of_getElem? (i := 13) rfl)))))))))))) (fa_c (me_s (me_l (me_l (me_l (me_l (me_l (me_l (me_r (me_r (me_r (me_l (List.mem_of_getElem? (i := 14) rfl)))))))))))) (fa_c (me_s (me_l (me_l (me_l (me_l (me_l (me_l (me_r (me_r (me_r (me_l (List.mem_of_getElem? (i := 15) rfl)))))))))))) (fa_c (me_s (me_l (me_l (me_l (me_l (me_l (me_l (me_r (me_r (me_r (me_l (List.mem_of_getElem? (i := 16) rfl)))))))))))) (fa_c (me_s (me_l (me_l (me_l (me_l (me_l (me_l (me_r (me_r (me_r (me_l (List.mem_of_getElem? (i := 17) rfl)))))))))))) (fa_c (me_s (me_l (me_l (me_l (me_l (me_l (me_l (me_r (me_r (me_r (me_l (List.mem_of_getElem? (i := 18) rfl)))))))))))) (fa_c (me_s (me_l (me_l (me_l (me_l (me_l (me_l (me_r (me_r (me_r (me_l (List.mem_of_getElem? (i := 19) rfl)))))))))))) (fa_c (me_s (me_l (me_l (me_l (me_l (me_l (me_l (me_r (me_r (me_r (me_l (List.mem_of_getElem? (i := 20) rfl)))))))))))) (fa_c (me_s (me_l (me_l (me_l (me_l (me_l (me_l (me_r (me_r (me_r (me_l (List.mem_of_getElem? (i := 21) rfl)))))))))))) (fa_c (me_s (me_l (me_l (me_l (me_l (me_l (me_l (me_r (me_r (me_r (me_l (List.mem_of_getElem? (i := 22) rfl)))))))))))) (fa_c (me_s (me_l (me_l (me_l (me_l (me_l (me_l (me_r (me_r (me_r (me_l (List.mem_of_getElem? (i := 23) rfl)))))))))))) (fa_c (me_s (me_l (me_l (me_l (me_l (me_l (me_l (me_r (me_r (me_r (me_r (me_l (List.mem_of_getElem? (i := 0) rfl))))))))))))) (fa_c (me_s (me_l (me_l (me_l (me_l (me_l (me_l (me_r (me_r (me_r (me_r (me_l (List.mem_of_getElem? (i := 1) rfl))))))))))))) (fa_c (me_s (me_l (me_l (me_l (me_l (me_l (me_l (me_r (me_r (me_r (me_r (me_l (List.mem_of_getElem? (i := 2) rfl))))))))))))) (fa_c (me_s (me_l (me_l (me_l (me_l (me_l (me_l (me_r (me_r (me_r (me_r (me_l (List.mem_of_getElem? (i := 3) rfl))))))))))))) (fa_c (me_s (me_l (me_l (me_l (me_l (me_l (me_l (me_r (me_r (me_r (me_r (me_l (List.mem_of_getElem? (i := 4) rfl))))))))))))) (fa_c (me_s (me_l (me_l (me_l (me_l (me_l (me_l (me_r (me_r (me_r (me_r (me_l (List.mem_of_getElem? (i := 5) rfl))))))))))))) (fa_c (me_s (me_l (me_l (me_l (me_l (me_l (me_l (me_r (me_r (me_r (me_r (me_l (List.mem_of_getElem? (i := 6) rfl))))))))))))) (fa_c (me_s (me_l (me_l (me_l (me_l (me_l (me_l (me_r (me_r (me_r (me_r (me_l (List.mem_of_getElem? (i := 7) rfl))))))))))))) (fa_c (me_s (me_l (me_l (me_l (me_l (me_l (me_l (me_r (me_r (me_r (me_r (me_l (List.mem_of_getElem? (i := 8) rfl))))))))))))) fa_n)))))))))))))))))))))))) (fa_c (me_s (me_l (me_l (me_l (me_l (me_l (me_l (me_r (me_r (me_r (me_r (me_l (List.mem_of_getElem? (i := 9) rfl))))))))))))) (fa_c (me_s (me_l (me_l (me_l (me_l (me_l (me_l (me_r (me_r (me_r (me_r (me_l (List.mem_of_getElem? (i := 10) rfl))))))))))))) (fa_c (me_s (me_l (me_l (me_l (me_l (me_l (me_l (me_r (me_r (me_r (me_r (me_l (List.mem_of_getElem? (i := 11) rfl))))))))))))) (fa_c (me_s (me_l (me_l (me_l (me_l (me_l (me_l (me_r (me_r (me_r (me_r (me_l (List.mem_of_getElem? (i := 12) rfl))))))))))))) (fa_c (me_s (me_l (me_l (me_l (me_l (me_l (me_l (me_r (me_r (me_r (me_r (me_l (List.mem_of_getElem? (i := 13) rfl))))))))))))) (fa_c (me_s (me_l (me_l (me_l (me_l (me_l (me_l (me_r (me_r (me_r (me_r (me_l (List.mem_of_getElem? (i := 14) rfl))))))))))))) (fa_c (me_s (me_l (me_l (me_l (me_l (me_l (me_l (me_r (me_r (me_r (me_r (me_l (List.mem_of_getElem? (i := 15) rfl))))))))))))) (fa_c (me_s (me_l (me_l (me_l (me_l (me_l (me_l (me_r (me_r (me_r (me_r (me_l (List.mem_of_getElem? (i := 16) rfl))))))))))))) (fa_c (me_s (me_l (me_l (me_l (me_l (me_l (me_l (me_r (me_r (me_r (me_r (me_l (List.mem_of_getElem? (i := 17) rfl))))))))))))) (fa_c (me_s (me_l (me_l (me_l (me_l (me_l (me_l (me_r (me_r (me_r (me_r (me_l (List.mem_of_getElem? (i := 18) rfl))))))))))))) (fa_c (me_s (me_l (me_l (me_l (me_l (me_l (me_l (me_r (me_r (me_r (me_r (me_l (List.mem_of_getElem? (i := 19) rfl))))))))))))) (fa_c (me_s (me_l (me_l (me_l (me_l (me_l (me_l (me_r (me_r (me_r (me_r (me_l (List.mem_of_getElem? (i := 20) rfl))))))))))))) (fa_c (me_s (me_l (me_l (me_l (me_l (me_l (me_l (me_r (me_r (me_r (me_r (me_l (List.mem_of_getElem? (i := 21) rfl))))))))))))) (fa_c (me_s (me_l (me_l (me_l (me_l (me_l (me_l (me_r (me_r (me_r (me_r (me_l (List.mem_of_getElem? (i := 22) rfl))))))))))))) (fa_c (me_s (me_l (me_l (me_l (me_l (me_l (me_l (me_r (me_r (me_r (me_r (me_l (List.mem_of_getElem? (i := 23) rfl))))))))))))) (fa_c (me_s (me_l (me_l (me_l (me_l (me_l (me_l (me_r (me_r (me_r (me_r (me_r (List.mem_of_getElem? (i := 0) rfl))))))))))))) (fa_c (me_s (me_l (me_l (me_l (me_l (me_l (me_l (me_r (me_r (me_r (me_r (me_r (List.mem_of_getElem? (i := 1) rfl))))))))))))) (fa_c (me_s (me_l (me_l (me_l (me_l (me_l (me_l (me_r (me_r (me_r (me_r (me_r (List.mem_of_getElem? (i := 2) rfl))))))))))))) (fa_c (me_s (me_l (me_l (me_l (me_l (me_l (me_l (me_r (me_r (me_r (me_r (me_r (List.mem_of_getElem? (i := 3) rfl))))))))))))) (fa_c (me_s (me_l (me_l (me_l (me_l (me_l (me_l (me_r (me_r (me_r (me_r (me_r (List.mem_of_getElem? (i := 4) rfl))))))))))))) (fa_c (me_s (me_l (me_l (me_l (me_l (me_l (me_l (me_r (me_r (me_r (me_r (me_r (List.mem_of_getElem? (i := 5) rfl))))))))))))) (fa_c (me_s (me_l (me_l (me_l (me_l (me_l (me_l (me_r (me_r (me_r (me_r (me_r (List.mem_of_getElem? (i := 6) rfl))))))))))))) (fa_c (me_s (me_l (me_l (me_l (me_l (me_l (me_l (me_r (me_r (me_r (me_r (me_r (List.mem_of_getElem? (i := 7) rfl))))))))))))) (fa_c (me_s (me_l (me_l (me_l (me_l (me_l (me_l (me_r (me_r (me_r (me_r (me_r (List.mem_of_getElem? (i := 8) rfl))))))))))))) fa_n))))))))))))))))))))))))))) (fun w h => (me_s (me_l (me_l (me_l (me_l (me_r h)))))))) (fun w h => (me_s (me_l (me_l (me_r h)))))) (fun w h => (me_s (me_l (me_r h))))) (fun w h => (me_s (me_l (me_l (me_l (me_r h))))))) (fun w h => (me_s (me_r h))))) (by decide +kernel)
set_option maxRecDepth 20000 in
theorem gX11_ask_X6_grant : GoodIn wsX11_ask (wsV RX11 335 RX6 yX6_grant wsX6_grant) := goodIn_app (goodIn_sub (fa_c (me_s (me_l (me_l (me_l (me_l (me_l (me_l (me_r (me_l (List.mem_of_getElem? (i := 15) rfl)))))))))) (fa_c (me_s (me_l (me_l (me_l (me_l (me_l (me_l (me_r (me_l (List.mem_of_getElem? (i := 16) rfl)))))))))) (fa_c (me_s (me_l (me_l (me_l (me_l (me_l (me_l (me_r (me_l (List.mem_of_getElem? (i := 17) rfl)))))))))) (fa_c (me_s (me_l (me_l (me_l (me_l (me_l (me_l (me_r (me_l (List.mem_of_getElem? (i := 18) rfl)))))))))) fa_n)))) (by decide +kernel)) ggX11_ask_X6_grant
theorem dX11_ask_134 : decode cX11_ask 134 = .ok (.invokevirtual 335, 3) := z_dd_182 (by decide +kernel)
theorem dX11_ask_137 : decode cX11_ask 137 = .ok (.iastore, 1) := z_dd_79 (by decide +kernel)
theorem dX11_ask_138 : decode cX11_ask 138 = .ok (.aload_n 0, 1) := z_dd_42 (by decide +kernel)
theorem dX11_ask_139 : decode cX11_ask 139 = .ok (.getfield 68, 3) := z_dd_180 (by decide +kernel)
theorem dX11_ask_142 : decode cX11_ask 142 = .ok (.getfield 339, 3) := z_dd_180 (by decide +kernel)
theorem dX11_ask_145 : decode cX11_ask 145 = .ok (.iload 7, 2) := z_dd_21 (by decide +kernel)
theorem dX11_ask_147 : decode cX11_ask 147 = .ok (.aload_n 0, 1) := z_dd_42 (by decide +kernel)
theorem dX11_ask_148 : decode cX11_ask 148 = .ok (.getfield 68, 3) := z_dd_180 (by decide +kernel)
theorem dX11_ask_151 : decode cX11_ask 151 = .ok (.getfield 332, 3) := z_dd_180 (by decide +kernel)
theorem dX11_ask_154 : decode cX11_ask 154 = .ok (.iload 7, 2) := z_dd_21 (by decide +kernel)
theorem dX11_ask_156 : decode cX11_ask 156 = .ok (.iaload, 1) := z_dd_46 (by decide +kernel)
theorem dX11_ask_157 : decode cX11_ask 157 = .ok (.iastore, 1) := z_dd_79 (by decide +kernel)
theorem dX11_ask_158 : decode cX11_ask 158 = .ok (.iload 7, 2) := z_dd_21 (by decide +kernel)
theorem dX11_ask_160 : decode cX11_ask 160 = .ok (.ireturn, 1) := z_dd_172 (by decide +kernel)
theorem dX11_ask_65 : decode cX11_ask 65 = .ok (.iconst (-1), 1) := z_dd_2 (by decide +kernel)
theorem dX11_ask_66 : decode cX11_ask 66 = .ok (.ireturn, 1) := z_dd_172 (by decide +kernel)
theorem dX11_appeal_11 : decode cX11_appeal 11 = .ok (.iload_n 2, 1) := z_dd_28 (by decide +kernel)
set_option maxRecDepth 20000 in
theorem ggX11_appeal_X11_isReason : GoodIn wsX11_appeal wsX11_isReason := goodIn_sub (fa_c (me_s (me_l (me_l (me_l (me_l (me_l (me_l (me_l (List.mem_of_getElem? (i := 14) rfl))))))))) (fa_c (me_s (me_l (me_l (me_l (me_l (me_l (me_l (me_l (List.mem_of_getElem? (i := 15) rfl))))))))) (fa_c (me_s (me_l (me_l (me_l (me_l (me_l (me_l (me_l (List.mem_of_getElem? (i := 16) rfl))))))))) (fa_c (me_s (me_l (me_l (me_l (me_l (me_l (me_l (me_l (List.mem_of_getElem? (i := 13) rfl))))))))) (fa_c (me_s (me_l (me_l (me_l (me_l (me_l (me_l (me_l (List.mem_of_getElem? (i := 17) rfl))))))))) fa_n))))) (by decide +kernel)
set_option maxRecDepth 20000 in
theorem gX11_appeal_X11_isReason : GoodIn wsX11_appeal (va_wsS RX11 319 yX11_isReason wsX11_isReason) := goodIn_app (goodIn_sub (fa_c (me_s (me_l (me_l (me_l (me_l (me_l (me_l (me_l (List.mem_of_getElem? (i := 11) rfl))))))))) (fa_c (me_s (me_l (me_l (me_l (me_l (me_l (me_l (me_l (List.mem_of_getElem? (i := 12) rfl))))))))) (fa_c (me_s (me_l (me_l (me_l (me_l (me_l (me_l (me_l (List.mem_of_getElem? (i := 13) rfl))))))))) fa_n))) (by decide +kernel)) ggX11_appeal_X11_isReason
theorem dX11_appeal_12 : decode cX11_appeal 12 = .ok (.invokestatic 319, 3) := z_dd_184 (by decide +kernel)
theorem dX11_appeal_15 : decode cX11_appeal 15 = .ok (.ifCond .ne 5, 3) := z_dd_154 (by decide +kernel)
theorem dX11_appeal_20 : decode cX11_appeal 20 = .ok (.aload_n 0, 1) := z_dd_42 (by decide +kernel)
theorem dX11_appeal_21 : decode cX11_appeal 21 = .ok (.getfield 68, 3) := z_dd_180 (by decide +kernel)
theorem dX11_appeal_24 : decode cX11_appeal 24 = .ok (.getfield 342, 3) := z_dd_180 (by decide +kernel)
theorem dX11_appeal_27 : decode cX11_appeal 27 = .ok (.iload_n 1, 1) := z_dd_27 (by decide +kernel)
theorem dX11_appeal_28 : decode cX11_appeal 28 = .ok (.iload_n 2, 1) := z_dd_28 (by decide +kernel)
theorem dX11_appeal_29 : decode cX11_appeal 29 = .ok (.iastore, 1) := z_dd_79 (by decide +kernel)
theorem dX11_appeal_30 : decode cX11_appeal 30 = .ok (.aload_n 0, 1) := z_dd_42 (by decide +kernel)
theorem dX11_appeal_31 : decode cX11_appeal 31 = .ok (.getfield 68, 3) := z_dd_180 (by decide +kernel)
theorem dX11_appeal_34 : decode cX11_appeal 34 = .ok (.getfield 332, 3) := z_dd_180 (by decide +kernel)
theorem dX11_appeal_37 : decode cX11_appeal 37 = .ok (.iload_n 1, 1) := z_dd_27 (by decide +kernel)
theorem dX11_appeal_38 : decode cX11_appeal 38 = .ok (.aload_n 0, 1) := z_dd_42 (by decide +kernel)
theorem dX11_appeal_39 : decode cX11_appeal 39 = .ok (.getfield 30, 3) := z_dd_180 (by decide +kernel)
theorem dX11_appeal_42 : decode cX11_appeal 42 = .ok (.aload_n 0, 1) := z_dd_42 (by decide +kernel)
theorem dX11_appeal_43 : decode cX11_appeal 43 = .ok (.getfield 16, 3) := z_dd_180 (by decide +kernel)
theorem dX11_appeal_46 : decode cX11_appeal 46 = .ok (.aload_n 0, 1) := z_dd_42 (by decide +kernel)
theorem dX11_appeal_47 : decode cX11_appeal 47 = .ok (.getfield 68, 3) := z_dd_180 (by decide +kernel)
theorem dX11_appeal_50 : decode cX11_appeal 50 = .ok (.iload_n 1, 1) := z_dd_27 (by decide +kernel)
set_option maxRecDepth 20000 in
theorem ggX11_appeal_X6_grant : GoodIn wsX11_appeal wsX6_grant := goodIn_sub (fa_c (me_s (me_l (me_l (me_l (me_l (me_l (me_l (me_l (List.mem_of_getElem? (i := 22) rfl))))))))) (fa_a (fa_a (fa_a (fa_a (fa_a (fa_a (fa_c (me_s (me_l (me_l (me_l (me_l (me_l (me_l (me_l (List.mem_of_getElem? (i := 23) rfl))))))))) (fa_c (me_s (me_l (me_l (me_l (me_l (me_l (me_l (me_r (me_l (List.mem_of_getElem? (i := 0) rfl)))))))))) (fa_c (me_s (me_l (me_l (me_l (me_l (me_l (me_l (me_r (me_l (List.mem_of_getElem? (i := 1) rfl)))))))))) (fa_c (me_s (me_l (me_l (me_l (me_l (me_l (me_l (me_r (me_l (List.mem_of_getElem? (i := 2) rfl)))))))))) (fa_c (me_s (me_l (me_l (me_l (me_l (me_l (me_l (me_r (me_l (List.mem_of_getElem? (i := 3) rfl)))))))))) (fa_c (me_s (me_l (me_l (me_l (me_l (me_l (me_l (me_r (me_l (List.mem_of_getElem? (i := 4) rfl)))))))))) (fa_c (me_s (me_l (me_l (me_l (me_l (me_l (me_l (me_r (me_l (List.mem_of_getElem? (i := 5) rfl)))))))))) (fa_c (me_s (me_l (me_l (me_l (me_l (me_l (me_l (me_r (me_l (List.mem_of_getElem? (i := 6) rfl)))))))))) (fa_c (me_s (me_l (me_l (me_l (me_l (me_l (me_l (me_l (List.mem_of_getElem? (i := 6) rfl))))))))) (fa_c (me_s (me_l (me_l (me_l (me_l (me_l (me_l (me_l (List.mem_of_getElem? (i := 7) rfl))))))))) (fa_c (me_s (me_l (me_l (me_l (me_l (me_l (me_l (me_l (List.mem_of_getElem? (i := 8) rfl))))))))) (fa_c (me_s (me_l (me_l (me_l (me_l (me_l (me_l (me_l (List.mem_of_getElem? (i := 9) rfl))))))))) (fa_c (me_s (me_l (me_l (me_l (me_l (me_l (me_l (me_l (List.mem_of_getElem? (i := 10) rfl))))))))) (fa_c (me_s (me_l (me_l (me_l (me_l (me_l (me_l (me_r (me_l (List.mem_of_getElem? (i := 7) rfl)))))))))) (fa_c (me_s (me_l (me_l (me_l (me_l (me_l (me_l (me_r (me_l (List.mem_of_getElem? (i := 8) rfl)))))))))) (fa_c (me_s (me_l (me_l (me_l (me_l (me_l (me_l (me_r (me_l (List.mem_of_getElem? (i := 9) rfl)))))))))) (fa_c (me_s (me_l (me_l (me_l (me_l (me_l (me_l (me_l (List.mem_of_getElem? (i := 21) rfl))))))))) (fa_c (me_s (me_l (me_l (me_l (me_l (me_l (me_l (me_r (me_l (List.mem_of_getElem? (i := 10) rfl)))))))))) (fa_c (me_s (me_l (me_l (me_l (me_l (me_l (me_l (me_r (me_l (List.mem_of_getElem? (i := 11) rfl)))))))))) (fa_c (me_s (me_l (me_l (me_l (me_l (me_l (me_l (me_r (me_l (List.mem_of_getElem? (i := 12) rfl)))))))))) (fa_c (me_s (me_l (me_l (me_l (me_l (me_l (me_l (me_r (me_l (List.mem_of_getElem? (i := 13) rfl)))))))))) (fa_c (me_s (me_l (me_l (me_l (me_l (me_l (me_l (me_r (me_l (List.mem_of_getElem? (i := 14) rfl)))))))))) (fa_c (me_s (me_l (me_l (me_l (me_l (me_l (me_l (me_r (me_l (List.mem_of_getElem? (i := 15) rfl)))))))))) (fa_c (me_s (me_l (me_l (me_l (me_l (me_l (me_l (me_r (me_l (List.mem_of_getElem? (i := 16) rfl)))))))))) fa_n)))))))))))))))))))))))) (fa_a (fa_c (me_s (me_l (me_l (me_l (me_l (me_l (me_l (me_r (me_l (List.mem_of_getElem? (i := 17) rfl)))))))))) (fa_c (me_s (me_l (me_l (me_l (me_l (me_l (me_l (me_r (me_l (List.mem_of_getElem? (i := 18) rfl)))))))))) (fa_c (me_s (me_l (me_l (me_l (me_l (me_l (me_l (me_r (me_l (List.mem_of_getElem? (i := 19) rfl)))))))))) (fa_c (me_s (me_l (me_l (me_l (me_l (me_l (me_l (me_r (me_l (List.mem_of_getElem? (i := 20) rfl)))))))))) (fa_c (me_s (me_l (me_l (me_l (me_l (me_l (me_l (me_r (me_l (List.mem_of_getElem? (i := 21) rfl)))))))))) (fa_c (me_s (me_l (me_l (me_l (me_l (me_l (me_l (me_r (me_l (List.mem_of_getElem? (i := 22) rfl)))))))))) (fa_c (me_s (me_l (me_l (me_l (me_l (me_l (me_l (me_r (me_l (List.mem_of_getElem? (i := 23) rfl)))))))))) (fa_c (me_s (me_l (me_l (me_l (me_l (me_l (me_l (me_r (me_r (me_l (List.mem_of_getElem? (i := 0) rfl))))))))))) (fa_c (me_s (me_l (me_l (me_l (me_l (me_l (me_l (me_r (me_r (me_l (List.mem_of_getElem? (i := 1) rfl))))))))))) (fa_c (me_s (me_l (me_l (me_l (me_l (me_l (me_l (me_r (me_r (me_l (List.mem_of_getElem? (i := 2) rfl))))))))))) (fa_c (me_s (me_l (me_l (me_l (me_l (me_l (me_l (me_r (me_r (me_l (List.mem_of_getElem? (i := 3) rfl))))))))))) (fa_c (me_s (me_l (me_l (me_l (me_l (me_l (me_l (me_r (me_r (me_l (List.mem_of_getElem? (i := 4) rfl))))))))))) (fa_c (me_s (me_l (me_l (me_l (me_l (me_l (me_l (me_r (me_r (me_l (List.mem_of_getElem? (i := 5) rfl))))))))))) (fa_c (me_s (me_l (me_l (me_l (me_l (me_l (me_l (me_r (me_r (me_l (List.mem_of_getElem? (i := 6) rfl))))))))))) (fa_c (me_s (me_l (me_l (me_l (me_l (me_l (me_l (me_r (me_r (me_l (List.mem_of_getElem? (i := 7) rfl))))))))))) (fa_c (me_s (me_l (me_l (me_l (me_l (me_l (me_l (me_r (me_r (me_l (List.mem_of_getElem? (i := 8) rfl))))))))))) (fa_c (me_s (me_l (me_l (me_l (me_l (me_l (me_l (me_r (me_r (me_l (List.mem_of_getElem? (i := 9) rfl))))))))))) (fa_c (me_s (me_l (me_l (me_l (me_l (me_l (me_l (me_r (me_r (me_l (List.mem_of_getElem? (i := 10) rfl))))))))))) (fa_c (me_s (me_l (me_l (me_l (me_l (me_l (me_l (me_r (me_r (me_l (List.mem_of_getElem? (i := 11) rfl))))))))))) (fa_c (me_s (me_l (me_l (me_l (me_l (me_l (me_l (me_r (me_r (me_l (List.mem_of_getElem? (i := 12) rfl))))))))))) (fa_c (me_s (me_l (me_l (me_l (me_l (me_l (me_l (me_r (me_r (me_l (List.mem_of_getElem? (i := 13) rfl))))))))))) (fa_c (me_s (me_l (me_l (me_l (me_l (me_l (me_l (me_r (me_r (me_l (List.mem_of_getElem? (i := 14) rfl))))))))))) (fa_c (me_s (me_l (me_l (me_l (me_l (me_l (me_l (me_r (me_r (me_l (List.mem_of_getElem? (i := 15) rfl))))))))))) (fa_c (me_s (me_l (me_l (me_l (me_l (me_l (me_l (me_r (me_r (me_l (List.mem_of_getElem? (i := 16) rfl))))))))))) fa_n)))))))))))))))))))))))) (fa_a (fa_c (me_s (me_l (me_l (me_l (me_l (me_l (me_l (me_r (me_r (me_l (List.mem_of_getElem? (i := 17) rfl))))))))))) (fa_c (me_s (me_l (me_l (me_l (me_l (me_l (me_l (me_r (me_r (me_l (List.mem_of_getElem? (i := 18) rfl))))))))))) (fa_c (me_s (me_l (me_l (me_l (me_l (me_l (me_l (me_r (me_r (me_l (List.mem_of_getElem? (i := 19) rfl))))))))))) (fa_c (me_s (me_l (me_l (me_l (me_l (me_l (me_l (me_r (me_r (me_l (List.mem_of_getElem? (i := 20) rfl))))))))))) (fa_c (me_s (me_l (me_l (me_l (me_l (me_l (me_l (me_r (me_r (me_l (List.mem_of_getElem? (i := 21) rfl))))))))))) (fa_c (me_s (me_l (me_l (me_l (me_l (me_l (me_l (me_r (me_r (me_l (List.mem_of_getElem? (i := 22) rfl))))))))))) (fa_c (me_s (me_l (me_l (me_l (me_l (me_l (me_l (me_r (me_r (me_l (List.mem_of_getElem? (i := 23) rfl))))))))))) (fa_c (me_s (me_l (me_l (me_l (me_l (me_l (me_l (me_r (me_r (me_r (me_l (List.mem_of_getElem? (i := 0) rfl)))))))))))) (fa_c (me_s (me_l (me_l (me_l (me_l (me_l (me_l (me_r (me_r (me_r (me_l (List.mem_of_getElem? (i := 1) rfl)))))))))))) (fa_c (me_s (me_l (me_l (me_l (me_l (me_l (me_l (me_r (me_r (me_r (me_l (List.mem_of_getElem? (i := 2) rfl)))))))))))) (fa_c (me_s (me_l (me_l (me_l (me_l (me_l (me_l (me_r (me_r (me_r (me_l (List.mem_of_getElem? (i := 3) rfl)))))))))))) (fa_c (me_s (me_l (me_l (me_l (me_l (me_l (me_l (me_r (me_r (me_r (me_l (List.mem_of_getElem? (i := 4) rfl)))))))))))) (fa_c (me_s (me_l (me_l (me_l (me_l (me_l (me_l (me_r (me_r (me_r (me_l (List.mem_of_getElem? (i := 5) rfl)))))))))))) (fa_c (me_s (me_l (me_l (me_l (me_l (me_l (me_l (me_r (me_r (me_r (me_l (List.mem_of_getElem? (i := 6) rfl)))))))))))) (fa_c (me_s (me_l (me_l (me_l (me_l (me_l (me_l (me_r (me_r (me_r (me_l (List.mem_of_getElem? (i := 7) rfl)))))))))))) (fa_c (me_s (me_l (me_l (me_l (me_l (me_l (me_l (me_r (me_r (me_r (me_l (List.mem_of_getElem? (i := 8) rfl)))))))))))) (fa_c (me_s (me_l (me_l (me_l (me_l (me_l (me_l (me_r (me_r (me_r (me_l (List.mem_of_getElem? (i := 9) rfl)))))))))))) (fa_c (me_s (me_l (me_l (me_l (me_l (me_l (me_l (me_r (me_r (me_r (me_l (List.mem_of_getElem? (i := 10) rfl)))))))))))) (fa_c (me_s (me_l (me_l (me_l (me_l (me_l (me_l (me_r (me_r (me_r (me_l (List.mem_of_getElem? (i := 11) rfl)))))))))))) (fa_c (me_s (me_l (me_l (me_l (me_l (me_l (me_l (me_r (me_r (me_r (me_l (List.mem_of_getElem? (i := 12) rfl)))))))))))) (fa_c (me_s (me_l (me_l (me_l (me_l (me_l (me_l (me_r (me_r (me_r (me_l (List.mem_of_getElem? (i := 13) rfl)))))))))))) (fa_c (me_s (me_l (me_l (me_l (me_l (me_l (me_l (me_r (me_r (me_r (me_l (List.mem_of_getElem? (i := 14) rfl)))))))))))) (fa_c (me_s (me_l (me_l (me_l (me_l (me_l (me_l (me_r (me_r (me_r (me_l (List.mem_of_getElem? (i := 15) rfl)))))))))))) (fa_c (me_s (me_l (me_l (me_l (me_l (me_l (me_l (me_r (me_r (me_r (me_l (List.mem_of_getElem? (i := 16) rfl)))))))))))) fa_n)))))))))))))))))))))))) (fa_c (me_s (me_l (me_l (me_l (me_l (me_l (me_l (me_r (me_r (me_r (me_l (List.mem_of_getElem? (i := 17) rfl)))))))))))) (fa_c (me_s (me_l (me_l (me_l (me_l (me_l (me_l (me_r (me_r (me_r (me_l (List.mem_of_getElem? (i := 18) rfl)))))))))))) (fa_c (me_s (me_l (me_l (me_l (me_l (me_l (me_l (me_r (me_r (me_r (me_l (List.mem_of_getElem? (i := 19) rfl)))))))))))) (fa_c (me_s (me_l (me_l (me_l (me_l (me_l (me_l (me_r (me_r (me_r (me_l (List.mem_of_getElem? (i := 20) rfl)))))))))))) (fa_c (me_s (me_l (me_l (me_l (me_l (me_l (me_l (me_r (me_r (me_r (me_l (List.mem_of_getElem? (i := 21) rfl)))))))))))) (fa_c (me_s (me_l (me_l (me_l (me_l (me_l (me_l (me_r (me_r (me_r (me_l (List.mem_of_getElem? (i := 22) rfl)))))))))))) (fa_c (me_s (me_l (me_l (me_l (me_l (me_l (me_l (me_r (me_r (me_r (me_l (List.mem_of_getElem? (i := 23) rfl)))))))))))) (fa_c (me_s (me_l (me_l (me_l (me_l (me_l (me_l (me_r (me_r (me_r (me_r (List.mem_of_getElem? (i := 0) rfl)))))))))))) (fa_c (me_s (me_l (me_l (me_l (me_l (me_l (me_l (me_r (me_r (me_r (me_r (List.mem_of_getElem? (i := 1) rfl)))))))))))) (fa_c (me_s (me_l (me_l (me_l (me_l (me_l (me_l (me_r (me_r (me_r (me_r (List.mem_of_getElem? (i := 2) rfl)))))))))))) (fa_c (me_s (me_l (me_l (me_l (me_l (me_l (me_l (me_r (me_r (me_r (me_r (List.mem_of_getElem? (i := 3) rfl)))))))))))) (fa_c (me_s (me_l (me_l (me_l (me_l (me_l (me_l (me_r (me_r (me_r (me_r (List.mem_of_getElem? (i := 4) rfl)))))))))))) (fa_c (me_s (me_l (me_l (me_l (me_l (me_l (me_l (me_r (me_r (me_r (me_r (List.mem_of_getElem? (i := 5) rfl)))))))))))) (fa_c (me_s (me_l (me_l (me_l (me_l (me_l (me_l (me_r (me_r (me_r (me_r (List.mem_of_getElem? (i := 6) rfl)))))))))))) (fa_c (me_s (me_l (me_l (me_l (me_l (me_l (me_l (me_r (me_r (me_r (me_r (List.mem_of_getElem? (i := 7) rfl)))))))))))) (fa_c (me_s (me_l (me_l (me_l (me_l (me_l (me_l (me_r (me_r (me_r (me_r (List.mem_of_getElem? (i := 8) rfl)))))))))))) (fa_c (me_s (me_l (me_l (me_l (me_l (me_l (me_l (me_r (me_r (me_r (me_r (List.mem_of_getElem? (i := 9) rfl)))))))))))) (fa_c (me_s (me_l (me_l (me_l (me_l (me_l (me_l (me_r (me_r (me_r (me_r (List.mem_of_getElem? (i := 10) rfl)))))))))))) (fa_c (me_s (me_l (me_l (me_l (me_l (me_l (me_l (me_r (me_r (me_r (me_r (List.mem_of_getElem? (i := 11) rfl)))))))))))) (fa_c (me_s (me_l (me_l (me_l (me_l (me_l (me_l (me_r (me_r (me_r (me_r (List.mem_of_getElem? (i := 12) rfl)))))))))))) (fa_c (me_s (me_l (me_l (me_l (me_l (me_l (me_l (me_r (me_r (me_r (me_r (List.mem_of_getElem? (i := 13) rfl)))))))))))) (fa_c (me_s (me_l (me_l (me_l (me_l (me_l (me_l (me_r (me_r (me_r (me_r (List.mem_of_getElem? (i := 14) rfl)))))))))))) (fa_c (me_s (me_l (me_l (me_l (me_l (me_l (me_l (me_r (me_r (me_r (me_r (List.mem_of_getElem? (i := 15) rfl)))))))))))) (fa_c (me_s (me_l (me_l (me_l (me_l (me_l (me_l (me_r (me_r (me_r (me_r (List.mem_of_getElem? (i := 16) rfl)))))))))))) fa_n))))))))))))))))))))))))))) (fun w h => (me_s (me_l (me_l (me_l (me_l (me_r h)))))))) (fun w h => (me_s (me_l (me_l (me_l (me_r h))))))) (fun w h => (me_s (me_l (me_l (me_r h)))))) (fun w h => (me_s (me_l (me_r h))))) (fun w h => (me_s (me_r h))))) (by decide +kernel)
set_option maxRecDepth 20000 in
theorem gX11_appeal_X6_grant : GoodIn wsX11_appeal (wsV RX11 335 RX6 yX6_grant wsX6_grant) := goodIn_app (goodIn_sub (fa_c (me_s (me_l (me_l (me_l (me_l (me_l (me_l (me_l (List.mem_of_getElem? (i := 18) rfl))))))))) (fa_c (me_s (me_l (me_l (me_l (me_l (me_l (me_l (me_l (List.mem_of_getElem? (i := 19) rfl))))))))) (fa_c (me_s (me_l (me_l (me_l (me_l (me_l (me_l (me_l (List.mem_of_getElem? (i := 20) rfl))))))))) (fa_c (me_s (me_l (me_l (me_l (me_l (me_l (me_l (me_l (List.mem_of_getElem? (i := 21) rfl))))))))) fa_n)))) (by decide +kernel)) ggX11_appeal_X6_grant
theorem dX11_appeal_51 : decode cX11_appeal 51 = .ok (.invokevirtual 335, 3) := z_dd_182 (by decide +kernel)
theorem dX11_appeal_54 : decode cX11_appeal 54 = .ok (.iastore, 1) := z_dd_79 (by decide +kernel)
theorem dX11_appeal_55 : decode cX11_appeal 55 = .ok (.aload_n 0, 1) := z_dd_42 (by decide +kernel)
theorem dX11_appeal_56 : decode cX11_appeal 56 = .ok (.getfield 68, 3) := z_dd_180 (by decide +kernel)
theorem dX11_appeal_59 : decode cX11_appeal 59 = .ok (.getfield 332, 3) := z_dd_180 (by decide +kernel)
theorem dX11_appeal_62 : decode cX11_appeal 62 = .ok (.iload_n 1, 1) := z_dd_27 (by decide +kernel)
theorem dX11_appeal_63 : decode cX11_appeal 63 = .ok (.iaload, 1) := z_dd_46 (by decide +kernel)
theorem dX11_appeal_64 : decode cX11_appeal 64 = .ok (.ireturn, 1) := z_dd_172 (by decide +kernel)
theorem dX11_journey_13 : decode cX11_journey 13 = .ok (.iload_n 2, 1) := z_dd_28 (by decide +kernel)
theorem dX11_journey_14 : decode cX11_journey 14 = .ok (.bipush 100, 2) := z_dd_16 (by decide +kernel)
theorem dX11_journey_16 : decode cX11_journey 16 = .ok (.if_icmp .lt 24, 3) := z_dd_161 (by decide +kernel)
theorem dX11_journey_40 : decode cX11_journey 40 = .ok (.aload_n 0, 1) := z_dd_42 (by decide +kernel)
theorem dX11_journey_41 : decode cX11_journey 41 = .ok (.getfield 68, 3) := z_dd_180 (by decide +kernel)
theorem dX11_journey_44 : decode cX11_journey 44 = .ok (.iload_n 1, 1) := z_dd_27 (by decide +kernel)
theorem dX11_journey_45 : decode cX11_journey 45 = .ok (.iload_n 2, 1) := z_dd_28 (by decide +kernel)
set_option maxRecDepth 20000 in
theorem ggX11_journey_X3_tell : GoodIn wsX11_journey wsX3_tell := goodIn_sub (fa_c (me_s (me_l (me_l (me_l (me_r (List.mem_of_getElem? (i := 18) rfl)))))) (fa_a (fa_c (me_s (me_l (me_l (me_l (me_r (List.mem_of_getElem? (i := 1) rfl)))))) (fa_c (me_s (me_l (me_l (me_l (me_l (List.mem_of_getElem? (i := 20) rfl)))))) (fa_c (me_s (me_l (me_l (me_l (me_l (List.mem_of_getElem? (i := 19) rfl)))))) (fa_c (me_s (me_l (me_l (me_l (me_l (List.mem_of_getElem? (i := 18) rfl)))))) (fa_c (me_s (me_l (me_l (me_l (me_r (List.mem_of_getElem? (i := 2) rfl)))))) (fa_c (me_s (me_l (me_l (me_l (me_r (List.mem_of_getElem? (i := 19) rfl)))))) (fa_c (me_s (me_l (me_l (me_l (me_l (List.mem_of_getElem? (i := 17) rfl)))))) (fa_c (me_s (me_l (me_l (me_l (me_r (List.mem_of_getElem? (i := 20) rfl)))))) (fa_c (me_s (me_l (me_l (me_l (me_r (List.mem_of_getElem? (i := 3) rfl)))))) (fa_c (me_s (me_l (me_l (me_l (me_l (List.mem_of_getElem? (i := 4) rfl)))))) (fa_c (me_s (me_l (me_l (me_l (me_l (List.mem_of_getElem? (i := 5) rfl)))))) (fa_c (me_s (me_l (me_l (me_l (me_l (List.mem_of_getElem? (i := 6) rfl)))))) (fa_c (me_s (me_l (me_l (me_l (me_l (List.mem_of_getElem? (i := 7) rfl)))))) (fa_c (me_s (me_l (me_l (me_l (me_l (List.mem_of_getElem? (i := 8) rfl)))))) fa_n)))))))))))))) (fun w h => (me_s (me_l (me_r h)))))) (by decide +kernel)
set_option maxRecDepth 20000 in
theorem gX11_journey_X3_tell : GoodIn wsX11_journey (wsV RX11 348 RX3 yX3_tell wsX3_tell) := goodIn_app (goodIn_sub (fa_c (me_s (me_l (me_l (me_l (me_r (List.mem_of_getElem? (i := 15) rfl)))))) (fa_c (me_s (me_l (me_l (me_l (me_r (List.mem_of_getElem? (i := 16) rfl)))))) (fa_c (me_s (me_l (me_l (me_l (me_r (List.mem_of_getElem? (i := 17) rfl)))))) (fa_c (me_s (me_l (me_l (me_l (me_l (List.mem_of_getElem? (i := 6) rfl)))))) fa_n)))) (by decide +kernel)) ggX11_journey_X3_tell
theorem dX11_journey_46 : decode cX11_journey 46 = .ok (.invokevirtual 348, 3) := z_dd_182 (by decide +kernel)
theorem dX11_journey_49 : decode cX11_journey 49 = .ok (.ireturn, 1) := z_dd_172 (by decide +kernel)
theorem dX11_journey_19 : decode cX11_journey 19 = .ok (.aload_n 0, 1) := z_dd_42 (by decide +kernel)
theorem dX11_journey_20 : decode cX11_journey 20 = .ok (.getfield 68, 3) := z_dd_180 (by decide +kernel)
theorem dX11_journey_23 : decode cX11_journey 23 = .ok (.aload_n 0, 1) := z_dd_42 (by decide +kernel)
theorem dX11_journey_24 : decode cX11_journey 24 = .ok (.getfield 16, 3) := z_dd_180 (by decide +kernel)
theorem dX11_journey_27 : decode cX11_journey 27 = .ok (.iload_n 1, 1) := z_dd_27 (by decide +kernel)
theorem dX11_journey_28 : decode cX11_journey 28 = .ok (.iload_n 2, 1) := z_dd_28 (by decide +kernel)
theorem dX11_journey_29 : decode cX11_journey 29 = .ok (.bipush 100, 2) := z_dd_16 (by decide +kernel)
theorem dX11_journey_31 : decode cX11_journey 31 = .ok (.isub, 1) := z_dd_100 (by decide +kernel)
theorem dX11_journey_32 : decode cX11_journey 32 = .ok (.aload_n 0, 1) := z_dd_42 (by decide +kernel)
theorem dX11_journey_33 : decode cX11_journey 33 = .ok (.getfield 85, 3) := z_dd_180 (by decide +kernel)
set_option maxRecDepth 20000 in
theorem ggX11_journey_X3_likeOf : GoodIn wsX11_journey wsX3_likeOf := goodIn_sub (fa_c (me_s (me_l (me_l (me_l (me_l (List.mem_of_getElem? (i := 12) rfl)))))) (fa_a (fa_a (fa_a (fa_c (me_s (me_l (me_l (me_l (me_l (List.mem_of_getElem? (i := 8) rfl)))))) (fa_c (me_s (me_l (me_l (me_l (me_l (List.mem_of_getElem? (i := 13) rfl)))))) (fa_c (me_s (me_l (me_l (me_l (me_l (List.mem_of_getElem? (i := 14) rfl)))))) (fa_c (me_s (me_l (me_l (me_l (me_l (List.mem_of_getElem? (i := 15) rfl)))))) (fa_c (me_s (me_l (me_l (me_l (me_l (List.mem_of_getElem? (i := 6) rfl)))))) (fa_c (me_s (me_l (me_l (me_l (me_l (List.mem_of_getElem? (i := 16) rfl)))))) (fa_c (me_s (me_l (me_l (me_l (me_l (List.mem_of_getElem? (i := 17) rfl)))))) (fa_c (me_s (me_l (me_l (me_l (me_l (List.mem_of_getElem? (i := 18) rfl)))))) (fa_c (me_s (me_l (me_l (me_l (me_l (List.mem_of_getElem? (i := 19) rfl)))))) (fa_c (me_s (me_l (me_l (me_l (me_l (List.mem_of_getElem? (i := 20) rfl)))))) (fa_c (me_s (me_l (me_l (me_l (me_l (List.mem_of_getElem? (i := 21) rfl)))))) (fa_c (me_s (me_l (me_l (me_l (me_l (List.mem_of_getElem? (i := 22) rfl)))))) (fa_c (me_s (me_l (me_l (me_l (me_l (List.mem_of_getElem? (i := 23) rfl)))))) (fa_c (me_s (me_l (me_l (me_l (me_r (List.mem_of_getElem? (i := 0) rfl)))))) (fa_c (me_s (me_l (me_l (me_l (me_r (List.mem_of_getElem? (i := 1) rfl)))))) (fa_c (me_s (me_l (me_l (me_l (me_r (List.mem_of_getElem? (i := 2) rfl)))))) (fa_c (me_s (me_l (me_l (me_l (me_r (List.mem_of_getElem? (i := 3) rfl)))))) (fa_c (me_s (me_l (me_l (me_l (me_l (List.mem_of_getElem? (i := 4) rfl)))))) (fa_c (me_s (me_l (me_l (me_l (me_l (List.mem_of_getElem? (i := 5) rfl)))))) (fa_c (me_s (me_l (me_l (me_l (me_l (List.mem_of_getElem? (i := 7) rfl)))))) (fa_c (me_s (me_l (me_l (me_l (me_r (List.mem_of_getElem? (i := 4) rfl)))))) (fa_c (me_s (me_l (me_l (me_l (me_r (List.mem_of_getElem? (i := 5) rfl)))))) (fa_c (me_s (me_l (me_l (me_l (me_r (List.mem_of_getElem? (i := 6) rfl)))))) (fa_c (me_s (me_l (me_l (me_l (me_r (List.mem_of_getElem? (i := 7) rfl)))))) fa_n)))))))))))))))))))))))) (fa_c (me_s (me_l (me_l (me_l (me_r (List.mem_of_getElem? (i := 8) rfl)))))) (fa_c (me_s (me_l (me_l (me_l (me_r (List.mem_of_getElem? (i := 9) rfl)))))) (fa_c (me_s (me_l (me_l (me_l (me_r (List.mem_of_getElem? (i := 10) rfl)))))) (fa_c (me_s (me_l (me_l (me_l (me_r (List.mem_of_getElem? (i := 11) rfl)))))) (fa_c (me_s (me_l (me_l (me_l (me_r (List.mem_of_getElem? (i := 12) rfl)))))) (fa_c (me_s (me_l (me_l (me_l (me_r (List.mem_of_getElem? (i := 13) rfl)))))) (fa_c (me_s (me_l (me_l (me_l (me_r (List.mem_of_getElem? (i := 14) rfl)))))) fa_n)))))))) (fun w h => (me_s (me_l (me_r h))))) (fun w h => (me_s (me_r h))))) (by decide +kernel)
set_option maxRecDepth 20000 in
theorem gX11_journey_X3_likeOf : GoodIn wsX11_journey (wsV RX11 345 RX3 yX3_likeOf wsX3_likeOf) := goodIn_app (goodIn_sub (fa_c (me_s (me_l (me_l (me_l (me_l (List.mem_of_getElem? (i := 9) rfl)))))) (fa_c (me_s (me_l (me_l (me_l (me_l (List.mem_of_getElem? (i := 10) rfl)))))) (fa_c (me_s (me_l (me_l (me_l (me_l (List.mem_of_getElem? (i := 11) rfl)))))) (fa_c (me_s (me_l (me_l (me_l (me_l (List.mem_of_getElem? (i := 6) rfl)))))) fa_n)))) (by decide +kernel)) ggX11_journey_X3_likeOf
theorem dX11_journey_36 : decode cX11_journey 36 = .ok (.invokevirtual 345, 3) := z_dd_182 (by decide +kernel)
theorem dX11_journey_39 : decode cX11_journey 39 = .ok (.ireturn, 1) := z_dd_172 (by decide +kernel)
theorem dX11_pool_0 : decode cX11_pool 0 = .ok (.iload_n 1, 1) := z_dd_27 (by decide +kernel)
set_option maxRecDepth 20000 in
theorem ggX11_pool_X11_isDay : GoodIn wsX11_pool wsX11_isDay := goodIn_sub (fa_c (me_s (me_l (me_l (me_l (me_l (List.mem_of_getElem? (i := 9) rfl)))))) (fa_c (me_s (me_l (me_l (me_l (me_l (List.mem_of_getElem? (i := 10) rfl)))))) (fa_c (me_s (me_l (me_l (me_l (me_l (List.mem_of_getElem? (i := 11) rfl)))))) (fa_c (me_s (me_l (me_l (me_l (me_l (List.mem_of_getElem? (i := 8) rfl)))))) (fa_c (me_s (me_l (me_l (me_l (me_l (List.mem_of_getElem? (i := 12) rfl)))))) fa_n))))) (by decide +kernel)
set_option maxRecDepth 20000 in
theorem gX11_pool_X11_isDay : GoodIn wsX11_pool (va_wsS RX11 100 yX11_isDay wsX11_isDay) := goodIn_app (goodIn_sub (fa_c (me_s (me_l (me_l (me_l (me_l (List.mem_of_getElem? (i := 6) rfl)))))) (fa_c (me_s (me_l (me_l (me_l (me_l (List.mem_of_getElem? (i := 7) rfl)))))) (fa_c (me_s (me_l (me_l (me_l (me_l (List.mem_of_getElem? (i := 8) rfl)))))) fa_n))) (by decide +kernel)) ggX11_pool_X11_isDay
theorem dX11_pool_1 : decode cX11_pool 1 = .ok (.invokestatic 100, 3) := z_dd_184 (by decide +kernel)
theorem dX11_pool_4 : decode cX11_pool 4 = .ok (.ifCond .eq 19, 3) := z_dd_153 (by decide +kernel)
theorem dX11_pool_7 : decode cX11_pool 7 = .ok (.iload_n 2, 1) := z_dd_28 (by decide +kernel)
set_option maxRecDepth 20000 in
theorem ggX11_pool_X11_isWay : GoodIn wsX11_pool wsX11_isWay := goodIn_sub (fa_c (me_s (me_l (me_l (me_l (me_l (List.mem_of_getElem? (i := 15) rfl)))))) (fa_c (me_s (me_l (me_l (me_l (me_l (List.mem_of_getElem? (i := 10) rfl)))))) (fa_c (me_s (me_l (me_l (me_l (me_l (List.mem_of_getElem? (i := 11) rfl)))))) (fa_c (me_s (me_l (me_l (me_l (me_l (List.mem_of_getElem? (i := 8) rfl)))))) (fa_c (me_s (me_l (me_l (me_l (me_l (List.mem_of_getElem? (i := 12) rfl)))))) fa_n))))) (by decide +kernel)
set_option maxRecDepth 20000 in
theorem gX11_pool_X11_isWay : GoodIn wsX11_pool (va_wsS RX11 322 yX11_isWay wsX11_isWay) := goodIn_app (goodIn_sub (fa_c (me_s (me_l (me_l (me_l (me_l (List.mem_of_getElem? (i := 13) rfl)))))) (fa_c (me_s (me_l (me_l (me_l (me_l (List.mem_of_getElem? (i := 14) rfl)))))) (fa_c (me_s (me_l (me_l (me_l (me_l (List.mem_of_getElem? (i := 8) rfl)))))) fa_n))) (by decide +kernel)) ggX11_pool_X11_isWay
theorem dX11_pool_8 : decode cX11_pool 8 = .ok (.invokestatic 322, 3) := z_dd_184 (by decide +kernel)
theorem dX11_pool_11 : decode cX11_pool 11 = .ok (.ifCond .eq 12, 3) := z_dd_153 (by decide +kernel)
theorem dX11_pool_14 : decode cX11_pool 14 = .ok (.iload_n 3, 1) := z_dd_29 (by decide +kernel)
theorem dX11_pool_15 : decode cX11_pool 15 = .ok (.iconst 0, 1) := z_dd_3 (by decide +kernel)
theorem dX11_pool_16 : decode cX11_pool 16 = .ok (.iconst 3, 1) := z_dd_6 (by decide +kernel)
set_option maxRecDepth 20000 in
theorem ggX11_pool_X11_within : GoodIn wsX11_pool wsX11_within := goodIn_sub (fa_c (me_s (me_l (me_l (me_l (me_l (List.mem_of_getElem? (i := 12) rfl)))))) fa_n) (by decide +kernel)
set_option maxRecDepth 20000 in
theorem gX11_pool_X11_within : GoodIn wsX11_pool (va_wsS RX11 88 yX11_within wsX11_within) := goodIn_app (goodIn_sub (fa_c (me_s (me_l (me_l (me_l (me_l (List.mem_of_getElem? (i := 10) rfl)))))) (fa_c (me_s (me_l (me_l (me_l (me_l (List.mem_of_getElem? (i := 11) rfl)))))) (fa_c (me_s (me_l (me_l (me_l (me_l (List.mem_of_getElem? (i := 8) rfl)))))) fa_n))) (by decide +kernel)) ggX11_pool_X11_within
theorem dX11_pool_17 : decode cX11_pool 17 = .ok (.invokestatic 88, 3) := z_dd_184 (by decide +kernel)
theorem dX11_pool_20 : decode cX11_pool 20 = .ok (.ifCond .ne 5, 3) := z_dd_154 (by decide +kernel)
theorem dX11_pool_25 : decode cX11_pool 25 = .ok (.aload_n 0, 1) := z_dd_42 (by decide +kernel)
theorem dX11_pool_26 : decode cX11_pool 26 = .ok (.getfield 68, 3) := z_dd_180 (by decide +kernel)
theorem dX11_pool_29 : decode cX11_pool 29 = .ok (.aload_n 0, 1) := z_dd_42 (by decide +kernel)
theorem dX11_pool_30 : decode cX11_pool 30 = .ok (.getfield 16, 3) := z_dd_180 (by decide +kernel)
theorem dX11_pool_33 : decode cX11_pool 33 = .ok (.iload_n 1, 1) := z_dd_27 (by decide +kernel)
theorem dX11_pool_34 : decode cX11_pool 34 = .ok (.iload_n 2, 1) := z_dd_28 (by decide +kernel)
set_option maxRecDepth 20000 in
theorem ggX11_pool_X3_poolOf : GoodIn wsX11_pool wsX3_poolOf := goodIn_sub (fa_c (me_s (me_l (me_l (me_l (me_l (List.mem_of_getElem? (i := 20) rfl)))))) (fa_a (fa_a (fa_a (fa_c (me_s (me_l (me_l (me_l (me_l (List.mem_of_getElem? (i := 21) rfl)))))) (fa_c (me_s (me_l (me_l (me_l (me_l (List.mem_of_getElem? (i := 22) rfl)))))) (fa_c (me_s (me_l (me_l (me_l (me_l (List.mem_of_getElem? (i := 23) rfl)))))) (fa_c (me_s (me_l (me_l (me_l (me_r (me_l (List.mem_of_getElem? (i := 0) rfl))))))) (fa_c (me_s (me_l (me_l (me_l (me_r (me_l (List.mem_of_getElem? (i := 1) rfl))))))) (fa_c (me_s (me_l (me_l (me_l (me_r (me_l (List.mem_of_getElem? (i := 2) rfl))))))) (fa_c (me_s (me_l (me_l (me_l (me_r (me_l (List.mem_of_getElem? (i := 3) rfl))))))) (fa_c (me_s (me_l (me_l (me_l (me_r (me_l (List.mem_of_getElem? (i := 4) rfl))))))) (fa_c (me_s (me_l (me_l (me_l (me_r (me_l (List.mem_of_getElem? (i := 5) rfl))))))) (fa_c (me_s (me_l (me_l (me_l (me_l (List.mem_of_getElem? (i := 19) rfl)))))) (fa_c (me_s (me_l (me_l (me_l (me_r (me_l (List.mem_of_getElem? (i := 6) rfl))))))) (fa_c (me_s (me_l (me_l (me_l (me_r (me_l (List.mem_of_getElem? (i := 7) rfl))))))) (fa_c (me_s (me_l (me_l (me_l (me_r (me_l (List.mem_of_getElem? (i := 8) rfl))))))) (fa_c (me_s (me_l (me_l (me_l (me_r (me_l (List.mem_of_getElem? (i := 9) rfl))))))) (fa_c (me_s (me_l (me_l (me_l (me_r (me_l (List.mem_of_getElem? (i := 10) rfl))))))) (fa_c (me_s (me_l (me_l (me_l (me_r (me_l (List.mem_of_getElem? (i := 11) rfl))))))) (fa_c (me_s (me_l (me_l (me_l (me_r (me_l (List.mem_of_getElem? (i := 12) rfl))))))) (fa_c (me_s (me_l (me_l (me_l (me_r (me_l (List.mem_of_getElem? (i := 13) rfl))))))) (fa_c (me_s (me_l (me_l (me_l (me_r (me_l (List.mem_of_getElem? (i := 14) rfl))))))) (fa_c (me_s (me_l (me_l (me_l (me_r (me_l (List.mem_of_getElem? (i := 15) rfl))))))) (fa_c (me_s (me_l (me_l (me_l (me_r (me_l (List.mem_of_getElem? (i := 16) rfl))))))) (fa_c (me_s (me_l (me_l (me_l (me_r (me_l (List.mem_of_getElem? (i := 17) rfl))))))) (fa_c (me_s (me_l (me_l (me_l (me_r (me_l (List.mem_of_getElem? (i := 18) rfl))))))) (fa_c (me_s (me_l (me_l (me_l (me_r (me_l (List.mem_of_getElem? (i := 19) rfl))))))) fa_n)))))))))))))))))))))))) (fa_c (me_s (me_l (me_l (me_l (me_r (me_l (List.mem_of_getElem? (i := 20) rfl))))))) (fa_c (me_s (me_l (me_l (me_l (me_r (me_l (List.mem_of_getElem? (i := 21) rfl))))))) (fa_c (me_s (me_l (me_l (me_l (me_r (me_l (List.mem_of_getElem? (i := 22) rfl))))))) (fa_c (me_s (me_l (me_l (me_l (me_r (me_l (List.mem_of_getElem? (i := 23) rfl))))))) (fa_c (me_s (me_l (me_l (me_l (me_r (me_r (List.mem_of_getElem? (i := 0) rfl))))))) (fa_c (me_s (me_l (me_l (me_l (me_r (me_r (List.mem_of_getElem? (i := 1) rfl))))))) (fa_c (me_s (me_l (me_l (me_l (me_r (me_r (List.mem_of_getElem? (i := 2) rfl))))))) (fa_c (me_s (me_l (me_l (me_l (me_r (me_r (List.mem_of_getElem? (i := 3) rfl))))))) (fa_c (me_s (me_l (me_l (me_l (me_r (me_r (List.mem_of_getElem? (i := 4) rfl))))))) (fa_c (me_s (me_l (me_l (me_l (me_r (me_r (List.mem_of_getElem? (i := 5) rfl))))))) (fa_c (me_s (me_l (me_l (me_l (me_r (me_r (List.mem_of_getElem? (i := 6) rfl))))))) (fa_c (me_s (me_l (me_l (me_l (me_r (me_r (List.mem_of_getElem? (i := 7) rfl))))))) (fa_c (me_s (me_l (me_l (me_l (me_r (me_r (List.mem_of_getElem? (i := 8) rfl))))))) (fa_c (me_s (me_l (me_l (me_l (me_r (me_r (List.mem_of_getElem? (i := 9) rfl))))))) (fa_c (me_s (me_l (me_l (me_l (me_r (me_r (List.mem_of_getElem? (i := 10) rfl))))))) (fa_c (me_s (me_l (me_l (me_l (me_r (me_r (List.mem_of_getElem? (i := 11) rfl))))))) (fa_c (me_s (me_l (me_l (me_l (me_r (me_r (List.mem_of_getElem? (i := 12) rfl))))))) fa_n)))))))))))))))))) (fun w h => (me_s (me_l (me_r h))))) (fun w h => (me_s (me_r h))))) (by decide +kernel)
set_option maxRecDepth 20000 in
theorem gX11_pool_X3_poolOf : GoodIn wsX11_pool (wsV RX11 349 RX3 yX3_poolOf wsX3_poolOf) := goodIn_app (goodIn_sub (fa_c (me_s (me_l (me_l (me_l (me_l (List.mem_of_getElem? (i := 16) rfl)))))) (fa_c (me_s (me_l (me_l (me_l (me_l (List.mem_of_getElem? (i := 17) rfl)))))) (fa_c (me_s (me_l (me_l (me_l (me_l (List.mem_of_getElem? (i := 18) rfl)))))) (fa_c (me_s (me_l (me_l (me_l (me_l (List.mem_of_getElem? (i := 19) rfl)))))) fa_n)))) (by decide +kernel)) ggX11_pool_X3_poolOf
theorem dX11_pool_35 : decode cX11_pool 35 = .ok (.invokevirtual 349, 3) := z_dd_182 (by decide +kernel)
theorem dX11_pool_38 : decode cX11_pool 38 = .ok (.ifCond .ne 5, 3) := z_dd_154 (by decide +kernel)
theorem dX11_pool_43 : decode cX11_pool 43 = .ok (.iload_n 3, 1) := z_dd_29 (by decide +kernel)
theorem dX11_pool_44 : decode cX11_pool 44 = .ok (.tableswitch 52 0 2 #[28, 36, 44], 28) := by decide +kernel
theorem dX11_pool_72 : decode cX11_pool 72 = .ok (.aload_n 0, 1) := z_dd_42 (by decide +kernel)
theorem dX11_pool_73 : decode cX11_pool 73 = .ok (.getfield 68, 3) := z_dd_180 (by decide +kernel)
theorem dX11_pool_76 : decode cX11_pool 76 = .ok (.getfield 353, 3) := z_dd_180 (by decide +kernel)
theorem dX11_pool_79 : decode cX11_pool 79 = .ok (.ireturn, 1) := z_dd_172 (by decide +kernel)
theorem dX11_pool_80 : decode cX11_pool 80 = .ok (.aload_n 0, 1) := z_dd_42 (by decide +kernel)
theorem dX11_pool_81 : decode cX11_pool 81 = .ok (.getfield 68, 3) := z_dd_180 (by decide +kernel)
theorem dX11_pool_84 : decode cX11_pool 84 = .ok (.getfield 356, 3) := z_dd_180 (by decide +kernel)
theorem dX11_pool_87 : decode cX11_pool 87 = .ok (.ireturn, 1) := z_dd_172 (by decide +kernel)
theorem dX11_pool_88 : decode cX11_pool 88 = .ok (.aload_n 0, 1) := z_dd_42 (by decide +kernel)
theorem dX11_pool_89 : decode cX11_pool 89 = .ok (.getfield 68, 3) := z_dd_180 (by decide +kernel)
theorem dX11_pool_92 : decode cX11_pool 92 = .ok (.getfield 359, 3) := z_dd_180 (by decide +kernel)
theorem dX11_pool_95 : decode cX11_pool 95 = .ok (.ireturn, 1) := z_dd_172 (by decide +kernel)
theorem dX11_pool_96 : decode cX11_pool 96 = .ok (.aload_n 0, 1) := z_dd_42 (by decide +kernel)
theorem dX11_pool_97 : decode cX11_pool 97 = .ok (.getfield 68, 3) := z_dd_180 (by decide +kernel)
theorem dX11_pool_100 : decode cX11_pool 100 = .ok (.getfield 362, 3) := z_dd_180 (by decide +kernel)
theorem dX11_pool_103 : decode cX11_pool 103 = .ok (.ireturn, 1) := z_dd_172 (by decide +kernel)
theorem dX11_pool_41 : decode cX11_pool 41 = .ok (.iconst (-1), 1) := z_dd_2 (by decide +kernel)
theorem dX11_pool_42 : decode cX11_pool 42 = .ok (.ireturn, 1) := z_dd_172 (by decide +kernel)
theorem dX11_pool_23 : decode cX11_pool 23 = .ok (.iconst (-1), 1) := z_dd_2 (by decide +kernel)
theorem dX11_pool_24 : decode cX11_pool 24 = .ok (.ireturn, 1) := z_dd_172 (by decide +kernel)
theorem dX11_remains_0 : decode cX11_remains 0 = .ok (.aload_n 0, 1) := z_dd_42 (by decide +kernel)
theorem dX11_remains_1 : decode cX11_remains 1 = .ok (.getfield 16, 3) := z_dd_180 (by decide +kernel)
theorem dX11_remains_4 : decode cX11_remains 4 = .ok (.iload_n 1, 1) := z_dd_27 (by decide +kernel)
set_option maxRecDepth 20000 in
theorem ggX11_remains_X2_has : GoodIn wsX11_remains wsX2_has := goodIn_sub (fa_c (me_s (me_l (me_l (me_l (List.mem_of_getElem? (i := 7) rfl))))) (fa_a (fa_c (me_s (me_l (me_l (me_l (List.mem_of_getElem? (i := 8) rfl))))) fa_n) (fun w h => (me_s (me_l (me_r h)))))) (by decide +kernel)
set_option maxRecDepth 20000 in
theorem gX11_remains_X2_has : GoodIn wsX11_remains (wsV RX11 96 RX2 yX2_has wsX2_has) := goodIn_app (goodIn_sub (fa_c (me_s (me_l (me_l (me_l (List.mem_of_getElem? (i := 3) rfl))))) (fa_c (me_s (me_l (me_l (me_l (List.mem_of_getElem? (i := 4) rfl))))) (fa_c (me_s (me_l (me_l (me_l (List.mem_of_getElem? (i := 5) rfl))))) (fa_c (me_s (me_l (me_l (me_l (List.mem_of_getElem? (i := 6) rfl))))) fa_n)))) (by decide +kernel)) ggX11_remains_X2_has
theorem dX11_remains_5 : decode cX11_remains 5 = .ok (.invokevirtual 96, 3) := z_dd_182 (by decide +kernel)
theorem dX11_remains_8 : decode cX11_remains 8 = .ok (.ifCond .eq 27, 3) := z_dd_153 (by decide +kernel)
theorem dX11_remains_11 : decode cX11_remains 11 = .ok (.aload_n 0, 1) := z_dd_42 (by decide +kernel)
theorem dX11_remains_12 : decode cX11_remains 12 = .ok (.getfield 75, 3) := z_dd_180 (by decide +kernel)
theorem dX11_remains_15 : decode cX11_remains 15 = .ok (.iload_n 1, 1) := z_dd_27 (by decide +kernel)
set_option maxRecDepth 20000 in
theorem ggX11_remains_X1_unitsOf : GoodIn wsX11_remains wsX1_unitsOf := goodIn_sub (fa_c (me_s (me_l (me_l (me_l (List.mem_of_getElem? (i := 13) rfl))))) (fa_a (fa_c (me_s (me_l (me_l (me_l (List.mem_of_getElem? (i := 14) rfl))))) (fa_c (me_s (me_l (me_l (me_l (List.mem_of_getElem? (i := 15) rfl))))) fa_n)) (fun w h => (me_s (me_r h))))) (by decide +kernel)
set_option maxRecDepth 20000 in
theorem gX11_remains_X1_unitsOf : GoodIn wsX11_remains (wsV RX11 368 RX1 yX1_unitsOf wsX1_unitsOf) := goodIn_app (goodIn_sub (fa_c (me_s (me_l (me_l (me_l (List.mem_of_getElem? (i := 9) rfl))))) (fa_c (me_s (me_l (me_l (me_l (List.mem_of_getElem? (i := 10) rfl))))) (fa_c (me_s (me_l (me_l (me_l (List.mem_of_getElem? (i := 11) rfl))))) (fa_c (me_s (me_l (me_l (me_l (List.mem_of_getElem? (i := 12) rfl))))) fa_n)))) (by decide +kernel)) ggX11_remains_X1_unitsOf
theorem dX11_remains_16 : decode cX11_remains 16 = .ok (.invokevirtual 368, 3) := z_dd_182 (by decide +kernel)
theorem dX11_remains_19 : decode cX11_remains 19 = .ok (.aload_n 0, 1) := z_dd_42 (by decide +kernel)
theorem dX11_remains_20 : decode cX11_remains 20 = .ok (.getfield 16, 3) := z_dd_180 (by decide +kernel)
theorem dX11_remains_23 : decode cX11_remains 23 = .ok (.getfield 374, 3) := z_dd_180 (by decide +kernel)
theorem dX11_remains_26 : decode cX11_remains 26 = .ok (.iload_n 1, 1) := z_dd_27 (by decide +kernel)
theorem dX11_remains_27 : decode cX11_remains 27 = .ok (.iaload, 1) := z_dd_46 (by decide +kernel)
theorem dX11_remains_28 : decode cX11_remains 28 = .ok (.if_icmp .lt 7, 3) := z_dd_161 (by decide +kernel)
theorem dX11_remains_35 : decode cX11_remains 35 = .ok (.iconst 0, 1) := z_dd_3 (by decide +kernel)
theorem dX11_remains_36 : decode cX11_remains 36 = .ok (.ireturn, 1) := z_dd_172 (by decide +kernel)
theorem dX11_remains_31 : decode cX11_remains 31 = .ok (.iconst 1, 1) := z_dd_4 (by decide +kernel)
theorem dX11_remains_32 : decode cX11_remains 32 = .ok (.goto 4, 3) := z_dd_167 (by decide +kernel)
theorem dX11_dealOut_0 : decode cX11_dealOut 0 = .ok (.aload_n 0, 1) := z_dd_42 (by decide +kernel)
theorem dX11_dealOut_1 : decode cX11_dealOut 1 = .ok (.getfield 75, 3) := z_dd_180 (by decide +kernel)
set_option maxRecDepth 20000 in
theorem ggX11_dealOut_X1_clear : GoodIn wsX11_dealOut wsX1_clear := goodIn_sub (fa_c (me_s (me_l (me_l (me_l (me_l (me_l (me_l (me_l (List.mem_of_getElem? (i := 9) rfl))))))))) (fa_a (fa_c (me_s (me_l (me_l (me_l (me_l (me_l (me_l (me_l (List.mem_of_getElem? (i := 10) rfl))))))))) fa_n) (fun w h => (me_s (me_l (me_l (me_l (me_r h)))))))) (by decide +kernel)
set_option maxRecDepth 20000 in
theorem gX11_dealOut_X1_clear : GoodIn wsX11_dealOut (wsV RX11 377 RX1 yX1_clear wsX1_clear) := goodIn_app (goodIn_sub (fa_c (me_s (me_l (me_l (me_l (me_l (me_l (me_l (me_l (List.mem_of_getElem? (i := 5) rfl))))))))) (fa_c (me_s (me_l (me_l (me_l (me_l (me_l (me_l (me_l (List.mem_of_getElem? (i := 6) rfl))))))))) (fa_c (me_s (me_l (me_l (me_l (me_l (me_l (me_l (me_l (List.mem_of_getElem? (i := 7) rfl))))))))) (fa_c (me_s (me_l (me_l (me_l (me_l (me_l (me_l (me_l (List.mem_of_getElem? (i := 8) rfl))))))))) fa_n)))) (by decide +kernel)) ggX11_dealOut_X1_clear
theorem dX11_dealOut_4 : decode cX11_dealOut 4 = .ok (.invokevirtual 377, 3) := z_dd_182 (by decide +kernel)
theorem dX11_dealOut_7 : decode cX11_dealOut 7 = .ok (.iconst 0, 1) := z_dd_3 (by decide +kernel)
theorem dX11_dealOut_8 : decode cX11_dealOut 8 = .ok (.istore_n 3, 1) := z_dd_62 (by decide +kernel)
theorem dX11_dealOut_9 : decode cX11_dealOut 9 = .ok (.iload_n 3, 1) := z_dd_29 (by decide +kernel)
theorem dX11_dealOut_10 : decode cX11_dealOut 10 = .ok (.aload_n 0, 1) := z_dd_42 (by decide +kernel)
theorem dX11_dealOut_11 : decode cX11_dealOut 11 = .ok (.getfield 16, 3) := z_dd_180 (by decide +kernel)
theorem dX11_dealOut_14 : decode cX11_dealOut 14 = .ok (.getfield 373, 3) := z_dd_180 (by decide +kernel)
theorem dX11_dealOut_17 : decode cX11_dealOut 17 = .ok (.if_icmp .ge 33, 3) := z_dd_162 (by decide +kernel)
theorem dX11_dealOut_50 : decode cX11_dealOut 50 = .ok (.iload_n 1, 1) := z_dd_27 (by decide +kernel)
theorem dX11_dealOut_51 : decode cX11_dealOut 51 = .ok (.iconst 1, 1) := z_dd_4 (by decide +kernel)
theorem dX11_dealOut_52 : decode cX11_dealOut 52 = .ok (.if_icmp .ne 13, 3) := z_dd_160 (by decide +kernel)
theorem dX11_dealOut_65 : decode cX11_dealOut 65 = .ok (.iload_n 1, 1) := z_dd_27 (by decide +kernel)
theorem dX11_dealOut_66 : decode cX11_dealOut 66 = .ok (.iconst 2, 1) := z_dd_5 (by decide +kernel)
theorem dX11_dealOut_67 : decode cX11_dealOut 67 = .ok (.if_icmp .ne 14, 3) := z_dd_160 (by decide +kernel)
theorem dX11_dealOut_81 : decode cX11_dealOut 81 = .ok (.return_, 1) := z_dd_177 (by decide +kernel)
theorem dX11_dealOut_70 : decode cX11_dealOut 70 = .ok (.aload_n 0, 1) := z_dd_42 (by decide +kernel)
theorem dX11_dealOut_71 : decode cX11_dealOut 71 = .ok (.getfield 75, 3) := z_dd_180 (by decide +kernel)
theorem dX11_dealOut_74 : decode cX11_dealOut 74 = .ok (.aload_n 0, 1) := z_dd_42 (by decide +kernel)
theorem dX11_dealOut_75 : decode cX11_dealOut 75 = .ok (.getfield 16, 3) := z_dd_180 (by decide +kernel)
set_option maxRecDepth 20000 in
theorem ggX11_dealOut_X1_sell : GoodIn wsX11_dealOut wsX1_sell := goodIn_sub (fa_c (me_s (me_l (me_l (me_l (me_l (me_l (me_l (me_r (me_r (me_r (me_r (me_l (List.mem_of_getElem? (i := 23) rfl))))))))))))) (fa_a (fa_a (fa_a (fa_c (me_s (me_l (me_l (me_l (me_l (me_l (me_l (me_r (me_r (me_r (me_r (me_r (List.mem_of_getElem? (i := 0) rfl))))))))))))) (fa_c (me_s (me_l (me_l (me_l (me_l (me_l (me_l (me_l (List.mem_of_getElem? (i := 10) rfl))))))))) (fa_c (me_s (me_l (me_l (me_l (me_l (me_l (me_l (me_r (me_r (me_r (me_r (me_l (List.mem_of_getElem? (i := 11) rfl))))))))))))) (fa_c (me_s (me_l (me_l (me_l (me_l (me_l (me_l (me_r (me_r (me_r (me_r (me_r (List.mem_of_getElem? (i := 1) rfl))))))))))))) (fa_c (me_s (me_l (me_l (me_l (me_l (me_l (me_l (me_r (me_r (me_r (me_r (me_r (List.mem_of_getElem? (i := 2) rfl))))))))))))) (fa_c (me_s (me_l (me_l (me_l (me_l (me_l (me_l (me_r (me_r (me_r (me_r (me_l (List.mem_of_getElem? (i := 4) rfl))))))))))))) (fa_c (me_s (me_l (me_l (me_l (me_l (me_l (me_l (me_r (me_r (me_r (me_l (List.mem_of_getElem? (i := 3) rfl)))))))))))) (fa_c (me_s (me_l (me_l (me_l (me_l (me_l (me_l (me_r (me_r (me_r (me_r (me_l (List.mem_of_getElem? (i := 5) rfl))))))))))))) (fa_c (me_s (me_l (me_l (me_l (me_l (me_l (me_l (me_r (me_r (me_r (me_r (me_l (List.mem_of_getElem? (i := 16) rfl))))))))))))) (fa_c (me_s (me_l (me_l (me_l (me_l (me_l (me_l (me_r (me_r (me_r (me_r (me_l (List.mem_of_getElem? (i := 17) rfl))))))))))))) (fa_c (me_s (me_l (me_l (me_l (me_l (me_l (me_l (me_r (me_r (me_r (me_r (me_l (List.mem_of_getElem? (i := 18) rfl))))))))))))) (fa_c (me_s (me_l (me_l (me_l (me_l (me_l (me_l (me_l (List.mem_of_getElem? (i := 8) rfl))))))))) (fa_c (me_s (me_l (me_l (me_l (me_l (me_l (me_l (me_r (me_r (me_r (me_r (me_l (List.mem_of_getElem? (i := 19) rfl))))))))))))) (fa_c (me_s (me_l (me_l (me_l (me_l (me_l (me_l (me_r (me_r (me_r (me_r (me_r (List.mem_of_getElem? (i := 3) rfl))))))))))))) (fa_c (me_s (me_l (me_l (me_l (me_l (me_l (me_l (me_r (me_r (me_r (me_r (me_r (List.mem_of_getElem? (i := 4) rfl))))))))))))) (fa_c (me_s (me_l (me_l (me_l (me_l (me_l (me_l (me_r (me_r (me_r (me_r (me_r (List.mem_of_getElem? (i := 5) rfl))))))))))))) (fa_c (me_s (me_l (me_l (me_l (me_l (me_l (me_l (me_r (me_r (me_r (me_r (me_r (List.mem_of_getElem? (i := 6) rfl))))))))))))) (fa_c (me_s (me_l (me_l (me_l (me_l (me_l (me_l (me_r (me_r (me_r (me_r (me_r (List.mem_of_getElem? (i := 7) rfl))))))))))))) (fa_c (me_s (me_l (me_l (me_l (me_l (me_l (me_l (me_r (me_r (me_r (me_r (me_r (List.mem_of_getElem? (i := 8) rfl))))))))))))) (fa_c (me_s (me_l (me_l (me_l (me_l (me_l (me_l (me_r (me_r (me_r (me_r (me_r (List.mem_of_getElem? (i := 9) rfl))))))))))))) (fa_c (me_s (me_l (me_l (me_l (me_l (me_l (me_l (me_r (me_r (me_r (me_r (me_r (List.mem_of_getElem? (i := 10) rfl))))))))))))) (fa_c (me_s (me_l (me_l (me_l (me_l (me_l (me_l (me_r (me_r (me_r (me_r (me_r (List.mem_of_getElem? (i := 11) rfl))))))))))))) (fa_c (me_s (me_l (me_l (me_l (me_l (me_l (me_l (me_r (me_r (me_r (me_r (me_r (List.mem_of_getElem? (i := 12) rfl))))))))))))) (fa_c (me_s (me_l (me_l (me_l (me_l (me_l (me_l (me_r (me_l (List.mem_of_getElem? (i := 6) rfl)))))))))) fa_n)))))))))))))))))))))))) (fa_c (me_s (me_l (me_l (me_l (me_l (me_l (me_l (me_r (me_l (List.mem_of_getElem? (i := 7) rfl)))))))))) (fa_c (me_s (me_l (me_l (me_l (me_l (me_l (me_l (me_r (me_l (List.mem_of_getElem? (i := 8) rfl)))))))))) (fa_c (me_s (me_l (me_l (me_l (me_l (me_l (me_l (me_r (me_l (List.mem_of_getElem? (i := 9) rfl)))))))))) (fa_c (me_s (me_l (me_l (me_l (me_l (me_l (me_l (me_r (me_l (List.mem_of_getElem? (i := 10) rfl)))))))))) fa_n))))) (fun w h => (me_s (me_l (me_l (me_l (me_r h))))))) (fun w h => (me_s (me_l (me_l (me_l (me_l (me_r h))))))))) (by decide +kernel)
set_option maxRecDepth 20000 in
theorem gX11_dealOut_X1_sell : GoodIn wsX11_dealOut (wsV RX11 384 RX1 yX1_sell wsX1_sell) := goodIn_app (goodIn_sub (fa_c (me_s (me_l (me_l (me_l (me_l (me_l (me_l (me_r (me_r (me_r (me_r (me_l (List.mem_of_getElem? (i := 20) rfl))))))))))))) (fa_c (me_s (me_l (me_l (me_l (me_l (me_l (me_l (me_r (me_r (me_r (me_r (me_l (List.mem_of_getElem? (i := 21) rfl))))))))))))) (fa_c (me_s (me_l (me_l (me_l (me_l (me_l (me_l (me_r (me_r (me_r (me_r (me_l (List.mem_of_getElem? (i := 22) rfl))))))))))))) (fa_c (me_s (me_l (me_l (me_l (me_l (me_l (me_l (me_l (List.mem_of_getElem? (i := 8) rfl))))))))) fa_n)))) (by decide +kernel)) ggX11_dealOut_X1_sell
theorem dX11_dealOut_78 : decode cX11_dealOut 78 = .ok (.invokevirtual 384, 3) := z_dd_182 (by decide +kernel)
theorem dX11_dealOut_55 : decode cX11_dealOut 55 = .ok (.aload_n 0, 1) := z_dd_42 (by decide +kernel)
theorem dX11_dealOut_56 : decode cX11_dealOut 56 = .ok (.getfield 75, 3) := z_dd_180 (by decide +kernel)
set_option maxRecDepth 20000 in
theorem ggX11_dealOut_X1_alike : GoodIn wsX11_dealOut wsX1_alike := goodIn_sub (fa_c (me_s (me_l (me_l (me_l (me_l (me_l (me_l (me_r (me_r (me_r (me_r (me_l (List.mem_of_getElem? (i := 15) rfl))))))))))))) (fa_a (fa_c (me_s (me_l (me_l (me_l (me_l (me_l (me_l (me_l (List.mem_of_getElem? (i := 10) rfl))))))))) (fa_c (me_s (me_l (me_l (me_l (me_l (me_l (me_l (me_r (me_r (me_r (me_r (me_l (List.mem_of_getElem? (i := 11) rfl))))))))))))) (fa_c (me_s (me_l (me_l (me_l (me_l (me_l (me_l (me_r (me_r (me_r (me_r (me_l (List.mem_of_getElem? (i := 16) rfl))))))))))))) (fa_c (me_s (me_l (me_l (me_l (me_l (me_l (me_l (me_r (me_r (me_r (me_r (me_l (List.mem_of_getElem? (i := 17) rfl))))))))))))) (fa_c (me_s (me_l (me_l (me_l (me_l (me_l (me_l (me_r (me_r (me_r (me_r (me_l (List.mem_of_getElem? (i := 18) rfl))))))))))))) (fa_c (me_s (me_l (me_l (me_l (me_l (me_l (me_l (me_l (List.mem_of_getElem? (i := 8) rfl))))))))) (fa_c (me_s (me_l (me_l (me_l (me_l (me_l (me_l (me_r (me_r (me_r (me_r (me_l (List.mem_of_getElem? (i := 19) rfl))))))))))))) fa_n))))))) (fun w h => (me_s (me_l (me_l (me_l (me_r h)))))))) (by decide +kernel)
set_option maxRecDepth 20000 in
theorem gX11_dealOut_X1_alike : GoodIn wsX11_dealOut (wsV RX11 381 RX1 yX1_alike wsX1_alike) := goodIn_app (goodIn_sub (fa_c (me_s (me_l (me_l (me_l (me_l (me_l (me_l (me_r (me_r (me_r (me_r (me_l (List.mem_of_getElem? (i := 12) rfl))))))))))))) (fa_c (me_s (me_l (me_l (me_l (me_l (me_l (me_l (me_r (me_r (me_r (me_r (me_l (List.mem_of_getElem? (i := 13) rfl))))))))))))) (fa_c (me_s (me_l (me_l (me_l (me_l (me_l (me_l (me_r (me_r (me_r (me_r (me_l (List.mem_of_getElem? (i := 14) rfl))))))))))))) (fa_c (me_s (me_l (me_l (me_l (me_l (me_l (me_l (me_l (List.mem_of_getElem? (i := 8) rfl))))))))) fa_n)))) (by decide +kernel)) ggX11_dealOut_X1_alike
theorem dX11_dealOut_59 : decode cX11_dealOut 59 = .ok (.invokevirtual 381, 3) := z_dd_182 (by decide +kernel)
theorem dX11_dealOut_62 : decode cX11_dealOut 62 = .ok (.goto 19, 3) := z_dd_167 (by decide +kernel)
theorem dX11_dealOut_20 : decode cX11_dealOut 20 = .ok (.aload_n 0, 1) := z_dd_42 (by decide +kernel)
theorem dX11_dealOut_21 : decode cX11_dealOut 21 = .ok (.getfield 75, 3) := z_dd_180 (by decide +kernel)
theorem dX11_dealOut_24 : decode cX11_dealOut 24 = .ok (.aload_n 0, 1) := z_dd_42 (by decide +kernel)
theorem dX11_dealOut_25 : decode cX11_dealOut 25 = .ok (.getfield 30, 3) := z_dd_180 (by decide +kernel)
theorem dX11_dealOut_28 : decode cX11_dealOut 28 = .ok (.aload_n 0, 1) := z_dd_42 (by decide +kernel)
theorem dX11_dealOut_29 : decode cX11_dealOut 29 = .ok (.getfield 16, 3) := z_dd_180 (by decide +kernel)
theorem dX11_dealOut_32 : decode cX11_dealOut 32 = .ok (.iload_n 3, 1) := z_dd_29 (by decide +kernel)
theorem dX11_dealOut_33 : decode cX11_dealOut 33 = .ok (.iload_n 2, 1) := z_dd_28 (by decide +kernel)
theorem dX11_dealOut_34 : decode cX11_dealOut 34 = .ok (.aload_n 0, 1) := z_dd_42 (by decide +kernel)
theorem dX11_dealOut_35 : decode cX11_dealOut 35 = .ok (.getfield 85, 3) := z_dd_180 (by decide +kernel)
set_option maxRecDepth 20000 in
theorem ggX11_dealOut_X6_unitsOf : GoodIn wsX11_dealOut wsX6_unitsOf := goodIn_sub (fa_c (me_s (me_l (me_l (me_l (me_l (me_l (me_l (me_l (List.mem_of_getElem? (i := 15) rfl))))))))) (fa_a (fa_a (fa_a (fa_a (fa_a (fa_c (me_s (me_l (me_l (me_l (me_l (me_l (me_l (me_l (List.mem_of_getElem? (i := 16) rfl))))))))) (fa_c (me_s (me_l (me_l (me_l (me_l (me_l (me_l (me_l (List.mem_of_getElem? (i := 17) rfl))))))))) (fa_c (me_s (me_l (me_l (me_l (me_l (me_l (me_l (me_l (List.mem_of_getElem? (i := 18) rfl))))))))) (fa_c (me_s (me_l (me_l (me_l (me_l (me_l (me_l (me_l (List.mem_of_getElem? (i := 19) rfl))))))))) (fa_c (me_s (me_l (me_l (me_l (me_l (me_l (me_l (me_l (List.mem_of_getElem? (i := 14) rfl))))))))) (fa_c (me_s (me_l (me_l (me_l (me_l (me_l (me_l (me_l (List.mem_of_getElem? (i := 20) rfl))))))))) (fa_c (me_s (me_l (me_l (me_l (me_l (me_l (me_l (me_l (List.mem_of_getElem? (i := 21) rfl))))))))) (fa_c (me_s (me_l (me_l (me_l (me_l (me_l (me_l (me_l (List.mem_of_getElem? (i := 22) rfl))))))))) (fa_c (me_s (me_l (me_l (me_l (me_l (me_l (me_l (me_l (List.mem_of_getElem? (i := 23) rfl))))))))) (fa_c (me_s (me_l (me_l (me_l (me_l (me_l (me_l (me_r (me_l (List.mem_of_getElem? (i := 0) rfl)))))))))) (fa_c (me_s (me_l (me_l (me_l (me_l (me_l (me_l (me_r (me_l (List.mem_of_getElem? (i := 1) rfl)))))))))) (fa_c (me_s (me_l (me_l (me_l (me_l (me_l (me_l (me_r (me_l (List.mem_of_getElem? (i := 2) rfl)))))))))) (fa_c (me_s (me_l (me_l (me_l (me_l (me_l (me_l (me_r (me_l (List.mem_of_getElem? (i := 3) rfl)))))))))) (fa_c (me_s (me_l (me_l (me_l (me_l (me_l (me_l (me_r (me_l (List.mem_of_getElem? (i := 4) rfl)))))))))) (fa_c (me_s (me_l (me_l (me_l (me_l (me_l (me_l (me_r (me_l (List.mem_of_getElem? (i := 5) rfl)))))))))) (fa_c (me_s (me_l (me_l (me_l (me_l (me_l (me_l (me_r (me_l (List.mem_of_getElem? (i := 6) rfl)))))))))) (fa_c (me_s (me_l (me_l (me_l (me_l (me_l (me_l (me_r (me_l (List.mem_of_getElem? (i := 7) rfl)))))))))) (fa_c (me_s (me_l (me_l (me_l (me_l (me_l (me_l (me_r (me_l (List.mem_of_getElem? (i := 8) rfl)))))))))) (fa_c (me_s (me_l (me_l (me_l (me_l (me_l (me_l (me_r (me_l (List.mem_of_getElem? (i := 9) rfl)))))))))) (fa_c (me_s (me_l (me_l (me_l (me_l (me_l (me_l (me_r (me_l (List.mem_of_getElem? (i := 10) rfl)))))))))) (fa_c (me_s (me_l (me_l (me_l (me_l (me_l (me_l (me_r (me_l (List.mem_of_getElem? (i := 11) rfl)))))))))) (fa_c (me_s (me_l (me_l (me_l (me_l (me_l (me_l (me_r (me_l (List.mem_of_getElem? (i := 12) rfl)))))))))) (fa_c (me_s (me_l (me_l (me_l (me_l (me_l (me_l (me_r (me_l (List.mem_of_getElem? (i := 13) rfl)))))))))) (fa_c (me_s (me_l (me_l (me_l (me_l (me_l (me_l (me_r (me_l (List.mem_of_getElem? (i := 14) rfl)))))))))) fa_n)))))))))))))))))))))))) (fa_a (fa_c (me_s (me_l (me_l (me_l (me_l (me_l (me_l (me_r (me_l (List.mem_of_getElem? (i := 15) rfl)))))))))) (fa_c (me_s (me_l (me_l (me_l (me_l (me_l (me_l (me_r (me_l (List.mem_of_getElem? (i := 16) rfl)))))))))) (fa_c (me_s (me_l (me_l (me_l (me_l (me_l (me_l (me_r (me_l (List.mem_of_getElem? (i := 17) rfl)))))))))) (fa_c (me_s (me_l (me_l (me_l (me_l (me_l (me_l (me_r (me_l (List.mem_of_getElem? (i := 18) rfl)))))))))) (fa_c (me_s (me_l (me_l (me_l (me_l (me_l (me_l (me_r (me_l (List.mem_of_getElem? (i := 19) rfl)))))))))) (fa_c (me_s (me_l (me_l (me_l (me_l (me_l (me_l (me_r (me_l (List.mem_of_getElem? (i := 20) rfl)))))))))) (fa_c (me_s (me_l (me_l (me_l (me_l (me_l (me_l (me_r (me_l (List.mem_of_getElem? (i := 21) rfl)))))))))) (fa_c (me_s (me_l (me_l (me_l (me_l (me_l (me_l (me_r (me_l (List.mem_of_getElem? (i := 22) rfl)))))))))) (fa_c (me_s (me_l (me_l (me_l (me_l (me_l (me_l (me_r (me_l (List.mem_of_getElem? (i := 23) rfl)))))))))) (fa_c (me_s (me_l (me_l (me_l (me_l (me_l (me_l (me_r (me_r (me_l (List.mem_of_getElem? (i := 0) rfl))))))))))) (fa_c (me_s (me_l (me_l (me_l (me_l (me_l (me_l (me_r (me_r (me_l (List.mem_of_getElem? (i := 1) rfl))))))))))) (fa_c (me_s (me_l (me_l (me_l (me_l (me_l (me_l (me_r (me_r (me_l (List.mem_of_getElem? (i := 2) rfl))))))))))) (fa_c (me_s (me_l (me_l (me_l (me_l (me_l (me_l (me_r (me_r (me_l (List.mem_of_getElem? (i := 3) rfl))))))))))) (fa_c (me_s (me_l (me_l (me_l (me_l (me_l (me_l (me_r (me_r (me_l (List.mem_of_getElem? (i := 4) rfl))))))))))) (fa_c (me_s (me_l (me_l (me_l (me_l (me_l (me_l (me_r (me_r (me_l (List.mem_of_getElem? (i := 5) rfl))))))))))) (fa_c (me_s (me_l (me_l (me_l (me_l (me_l (me_l (me_r (me_r (me_l (List.mem_of_getElem? (i := 6) rfl))))))))))) (fa_c (me_s (me_l (me_l (me_l (me_l (me_l (me_l (me_r (me_r (me_l (List.mem_of_getElem? (i := 7) rfl))))))))))) (fa_c (me_s (me_l (me_l (me_l (me_l (me_l (me_l (me_r (me_r (me_l (List.mem_of_getElem? (i := 8) rfl))))))))))) (fa_c (me_s (me_l (me_l (me_l (me_l (me_l (me_l (me_r (me_r (me_l (List.mem_of_getElem? (i := 9) rfl))))))))))) (fa_c (me_s (me_l (me_l (me_l (me_l (me_l (me_l (me_r (me_r (me_l (List.mem_of_getElem? (i := 10) rfl))))))))))) (fa_c (me_s (me_l (me_l (me_l (me_l (me_l (me_l (me_r (me_r (me_l (List.mem_of_getElem? (i := 11) rfl))))))))))) (fa_c (me_s (me_l (me_l (me_l (me_l (me_l (me_l (me_r (me_r (me_l (List.mem_of_getElem? (i := 12) rfl))))))))))) (fa_c (me_s (me_l (me_l (me_l (me_l (me_l (me_l (me_r (me_r (me_l (List.mem_of_getElem? (i := 13) rfl))))))))))) (fa_c (me_s (me_l (me_l (me_l (me_l (me_l (me_l (me_r (me_r (me_l (List.mem_of_getElem? (i := 14) rfl))))))))))) fa_n)))))))))))))))))))))))) (fa_a (fa_c (me_s (me_l (me_l (me_l (me_l (me_l (me_l (me_r (me_r (me_l (List.mem_of_getElem? (i := 15) rfl))))))))))) (fa_c (me_s (me_l (me_l (me_l (me_l (me_l (me_l (me_r (me_r (me_l (List.mem_of_getElem? (i := 16) rfl))))))))))) (fa_c (me_s (me_l (me_l (me_l (me_l (me_l (me_l (me_r (me_r (me_l (List.mem_of_getElem? (i := 17) rfl))))))))))) (fa_c (me_s (me_l (me_l (me_l (me_l (me_l (me_l (me_r (me_r (me_l (List.mem_of_getElem? (i := 18) rfl))))))))))) (fa_c (me_s (me_l (me_l (me_l (me_l (me_l (me_l (me_r (me_r (me_l (List.mem_of_getElem? (i := 19) rfl))))))))))) (fa_c (me_s (me_l (me_l (me_l (me_l (me_l (me_l (me_r (me_r (me_l (List.mem_of_getElem? (i := 20) rfl))))))))))) (fa_c (me_s (me_l (me_l (me_l (me_l (me_l (me_l (me_r (me_r (me_l (List.mem_of_getElem? (i := 21) rfl))))))))))) (fa_c (me_s (me_l (me_l (me_l (me_l (me_l (me_l (me_r (me_r (me_l (List.mem_of_getElem? (i := 22) rfl))))))))))) (fa_c (me_s (me_l (me_l (me_l (me_l (me_l (me_l (me_r (me_r (me_l (List.mem_of_getElem? (i := 23) rfl))))))))))) (fa_c (me_s (me_l (me_l (me_l (me_l (me_l (me_l (me_r (me_r (me_r (me_l (List.mem_of_getElem? (i := 0) rfl)))))))))))) (fa_c (me_s (me_l (me_l (me_l (me_l (me_l (me_l (me_r (me_r (me_r (me_l (List.mem_of_getElem? (i := 1) rfl)))))))))))) (fa_c (me_s (me_l (me_l (me_l (me_l (me_l (me_l (me_r (me_r (me_r (me_l (List.mem_of_getElem? (i := 2) rfl)))))))))))) (fa_c (me_s (me_l (me_l (me_l (me_l (me_l (me_l (me_r (me_r (me_r (me_l (List.mem_of_getElem? (i := 3) rfl)))))))))))) (fa_c (me_s (me_l (me_l (me_l (me_l (me_l (me_l (me_r (me_r (me_r (me_l (List.mem_of_getElem? (i := 4) rfl)))))))))))) (fa_c (me_s (me_l (me_l (me_l (me_l (me_l (me_l (me_r (me_r (me_r (me_l (List.mem_of_getElem? (i := 5) rfl)))))))))))) (fa_c (me_s (me_l (me_l (me_l (me_l (me_l (me_l (me_r (me_r (me_r (me_l (List.mem_of_getElem? (i := 6) rfl)))))))))))) (fa_c (me_s (me_l (me_l (me_l (me_l (me_l (me_l (me_r (me_r (me_r (me_l (List.mem_of_getElem? (i := 7) rfl)))))))))))) (fa_c (me_s (me_l (me_l (me_l (me_l (me_l (me_l (me_r (me_r (me_r (me_l (List.mem_of_getElem? (i := 8) rfl)))))))))))) (fa_c (me_s (me_l (me_l (me_l (me_l (me_l (me_l (me_r (me_r (me_r (me_l (List.mem_of_getElem? (i := 9) rfl)))))))))))) (fa_c (me_s (me_l (me_l (me_l (me_l (me_l (me_l (me_r (me_r (me_r (me_l (List.mem_of_getElem? (i := 10) rfl)))))))))))) (fa_c (me_s (me_l (me_l (me_l (me_l (me_l (me_l (me_r (me_r (me_r (me_l (List.mem_of_getElem? (i := 11) rfl)))))))))))) (fa_c (me_s (me_l (me_l (me_l (me_l (me_l (me_l (me_r (me_r (me_r (me_l (List.mem_of_getElem? (i := 12) rfl)))))))))))) (fa_c (me_s (me_l (me_l (me_l (me_l (me_l (me_l (me_r (me_r (me_r (me_l (List.mem_of_getElem? (i := 13) rfl)))))))))))) (fa_c (me_s (me_l (me_l (me_l (me_l (me_l (me_l (me_r (me_r (me_r (me_l (List.mem_of_getElem? (i := 14) rfl)))))))))))) fa_n)))))))))))))))))))))))) (fa_c (me_s (me_l (me_l (me_l (me_l (me_l (me_l (me_r (me_r (me_r (me_l (List.mem_of_getElem? (i := 15) rfl)))))))))))) (fa_c (me_s (me_l (me_l (me_l (me_l (me_l (me_l (me_r (me_r (me_r (me_l (List.mem_of_getElem? (i := 16) rfl)))))))))))) (fa_c (me_s (me_l (me_l (me_l (me_l (me_l (me_l (me_r (me_r (me_r (me_l (List.mem_of_getElem? (i := 17) rfl)))))))))))) (fa_c (me_s (me_l (me_l (me_l (me_l (me_l (me_l (me_r (me_r (me_r (me_l (List.mem_of_getElem? (i := 18) rfl)))))))))))) (fa_c (me_s (me_l (me_l (me_l (me_l (me_l (me_l (me_r (me_r (me_r (me_l (List.mem_of_getElem? (i := 19) rfl)))))))))))) (fa_c (me_s (me_l (me_l (me_l (me_l (me_l (me_l (me_r (me_r (me_r (me_l (List.mem_of_getElem? (i := 20) rfl)))))))))))) (fa_c (me_s (me_l (me_l (me_l (me_l (me_l (me_l (me_r (me_r (me_r (me_l (List.mem_of_getElem? (i := 21) rfl)))))))))))) (fa_c (me_s (me_l (me_l (me_l (me_l (me_l (me_l (me_r (me_r (me_r (me_l (List.mem_of_getElem? (i := 22) rfl)))))))))))) (fa_c (me_s (me_l (me_l (me_l (me_l (me_l (me_l (me_r (me_r (me_r (me_l (List.mem_of_getElem? (i := 23) rfl)))))))))))) (fa_c (me_s (me_l (me_l (me_l (me_l (me_l (me_l (me_r (me_r (me_r (me_r (me_l (List.mem_of_getElem? (i := 0) rfl))))))))))))) (fa_c (me_s (me_l (me_l (me_l (me_l (me_l (me_l (me_r (me_r (me_r (me_r (me_l (List.mem_of_getElem? (i := 1) rfl))))))))))))) (fa_c (me_s (me_l (me_l (me_l (me_l (me_l (me_l (me_r (me_r (me_r (me_r (me_l (List.mem_of_getElem? (i := 2) rfl))))))))))))) (fa_c (me_s (me_l (me_l (me_l (me_l (me_l (me_l (me_r (me_r (me_r (me_r (me_l (List.mem_of_getElem? (i := 3) rfl))))))))))))) (fa_c (me_s (me_l (me_l (me_l (me_l (me_l (me_l (me_r (me_r (me_r (me_r (me_l (List.mem_of_getElem? (i := 4) rfl))))))))))))) (fa_c (me_s (me_l (me_l (me_l (me_l (me_l (me_l (me_r (me_r (me_r (me_r (me_l (List.mem_of_getElem? (i := 5) rfl))))))))))))) (fa_c (me_s (me_l (me_l (me_l (me_l (me_l (me_l (me_r (me_r (me_r (me_r (me_l (List.mem_of_getElem? (i := 6) rfl))))))))))))) fa_n))))))))))))))))))) (fun w h => (me_s (me_l (me_l (me_r h)))))) (fun w h => (me_s (me_l (me_r h))))) (fun w h => (me_s (me_l (me_l (me_l (me_l (me_r h)))))))) (fun w h => (me_s (me_r h))))) (by decide +kernel)
set_option maxRecDepth 20000 in
theorem gX11_dealOut_X6_unitsOf : GoodIn wsX11_dealOut (wsV RX11 147 RX6 yX6_unitsOf wsX6_unitsOf) := goodIn_app (goodIn_sub (fa_c (me_s (me_l (me_l (me_l (me_l (me_l (me_l (me_l (List.mem_of_getElem? (i := 11) rfl))))))))) (fa_c (me_s (me_l (me_l (me_l (me_l (me_l (me_l (me_l (List.mem_of_getElem? (i := 12) rfl))))))))) (fa_c (me_s (me_l (me_l (me_l (me_l (me_l (me_l (me_l (List.mem_of_getElem? (i := 13) rfl))))))))) (fa_c (me_s (me_l (me_l (me_l (me_l (me_l (me_l (me_l (List.mem_of_getElem? (i := 14) rfl))))))))) fa_n)))) (by decide +kernel)) ggX11_dealOut_X6_unitsOf
theorem dX11_dealOut_38 : decode cX11_dealOut 38 = .ok (.invokevirtual 147, 3) := z_dd_182 (by decide +kernel)
set_option maxRecDepth 20000 in
theorem ggX11_dealOut_X1_put : GoodIn wsX11_dealOut wsX1_put := goodIn_sub (fa_c (me_s (me_l (me_l (me_l (me_l (me_l (me_l (me_r (me_r (me_r (me_r (me_l (List.mem_of_getElem? (i := 10) rfl))))))))))))) (fa_a (fa_c (me_s (me_l (me_l (me_l (me_l (me_l (me_l (me_l (List.mem_of_getElem? (i := 10) rfl))))))))) (fa_c (me_s (me_l (me_l (me_l (me_l (me_l (me_l (me_r (me_r (me_r (me_r (me_l (List.mem_of_getElem? (i := 11) rfl))))))))))))) fa_n)) (fun w h => (me_s (me_l (me_l (me_l (me_r h)))))))) (by decide +kernel)
set_option maxRecDepth 20000 in
theorem gX11_dealOut_X1_put : GoodIn wsX11_dealOut (wsV RX11 380 RX1 yX1_put wsX1_put) := goodIn_app (goodIn_sub (fa_c (me_s (me_l (me_l (me_l (me_l (me_l (me_l (me_r (me_r (me_r (me_r (me_l (List.mem_of_getElem? (i := 7) rfl))))))))))))) (fa_c (me_s (me_l (me_l (me_l (me_l (me_l (me_l (me_r (me_r (me_r (me_r (me_l (List.mem_of_getElem? (i := 8) rfl))))))))))))) (fa_c (me_s (me_l (me_l (me_l (me_l (me_l (me_l (me_r (me_r (me_r (me_r (me_l (List.mem_of_getElem? (i := 9) rfl))))))))))))) (fa_c (me_s (me_l (me_l (me_l (me_l (me_l (me_l (me_l (List.mem_of_getElem? (i := 8) rfl))))))))) fa_n)))) (by decide +kernel)) ggX11_dealOut_X1_put
theorem dX11_dealOut_41 : decode cX11_dealOut 41 = .ok (.invokevirtual 380, 3) := z_dd_182 (by decide +kernel)
theorem dX11_dealOut_44 : decode cX11_dealOut 44 = .ok (.iinc 3 1, 3) := z_dd_132 (by decide +kernel)
theorem dX11_dealOut_47 : decode cX11_dealOut 47 = .ok (.goto (-38), 3) := z_dd_167 (by decide +kernel)
theorem dX11_other_27 : decode cX11_other 27 = .ok (.iload 4, 2) := z_dd_21 (by decide +kernel)
theorem dX11_other_29 : decode cX11_other 29 = .ok (.iconst 0, 1) := z_dd_3 (by decide +kernel)
theorem dX11_other_30 : decode cX11_other 30 = .ok (.iconst 1, 1) := z_dd_4 (by decide +kernel)
theorem dX11_other_31 : decode cX11_other 31 = .ok (.invokestatic 88, 3) := z_dd_184 (by decide +kernel)
theorem dX11_other_34 : decode cX11_other 34 = .ok (.ifCond .ne 5, 3) := z_dd_154 (by decide +kernel)
theorem dX11_other_39 : decode cX11_other 39 = .ok (.aload_n 0, 1) := z_dd_42 (by decide +kernel)
theorem dX11_other_40 : decode cX11_other 40 = .ok (.iload_n 1, 1) := z_dd_27 (by decide +kernel)
theorem dX11_other_41 : decode cX11_other 41 = .ok (.iload_n 2, 1) := z_dd_28 (by decide +kernel)
set_option maxRecDepth 20000 in
theorem ggX11_other_X11_dealOut : GoodIn wsX11_other wsX11_dealOut := goodIn_sub (fa_c (me_s (me_l (me_l (me_l (me_l (me_l (me_l (me_l (List.mem_of_getElem? (i := 18) rfl))))))))) (fa_a (fa_a (fa_a (fa_a (fa_a (fa_a (fa_a (fa_c (me_s (me_l (me_l (me_l (me_l (me_l (me_l (me_l (List.mem_of_getElem? (i := 1) rfl))))))))) (fa_c (me_s (me_l (me_l (me_l (me_l (me_l (me_l (me_l (List.mem_of_getElem? (i := 0) rfl))))))))) (fa_c (me_s (me_l (me_l (me_l (me_l (me_l (me_l (me_l (List.mem_of_getElem? (i := 19) rfl))))))))) (fa_c (me_s (me_l (me_l (me_l (me_l (me_l (me_l (me_l (List.mem_of_getElem? (i := 20) rfl))))))))) (fa_c (me_s (me_l (me_l (me_l (me_l (me_l (me_l (me_l (List.mem_of_getElem? (i := 21) rfl))))))))) (fa_c (me_s (me_l (me_l (me_l (me_l (me_l (me_l (me_l (List.mem_of_getElem? (i := 22) rfl))))))))) (fa_c (me_s (me_l (me_l (me_l (me_l (me_l (me_l (me_l (List.mem_of_getElem? (i := 23) rfl))))))))) (fa_c (me_s (me_l (me_l (me_l (me_l (me_l (me_l (me_r (me_l (List.mem_of_getElem? (i := 0) rfl)))))))))) (fa_c (me_s (me_l (me_l (me_l (me_l (me_l (me_l (me_r (me_l (List.mem_of_getElem? (i := 1) rfl)))))))))) (fa_c (me_s (me_l (me_l (me_l (me_l (me_l (me_l (me_r (me_l (List.mem_of_getElem? (i := 2) rfl)))))))))) (fa_c (me_s (me_l (me_l (me_l (me_l (me_l (me_l (me_r (me_l (List.mem_of_getElem? (i := 3) rfl)))))))))) (fa_c (me_s (me_l (me_l (me_l (me_l (me_l (me_l (me_r (me_l (List.mem_of_getElem? (i := 4) rfl)))))))))) (fa_c (me_s (me_l (me_l (me_l (me_l (me_l (me_l (me_r (me_l (List.mem_of_getElem? (i := 5) rfl)))))))))) (fa_c (me_s (me_l (me_l (me_l (me_l (me_l (me_l (me_r (me_l (List.mem_of_getElem? (i := 6) rfl)))))))))) (fa_c (me_s (me_l (me_l (me_l (me_l (me_l (me_l (me_r (me_l (List.mem_of_getElem? (i := 7) rfl)))))))))) (fa_c (me_s (me_l (me_l (me_l (me_l (me_l (me_l (me_r (me_l (List.mem_of_getElem? (i := 8) rfl)))))))))) (fa_c (me_s (me_l (me_l (me_l (me_l (me_l (me_l (me_r (me_l (List.mem_of_getElem? (i := 9) rfl)))))))))) (fa_c (me_s (me_l (me_l (me_l (me_l (me_l (me_l (me_r (me_l (List.mem_of_getElem? (i := 10) rfl)))))))))) (fa_c (me_s (me_l (me_l (me_l (me_l (me_l (me_l (me_r (me_l (List.mem_of_getElem? (i := 11) rfl)))))))))) (fa_c (me_s (me_l (me_l (me_l (me_l (me_l (me_l (me_r (me_l (List.mem_of_getElem? (i := 12) rfl)))))))))) (fa_c (me_s (me_l (me_l (me_l (me_l (me_l (me_l (me_r (me_l (List.mem_of_getElem? (i := 13) rfl)))))))))) (fa_c (me_s (me_l (me_l (me_l (me_l (me_l (me_l (me_r (me_l (List.mem_of_getElem? (i := 14) rfl)))))))))) (fa_c (me_s (me_l (me_l (me_l (me_l (me_l (me_l (me_r (me_l (List.mem_of_getElem? (i := 15) rfl)))))))))) (fa_c (me_s (me_l (me_l (me_l (me_l (me_l (me_l (me_r (me_l (List.mem_of_getElem? (i := 16) rfl)))))))))) fa_n)))))))))))))))))))))))) (fa_a (fa_c (me_s (me_l (me_l (me_l (me_l (me_l (me_l (me_r (me_l (List.mem_of_getElem? (i := 17) rfl)))))))))) (fa_c (me_s (me_l (me_l (me_l (me_l (me_l (me_l (me_r (me_l (List.mem_of_getElem? (i := 18) rfl)))))))))) (fa_c (me_s (me_l (me_l (me_l (me_l (me_l (me_l (me_r (me_l (List.mem_of_getElem? (i := 19) rfl)))))))))) (fa_c (me_s (me_l (me_l (me_l (me_l (me_l (me_l (me_r (me_l (List.mem_of_getElem? (i := 20) rfl)))))))))) (fa_c (me_s (me_l (me_l (me_l (me_l (me_l (me_l (me_r (me_l (List.mem_of_getElem? (i := 21) rfl)))))))))) (fa_c (me_s (me_l (me_l (me_l (me_l (me_l (me_l (me_r (me_l (List.mem_of_getElem? (i := 22) rfl)))))))))) (fa_c (me_s (me_l (me_l (me_l (me_l (me_l (me_l (me_l (List.mem_of_getElem? (i := 10) rfl))))))))) (fa_c (me_s (me_l (me_l (me_l (me_l (me_l (me_l (me_l (List.mem_of_getElem? (i := 11) rfl))))))))) (fa_c (me_s (me_l (me_l (me_l (me_l (me_l (me_l (me_l (List.mem_of_getElem? (i := 12) rfl))))))))) (fa_c (me_s (me_l (me_l (me_l (me_l (me_l (me_l (me_l (List.mem_of_getElem? (i := 13) rfl))))))))) (fa_c (me_s (me_l (me_l (me_l (me_l (me_l (me_l (me_l (List.mem_of_getElem? (i := 14) rfl))))))))) (fa_c (me_s (me_l (me_l (me_l (me_l (me_l (me_l (me_r (me_l (List.mem_of_getElem? (i := 23) rfl)))))))))) (fa_c (me_s (me_l (me_l (me_l (me_l (me_l (me_l (me_r (me_r (me_l (List.mem_of_getElem? (i := 0) rfl))))))))))) (fa_c (me_s (me_l (me_l (me_l (me_l (me_l (me_l (me_r (me_r (me_l (List.mem_of_getElem? (i := 1) rfl))))))))))) (fa_c (me_s (me_l (me_l (me_l (me_l (me_l (me_l (me_r (me_r (me_l (List.mem_of_getElem? (i := 2) rfl))))))))))) (fa_c (me_s (me_l (me_l (me_l (me_l (me_l (me_l (me_r (me_r (me_l (List.mem_of_getElem? (i := 3) rfl))))))))))) (fa_c (me_s (me_l (me_l (me_l (me_l (me_l (me_l (me_r (me_r (me_l (List.mem_of_getElem? (i := 4) rfl))))))))))) (fa_c (me_s (me_l (me_l (me_l (me_l (me_l (me_l (me_r (me_r (me_l (List.mem_of_getElem? (i := 5) rfl))))))))))) (fa_c (me_s (me_l (me_l (me_l (me_l (me_l (me_l (me_r (me_r (me_l (List.mem_of_getElem? (i := 6) rfl))))))))))) (fa_c (me_s (me_l (me_l (me_l (me_l (me_l (me_l (me_r (me_r (me_l (List.mem_of_getElem? (i := 7) rfl))))))))))) (fa_c (me_s (me_l (me_l (me_l (me_l (me_l (me_l (me_r (me_r (me_l (List.mem_of_getElem? (i := 8) rfl))))))))))) (fa_c (me_s (me_l (me_l (me_l (me_l (me_l (me_l (me_r (me_r (me_l (List.mem_of_getElem? (i := 9) rfl))))))))))) (fa_c (me_s (me_l (me_l (me_l (me_l (me_l (me_l (me_r (me_r (me_l (List.mem_of_getElem? (i := 10) rfl))))))))))) (fa_c (me_s (me_l (me_l (me_l (me_l (me_l (me_l (me_r (me_r (me_l (List.mem_of_getElem? (i := 11) rfl))))))))))) fa_n)))))))))))))))))))))))) (fa_a (fa_c (me_s (me_l (me_l (me_l (me_l (me_l (me_l (me_r (me_r (me_l (List.mem_of_getElem? (i := 12) rfl))))))))))) (fa_c (me_s (me_l (me_l (me_l (me_l (me_l (me_l (me_r (me_r (me_l (List.mem_of_getElem? (i := 13) rfl))))))))))) (fa_c (me_s (me_l (me_l (me_l (me_l (me_l (me_l (me_r (me_r (me_l (List.mem_of_getElem? (i := 14) rfl))))))))))) (fa_c (me_s (me_l (me_l (me_l (me_l (me_l (me_l (me_r (me_r (me_l (List.mem_of_getElem? (i := 15) rfl))))))))))) (fa_c (me_s (me_l (me_l (me_l (me_l (me_l (me_l (me_r (me_r (me_l (List.mem_of_getElem? (i := 16) rfl))))))))))) (fa_c (me_s (me_l (me_l (me_l (me_l (me_l (me_l (me_r (me_r (me_l (List.mem_of_getElem? (i := 17) rfl))))))))))) (fa_c (me_s (me_l (me_l (me_l (me_l (me_l (me_l (me_r (me_r (me_l (List.mem_of_getElem? (i := 18) rfl))))))))))) (fa_c (me_s (me_l (me_l (me_l (me_l (me_l (me_l (me_r (me_r (me_l (List.mem_of_getElem? (i := 19) rfl))))))))))) (fa_c (me_s (me_l (me_l (me_l (me_l (me_l (me_l (me_r (me_r (me_l (List.mem_of_getElem? (i := 20) rfl))))))))))) (fa_c (me_s (me_l (me_l (me_l (me_l (me_l (me_l (me_r (me_r (me_l (List.mem_of_getElem? (i := 21) rfl))))))))))) (fa_c (me_s (me_l (me_l (me_l (me_l (me_l (me_l (me_r (me_r (me_l (List.mem_of_getElem? (i := 22) rfl))))))))))) (fa_c (me_s (me_l (me_l (me_l (me_l (me_l (me_l (me_r (me_r (me_l (List.mem_of_getElem? (i := 23) rfl))))))))))) (fa_c (me_s (me_l (me_l (me_l (me_l (me_l (me_l (me_r (me_r (me_r (me_l (List.mem_of_getElem? (i := 0) rfl)))))))))))) (fa_c (me_s (me_l (me_l (me_l (me_l (me_l (me_l (me_r (me_r (me_r (me_l (List.mem_of_getElem? (i := 1) rfl)))))))))))) (fa_c (me_s (me_l (me_l (me_l (me_l (me_l (me_l (me_r (me_r (me_r (me_l (List.mem_of_getElem? (i := 2) rfl)))))))))))) (fa_c (me_s (me_l (me_l (me_l (me_l (me_l (me_l (me_r (me_r (me_r (me_l (List.mem_of_getElem? (i := 3) rfl)))))))))))) (fa_c (me_s (me_l (me_l (me_l (me_l (me_l (me_l (me_r (me_r (me_r (me_l (List.mem_of_getElem? (i := 4) rfl)))))))))))) (fa_c (me_s (me_l (me_l (me_l (me_l (me_l (me_l (me_r (me_r (me_r (me_l (List.mem_of_getElem? (i := 5) rfl)))))))))))) (fa_c (me_s (me_l (me_l (me_l (me_l (me_l (me_l (me_r (me_r (me_r (me_l (List.mem_of_getElem? (i := 6) rfl)))))))))))) (fa_c (me_s (me_l (me_l (me_l (me_l (me_l (me_l (me_r (me_r (me_r (me_l (List.mem_of_getElem? (i := 7) rfl)))))))))))) (fa_c (me_s (me_l (me_l (me_l (me_l (me_l (me_l (me_r (me_r (me_r (me_l (List.mem_of_getElem? (i := 8) rfl)))))))))))) (fa_c (me_s (me_l (me_l (me_l (me_l (me_l (me_l (me_r (me_r (me_r (me_l (List.mem_of_getElem? (i := 9) rfl)))))))))))) (fa_c (me_s (me_l (me_l (me_l (me_l (me_l (me_l (me_r (me_r (me_r (me_l (List.mem_of_getElem? (i := 10) rfl)))))))))))) (fa_c (me_s (me_l (me_l (me_l (me_l (me_l (me_l (me_r (me_r (me_r (me_l (List.mem_of_getElem? (i := 11) rfl)))))))))))) fa_n)))))))))))))))))))))))) (fa_a (fa_c (me_s (me_l (me_l (me_l (me_l (me_l (me_l (me_r (me_r (me_r (me_l (List.mem_of_getElem? (i := 12) rfl)))))))))))) (fa_c (me_s (me_l (me_l (me_l (me_l (me_l (me_l (me_r (me_r (me_r (me_l (List.mem_of_getElem? (i := 13) rfl)))))))))))) (fa_c (me_s (me_l (me_l (me_l (me_l (me_l (me_l (me_r (me_r (me_r (me_l (List.mem_of_getElem? (i := 14) rfl)))))))))))) (fa_c (me_s (me_l (me_l (me_l (me_l (me_l (me_l (me_r (me_r (me_r (me_l (List.mem_of_getElem? (i := 15) rfl)))))))))))) (fa_c (me_s (me_l (me_l (me_l (me_l (me_l (me_l (me_r (me_r (me_r (me_l (List.mem_of_getElem? (i := 16) rfl)))))))))))) (fa_c (me_s (me_l (me_l (me_l (me_l (me_l (me_l (me_r (me_r (me_r (me_l (List.mem_of_getElem? (i := 17) rfl)))))))))))) (fa_c (me_s (me_l (me_l (me_l (me_l (me_l (me_l (me_r (me_r (me_r (me_l (List.mem_of_getElem? (i := 18) rfl)))))))))))) (fa_c (me_s (me_l (me_l (me_l (me_l (me_l (me_l (me_r (me_r (me_r (me_l (List.mem_of_getElem? (i := 19) rfl)))))))))))) (fa_c (me_s (me_l (me_l (me_l (me_l (me_l (me_l (me_r (me_r (me_r (me_l (List.mem_of_getElem? (i := 20) rfl)))))))))))) (fa_c (me_s (me_l (me_l (me_l (me_l (me_l (me_l (me_r (me_r (me_r (me_l (List.mem_of_getElem? (i := 21) rfl)))))))))))) (fa_c (me_s (me_l (me_l (me_l (me_l (me_l (me_l (me_r (me_r (me_r (me_l (List.mem_of_getElem? (i := 22) rfl)))))))))))) (fa_c (me_s (me_l (me_l (me_l (me_l (me_l (me_l (me_r (me_r (me_r (me_l (List.mem_of_getElem? (i := 23) rfl)))))))))))) (fa_c (me_s (me_l (me_l (me_l (me_l (me_l (me_l (me_r (me_r (me_r (me_r (me_l (List.mem_of_getElem? (i := 0) rfl))))))))))))) (fa_c (me_s (me_l (me_l (me_l (me_l (me_l (me_l (me_r (me_r (me_r (me_r (me_l (List.mem_of_getElem? (i := 1) rfl))))))))))))) (fa_c (me_s (me_l (me_l (me_l (me_l (me_l (me_l (me_r (me_r (me_r (me_r (me_l (List.mem_of_getElem? (i := 2) rfl))))))))))))) (fa_c (me_s (me_l (me_l (me_l (me_l (me_l (me_l (me_r (me_r (me_r (me_r (me_l (List.mem_of_getElem? (i := 3) rfl))))))))))))) (fa_c (me_s (me_l (me_l (me_l (me_l (me_l (me_l (me_r (me_r (me_r (me_r (me_l (List.mem_of_getElem? (i := 4) rfl))))))))))))) (fa_c (me_s (me_l (me_l (me_l (me_l (me_l (me_l (me_r (me_r (me_r (me_r (me_l (List.mem_of_getElem? (i := 5) rfl))))))))))))) (fa_c (me_s (me_l (me_l (me_l (me_l (me_l (me_l (me_r (me_r (me_r (me_r (me_l (List.mem_of_getElem? (i := 6) rfl))))))))))))) (fa_c (me_s (me_l (me_l (me_l (me_l (me_l (me_l (me_r (me_r (me_r (me_r (me_l (List.mem_of_getElem? (i := 7) rfl))))))))))))) (fa_c (me_s (me_l (me_l (me_l (me_l (me_l (me_l (me_r (me_r (me_r (me_r (me_l (List.mem_of_getElem? (i := 8) rfl))))))))))))) (fa_c (me_s (me_l (me_l (me_l (me_l (me_l (me_l (me_r (me_r (me_r (me_r (me_l (List.mem_of_getElem? (i := 9) rfl))))))))))))) (fa_c (me_s (me_l (me_l (me_l (me_l (me_l (me_l (me_r (me_r (me_r (me_r (me_l (List.mem_of_getElem? (i := 10) rfl))))))))))))) (fa_c (me_s (me_l (me_l (me_l (me_l (me_l (me_l (me_r (me_r (me_r (me_r (me_l (List.mem_of_getElem? (i := 11) rfl))))))))))))) fa_n)))))))))))))))))))))))) (fa_a (fa_c (me_s (me_l (me_l (me_l (me_l (me_l (me_l (me_r (me_r (me_r (me_r (me_l (List.mem_of_getElem? (i := 12) rfl))))))))))))) (fa_c (me_s (me_l (me_l (me_l (me_l (me_l (me_l (me_r (me_r (me_r (me_r (me_l (List.mem_of_getElem? (i := 13) rfl))))))))))))) (fa_c (me_s (me_l (me_l (me_l (me_l (me_l (me_l (me_r (me_r (me_r (me_r (me_l (List.mem_of_getElem? (i := 14) rfl))))))))))))) (fa_c (me_s (me_l (me_l (me_l (me_l (me_l (me_l (me_r (me_r (me_r (me_r (me_l (List.mem_of_getElem? (i := 15) rfl))))))))))))) (fa_c (me_s (me_l (me_l (me_l (me_l (me_l (me_l (me_r (me_r (me_r (me_r (me_l (List.mem_of_getElem? (i := 16) rfl))))))))))))) (fa_c (me_s (me_l (me_l (me_l (me_l (me_l (me_l (me_r (me_r (me_r (me_r (me_l (List.mem_of_getElem? (i := 17) rfl))))))))))))) (fa_c (me_s (me_l (me_l (me_l (me_l (me_l (me_l (me_r (me_r (me_r (me_r (me_l (List.mem_of_getElem? (i := 18) rfl))))))))))))) (fa_c (me_s (me_l (me_l (me_l (me_l (me_l (me_l (me_r (me_r (me_r (me_r (me_l (List.mem_of_getElem? (i := 19) rfl))))))))))))) (fa_c (me_s (me_l (me_l (me_l (me_l (me_l (me_l (me_r (me_r (me_r (me_r (me_l (List.mem_of_getElem? (i := 20) rfl))))))))))))) (fa_c (me_s (me_l (me_l (me_l (me_l (me_l (me_l (me_r (me_r (me_r (me_r (me_l (List.mem_of_getElem? (i := 21) rfl))))))))))))) (fa_c (me_s (me_l (me_l (me_l (me_l (me_l (me_l (me_r (me_r (me_r (me_r (me_l (List.mem_of_getElem? (i := 22) rfl))))))))))))) (fa_c (me_s (me_l (me_l (me_l (me_l (me_l (me_l (me_r (me_r (me_r (me_r (me_l (List.mem_of_getElem? (i := 23) rfl))))))))))))) (fa_c (me_s (me_l (me_l (me_l (me_l (me_l (me_l (me_r (me_r (me_r (me_r (me_r (me_l (List.mem_of_getElem? (i := 0) rfl)))))))))))))) (fa_c (me_s (me_l (me_l (me_l (me_l (me_l (me_l (me_r (me_r (me_r (me_r (me_r (me_l (List.mem_of_getElem? (i := 1) rfl)))))))))))))) (fa_c (me_s (me_l (me_l (me_l (me_l (me_l (me_l (me_r (me_r (me_r (me_r (me_r (me_l (List.mem_of_getElem? (i := 2) rfl)))))))))))))) (fa_c (me_s (me_l (me_l (me_l (me_l (me_l (me_l (me_r (me_r (me_r (me_r (me_r (me_l (List.mem_of_getElem? (i := 3) rfl)))))))))))))) (fa_c (me_s (me_l (me_l (me_l (me_l (me_l (me_l (me_r (me_r (me_r (me_r (me_r (me_l (List.mem_of_getElem? (i := 4) rfl)))))))))))))) (fa_c (me_s (me_l (me_l (me_l (me_l (me_l (me_l (me_r (me_r (me_r (me_r (me_r (me_l (List.mem_of_getElem? (i := 5) rfl)))))))))))))) (fa_c (me_s (me_l (me_l (me_l (me_l (me_l (me_l (me_r (me_r (me_r (me_r (me_r (me_l (List.mem_of_getElem? (i := 6) rfl)))))))))))))) (fa_c (me_s (me_l (me_l (me_l (me_l (me_l (me_l (me_r (me_r (me_r (me_r (me_r (me_l (List.mem_of_getElem? (i := 7) rfl)))))))))))))) (fa_c (me_s (me_l (me_l (me_l (me_l (me_l (me_l (me_r (me_r (me_r (me_r (me_r (me_l (List.mem_of_getElem? (i := 8) rfl)))))))))))))) (fa_c (me_s (me_l (me_l (me_l (me_l (me_l (me_l (me_r (me_r (me_r (me_r (me_r (me_l (List.mem_of_getElem? (i := 9) rfl)))))))))))))) (fa_c (me_s (me_l (me_l (me_l (me_l (me_l (me_l (me_r (me_r (me_r (me_r (me_r (me_l (List.mem_of_getElem? (i := 10) rfl)))))))))))))) (fa_c (me_s (me_l (me_l (me_l (me_l (me_l (me_l (me_r (me_r (me_r (me_r (me_r (me_l (List.mem_of_getElem? (i := 11) rfl)))))))))))))) fa_n)))))))))))))))))))))))) (fa_c (me_s (me_l (me_l (me_l (me_l (me_l (me_l (me_r (me_r (me_r (me_r (me_r (me_l (List.mem_of_getElem? (i := 12) rfl)))))))))))))) (fa_c (me_s (me_l (me_l (me_l (me_l (me_l (me_l (me_r (me_r (me_r (me_r (me_r (me_l (List.mem_of_getElem? (i := 13) rfl)))))))))))))) (fa_c (me_s (me_l (me_l (me_l (me_l (me_l (me_l (me_r (me_r (me_r (me_r (me_r (me_l (List.mem_of_getElem? (i := 14) rfl)))))))))))))) (fa_c (me_s (me_l (me_l (me_l (me_l (me_l (me_l (me_r (me_r (me_r (me_r (me_r (me_l (List.mem_of_getElem? (i := 15) rfl)))))))))))))) (fa_c (me_s (me_l (me_l (me_l (me_l (me_l (me_l (me_r (me_r (me_r (me_r (me_r (me_l (List.mem_of_getElem? (i := 16) rfl)))))))))))))) (fa_c (me_s (me_l (me_l (me_l (me_l (me_l (me_l (me_r (me_r (me_r (me_r (me_r (me_l (List.mem_of_getElem? (i := 17) rfl)))))))))))))) (fa_c (me_s (me_l (me_l (me_l (me_l (me_l (me_l (me_r (me_r (me_r (me_r (me_r (me_l (List.mem_of_getElem? (i := 18) rfl)))))))))))))) (fa_c (me_s (me_l (me_l (me_l (me_l (me_l (me_l (me_r (me_r (me_r (me_r (me_r (me_l (List.mem_of_getElem? (i := 19) rfl)))))))))))))) (fa_c (me_s (me_l (me_l (me_l (me_l (me_l (me_l (me_r (me_r (me_r (me_r (me_r (me_l (List.mem_of_getElem? (i := 20) rfl)))))))))))))) (fa_c (me_s (me_l (me_l (me_l (me_l (me_l (me_l (me_r (me_r (me_r (me_r (me_r (me_l (List.mem_of_getElem? (i := 21) rfl)))))))))))))) (fa_c (me_s (me_l (me_l (me_l (me_l (me_l (me_l (me_r (me_r (me_r (me_r (me_r (me_l (List.mem_of_getElem? (i := 22) rfl)))))))))))))) (fa_c (me_s (me_l (me_l (me_l (me_l (me_l (me_l (me_r (me_r (me_r (me_r (me_r (me_l (List.mem_of_getElem? (i := 23) rfl)))))))))))))) (fa_c (me_s (me_l (me_l (me_l (me_l (me_l (me_l (me_r (me_r (me_r (me_r (me_r (me_r (List.mem_of_getElem? (i := 0) rfl)))))))))))))) fa_n)))))))))))))))))) (fun w h => (me_s (me_l (me_l (me_l (me_l (me_l (me_r h))))))))) (fun w h => (me_s (me_l (me_l (me_l (me_l (me_r h)))))))) (fun w h => (me_s (me_l (me_l (me_l (me_r h))))))) (fun w h => (me_s (me_l (me_l (me_r h)))))) (fun w h => (me_s (me_l (me_r h))))) (fun w h => (me_s (me_r h))))) (by decide +kernel)
set_option maxRecDepth 20000 in
theorem gX11_other_X11_dealOut : GoodIn wsX11_other (wsV RX11 365 RX11 yX11_dealOut wsX11_dealOut) := goodIn_app (goodIn_sub (fa_c (me_s (me_l (me_l (me_l (me_l (me_l (me_l (me_l (List.mem_of_getElem? (i := 15) rfl))))))))) (fa_c (me_s (me_l (me_l (me_l (me_l (me_l (me_l (me_l (List.mem_of_getElem? (i := 16) rfl))))))))) (fa_c (me_s (me_l (me_l (me_l (me_l (me_l (me_l (me_l (List.mem_of_getElem? (i := 17) rfl))))))))) (fa_c (me_s (me_l (me_l (me_l (me_l (me_l (me_l (me_l (List.mem_of_getElem? (i := 4) rfl))))))))) fa_n)))) (by decide +kernel)) ggX11_other_X11_dealOut
theorem dX11_other_42 : decode cX11_other 42 = .ok (.invokevirtual 365, 3) := z_dd_182 (by decide +kernel)
theorem dX11_other_45 : decode cX11_other 45 = .ok (.iload 4, 2) := z_dd_21 (by decide +kernel)
theorem dX11_other_47 : decode cX11_other 47 = .ok (.ifCond .ne 14, 3) := z_dd_154 (by decide +kernel)
theorem dX11_other_61 : decode cX11_other 61 = .ok (.aload_n 0, 1) := z_dd_42 (by decide +kernel)
theorem dX11_other_62 : decode cX11_other 62 = .ok (.iload_n 3, 1) := z_dd_29 (by decide +kernel)
set_option maxRecDepth 20000 in
theorem ggX11_other_X11_remains : GoodIn wsX11_other wsX11_remains := goodIn_sub (fa_c (me_s (me_l (me_l (me_l (me_l (me_l (me_l (me_r (me_r (me_r (me_r (me_r (me_r (List.mem_of_getElem? (i := 8) rfl)))))))))))))) (fa_a (fa_a (fa_a (fa_c (me_s (me_l (me_l (me_l (me_l (me_l (me_l (me_l (List.mem_of_getElem? (i := 0) rfl))))))))) (fa_c (me_s (me_l (me_l (me_l (me_l (me_l (me_l (me_l (List.mem_of_getElem? (i := 1) rfl))))))))) (fa_c (me_s (me_l (me_l (me_l (me_l (me_l (me_l (me_r (me_r (me_r (me_r (me_r (me_r (List.mem_of_getElem? (i := 9) rfl)))))))))))))) (fa_c (me_s (me_l (me_l (me_l (me_l (me_l (me_l (me_l (List.mem_of_getElem? (i := 9) rfl))))))))) (fa_c (me_s (me_l (me_l (me_l (me_l (me_l (me_l (me_l (List.mem_of_getElem? (i := 10) rfl))))))))) (fa_c (me_s (me_l (me_l (me_l (me_l (me_l (me_l (me_l (List.mem_of_getElem? (i := 11) rfl))))))))) (fa_c (me_s (me_l (me_l (me_l (me_l (me_l (me_l (me_l (List.mem_of_getElem? (i := 12) rfl))))))))) (fa_c (me_s (me_l (me_l (me_l (me_l (me_l (me_l (me_l (List.mem_of_getElem? (i := 13) rfl))))))))) (fa_c (me_s (me_l (me_l (me_l (me_l (me_l (me_l (me_l (List.mem_of_getElem? (i := 14) rfl))))))))) (fa_c (me_s (me_l (me_l (me_l (me_l (me_l (me_l (me_r (me_r (me_r (me_r (me_r (me_r (List.mem_of_getElem? (i := 1) rfl)))))))))))))) (fa_c (me_s (me_l (me_l (me_l (me_l (me_l (me_l (me_r (me_r (me_r (me_r (me_r (me_r (List.mem_of_getElem? (i := 2) rfl)))))))))))))) (fa_c (me_s (me_l (me_l (me_l (me_l (me_l (me_l (me_r (me_r (me_r (me_r (me_r (me_r (List.mem_of_getElem? (i := 3) rfl)))))))))))))) (fa_c (me_s (me_l (me_l (me_l (me_l (me_l (me_l (me_r (me_l (List.mem_of_getElem? (i := 1) rfl)))))))))) (fa_c (me_s (me_l (me_l (me_l (me_l (me_l (me_l (me_r (me_r (me_r (me_r (me_r (me_r (List.mem_of_getElem? (i := 4) rfl)))))))))))))) (fa_c (me_s (me_l (me_l (me_l (me_l (me_l (me_l (me_r (me_l (List.mem_of_getElem? (i := 3) rfl)))))))))) (fa_c (me_s (me_l (me_l (me_l (me_l (me_l (me_l (me_r (me_r (me_r (me_r (me_l (List.mem_of_getElem? (i := 23) rfl))))))))))))) fa_n)))))))))))))))) (fun w h => (me_s (me_l (me_l (me_l (me_l (me_l (me_r h))))))))) (fun w h => (me_s (me_l (me_l (me_l (me_l (me_r h)))))))) (fun w h => (me_s (me_l (me_l (me_l (me_r h)))))))) (by decide +kernel)
set_option maxRecDepth 20000 in
theorem gX11_other_X11_remains : GoodIn wsX11_other (wsV RX11 370 RX11 yX11_remains wsX11_remains) := goodIn_app (goodIn_sub (fa_c (me_s (me_l (me_l (me_l (me_l (me_l (me_l (me_r (me_r (me_r (me_r (me_r (me_r (List.mem_of_getElem? (i := 5) rfl)))))))))))))) (fa_c (me_s (me_l (me_l (me_l (me_l (me_l (me_l (me_r (me_r (me_r (me_r (me_r (me_r (List.mem_of_getElem? (i := 6) rfl)))))))))))))) (fa_c (me_s (me_l (me_l (me_l (me_l (me_l (me_l (me_r (me_r (me_r (me_r (me_r (me_r (List.mem_of_getElem? (i := 7) rfl)))))))))))))) (fa_c (me_s (me_l (me_l (me_l (me_l (me_l (me_l (me_l (List.mem_of_getElem? (i := 4) rfl))))))))) fa_n)))) (by decide +kernel)) ggX11_other_X11_remains
theorem dX11_other_63 : decode cX11_other 63 = .ok (.invokevirtual 370, 3) := z_dd_182 (by decide +kernel)
theorem dX11_other_66 : decode cX11_other 66 = .ok (.ifCond .eq 7, 3) := z_dd_153 (by decide +kernel)
theorem dX11_other_69 : decode cX11_other 69 = .ok (.iconst 1, 1) := z_dd_4 (by decide +kernel)
theorem dX11_other_70 : decode cX11_other 70 = .ok (.goto 4, 3) := z_dd_167 (by decide +kernel)
theorem dX11_other_74 : decode cX11_other 74 = .ok (.ireturn, 1) := z_dd_172 (by decide +kernel)
theorem dX11_other_73 : decode cX11_other 73 = .ok (.iconst 0, 1) := z_dd_3 (by decide +kernel)
theorem dX11_other_50 : decode cX11_other 50 = .ok (.aload_n 0, 1) := z_dd_42 (by decide +kernel)
theorem dX11_other_51 : decode cX11_other 51 = .ok (.getfield 75, 3) := z_dd_180 (by decide +kernel)
theorem dX11_other_54 : decode cX11_other 54 = .ok (.iload_n 3, 1) := z_dd_29 (by decide +kernel)
set_option maxRecDepth 20000 in
theorem ggX11_other_X1_unitsOf : GoodIn wsX11_other wsX1_unitsOf := goodIn_sub (fa_c (me_s (me_l (me_l (me_l (me_l (me_l (me_l (me_r (me_r (me_r (me_r (me_r (me_r (List.mem_of_getElem? (i := 4) rfl)))))))))))))) (fa_a (fa_c (me_s (me_l (me_l (me_l (me_l (me_l (me_l (me_r (me_l (List.mem_of_getElem? (i := 3) rfl)))))))))) (fa_c (me_s (me_l (me_l (me_l (me_l (me_l (me_l (me_r (me_r (me_r (me_r (me_l (List.mem_of_getElem? (i := 23) rfl))))))))))))) fa_n)) (fun w h => (me_s (me_l (me_l (me_l (me_r h)))))))) (by decide +kernel)
set_option maxRecDepth 20000 in
theorem gX11_other_X1_unitsOf : GoodIn wsX11_other (wsV RX11 368 RX1 yX1_unitsOf wsX1_unitsOf) := goodIn_app (goodIn_sub (fa_c (me_s (me_l (me_l (me_l (me_l (me_l (me_l (me_r (me_r (me_r (me_r (me_r (me_r (List.mem_of_getElem? (i := 1) rfl)))))))))))))) (fa_c (me_s (me_l (me_l (me_l (me_l (me_l (me_l (me_r (me_r (me_r (me_r (me_r (me_r (List.mem_of_getElem? (i := 2) rfl)))))))))))))) (fa_c (me_s (me_l (me_l (me_l (me_l (me_l (me_l (me_r (me_r (me_r (me_r (me_r (me_r (List.mem_of_getElem? (i := 3) rfl)))))))))))))) (fa_c (me_s (me_l (me_l (me_l (me_l (me_l (me_l (me_r (me_l (List.mem_of_getElem? (i := 1) rfl)))))))))) fa_n)))) (by decide +kernel)) ggX11_other_X1_unitsOf
theorem dX11_other_55 : decode cX11_other 55 = .ok (.invokevirtual 368, 3) := z_dd_182 (by decide +kernel)
theorem dX11_other_58 : decode cX11_other 58 = .ok (.goto 16, 3) := z_dd_167 (by decide +kernel)
theorem dX11_stays_0 : decode cX11_stays 0 = .ok (.iload_n 1, 1) := z_dd_27 (by decide +kernel)
theorem dX11_stays_1 : decode cX11_stays 1 = .ok (.iconst 0, 1) := z_dd_3 (by decide +kernel)
theorem dX11_stays_2 : decode cX11_stays 2 = .ok (.iconst 2, 1) := z_dd_5 (by decide +kernel)
set_option maxRecDepth 20000 in
theorem ggX11_stays_X11_within : GoodIn wsX11_stays wsX11_within := goodIn_sub (fa_c (me_s (me_l (me_l (me_l (me_l (me_l (me_l (me_l (List.mem_of_getElem? (i := 5) rfl))))))))) fa_n) (by decide +kernel)
set_option maxRecDepth 20000 in
theorem gX11_stays_X11_within : GoodIn wsX11_stays (va_wsS RX11 88 yX11_within wsX11_within) := goodIn_app (goodIn_sub (fa_c (me_s (me_l (me_l (me_l (me_l (me_l (me_l (me_l (List.mem_of_getElem? (i := 2) rfl))))))))) (fa_c (me_s (me_l (me_l (me_l (me_l (me_l (me_l (me_l (List.mem_of_getElem? (i := 3) rfl))))))))) (fa_c (me_s (me_l (me_l (me_l (me_l (me_l (me_l (me_l (List.mem_of_getElem? (i := 4) rfl))))))))) fa_n))) (by decide +kernel)) ggX11_stays_X11_within
theorem dX11_stays_3 : decode cX11_stays 3 = .ok (.invokestatic 88, 3) := z_dd_184 (by decide +kernel)
theorem dX11_stays_6 : decode cX11_stays 6 = .ok (.ifCond .eq 10, 3) := z_dd_153 (by decide +kernel)
theorem dX11_stays_9 : decode cX11_stays 9 = .ok (.iload_n 2, 1) := z_dd_28 (by decide +kernel)
set_option maxRecDepth 20000 in
theorem ggX11_stays_X11_isMonth : GoodIn wsX11_stays wsX11_isMonth := goodIn_sub (fa_c (me_s (me_l (me_l (me_l (me_l (me_l (me_l (me_l (List.mem_of_getElem? (i := 8) rfl))))))))) (fa_c (me_s (me_l (me_l (me_l (me_l (me_l (me_l (me_l (List.mem_of_getElem? (i := 2) rfl))))))))) (fa_c (me_s (me_l (me_l (me_l (me_l (me_l (me_l (me_l (List.mem_of_getElem? (i := 3) rfl))))))))) (fa_c (me_s (me_l (me_l (me_l (me_l (me_l (me_l (me_l (List.mem_of_getElem? (i := 4) rfl))))))))) (fa_c (me_s (me_l (me_l (me_l (me_l (me_l (me_l (me_l (List.mem_of_getElem? (i := 5) rfl))))))))) fa_n))))) (by decide +kernel)
set_option maxRecDepth 20000 in
theorem gX11_stays_X11_isMonth : GoodIn wsX11_stays (va_wsS RX11 122 yX11_isMonth wsX11_isMonth) := goodIn_app (goodIn_sub (fa_c (me_s (me_l (me_l (me_l (me_l (me_l (me_l (me_l (List.mem_of_getElem? (i := 6) rfl))))))))) (fa_c (me_s (me_l (me_l (me_l (me_l (me_l (me_l (me_l (List.mem_of_getElem? (i := 7) rfl))))))))) (fa_c (me_s (me_l (me_l (me_l (me_l (me_l (me_l (me_l (List.mem_of_getElem? (i := 4) rfl))))))))) fa_n))) (by decide +kernel)) ggX11_stays_X11_isMonth
theorem dX11_stays_10 : decode cX11_stays 10 = .ok (.invokestatic 122, 3) := z_dd_184 (by decide +kernel)
theorem dX11_stays_13 : decode cX11_stays 13 = .ok (.ifCond .ne 5, 3) := z_dd_154 (by decide +kernel)
theorem dX11_stays_18 : decode cX11_stays 18 = .ok (.aload_n 0, 1) := z_dd_42 (by decide +kernel)
theorem dX11_stays_19 : decode cX11_stays 19 = .ok (.iload_n 1, 1) := z_dd_27 (by decide +kernel)
theorem dX11_stays_20 : decode cX11_stays 20 = .ok (.iload_n 2, 1) := z_dd_28 (by decide +kernel)
set_option maxRecDepth 20000 in
theorem ggX11_stays_X11_dealOut : GoodIn wsX11_stays wsX11_dealOut := goodIn_sub (fa_c (me_s (me_l (me_l (me_l (me_l (me_l (me_l (me_l (List.mem_of_getElem? (i := 12) rfl))))))))) (fa_a (fa_a (fa_a (fa_a (fa_a (fa_a (fa_a (fa_c (me_s (me_l (me_l (me_l (me_l (me_l (me_l (me_l (List.mem_of_getElem? (i := 13) rfl))))))))) (fa_c (me_s (me_l (me_l (me_l (me_l (me_l (me_l (me_l (List.mem_of_getElem? (i := 0) rfl))))))))) (fa_c (me_s (me_l (me_l (me_l (me_l (me_l (me_l (me_l (List.mem_of_getElem? (i := 1) rfl))))))))) (fa_c (me_s (me_l (me_l (me_l (me_l (me_l (me_l (me_l (List.mem_of_getElem? (i := 14) rfl))))))))) (fa_c (me_s (me_l (me_l (me_l (me_l (me_l (me_l (me_l (List.mem_of_getElem? (i := 15) rfl))))))))) (fa_c (me_s (me_l (me_l (me_l (me_l (me_l (me_l (me_l (List.mem_of_getElem? (i := 16) rfl))))))))) (fa_c (me_s (me_l (me_l (me_l (me_l (me_l (me_l (me_l (List.mem_of_getElem? (i := 17) rfl))))))))) (fa_c (me_s (me_l (me_l (me_l (me_l (me_l (me_l (me_l (List.mem_of_getElem? (i := 18) rfl))))))))) (fa_c (me_s (me_l (me_l (me_l (me_l (me_l (me_l (me_l (List.mem_of_getElem? (i := 19) rfl))))))))) (fa_c (me_s (me_l (me_l (me_l (me_l (me_l (me_l (me_l (List.mem_of_getElem? (i := 20) rfl))))))))) (fa_c (me_s (me_l (me_l (me_l (me_l (me_l (me_l (me_l (List.mem_of_getElem? (i := 21) rfl))))))))) (fa_c (me_s (me_l (me_l (me_l (me_l (me_l (me_l (me_l (List.mem_of_getElem? (i := 22) rfl))))))))) (fa_c (me_s (me_l (me_l (me_l (me_l (me_l (me_l (me_l (List.mem_of_getElem? (i := 23) rfl))))))))) (fa_c (me_s (me_l (me_l (me_l (me_l (me_l (me_l (me_r (me_l (List.mem_of_getElem? (i := 0) rfl)))))))))) (fa_c (me_s (me_l (me_l (me_l (me_l (me_l (me_l (me_r (me_l (List.mem_of_getElem? (i := 1) rfl)))))))))) (fa_c (me_s (me_l (me_l (me_l (me_l (me_l (me_l (me_r (me_l (List.mem_of_getElem? (i := 2) rfl)))))))))) (fa_c (me_s (me_l (me_l (me_l (me_l (me_l (me_l (me_r (me_l (List.mem_of_getElem? (i := 3) rfl)))))))))) (fa_c (me_s (me_l (me_l (me_l (me_l (me_l (me_l (me_r (me_l (List.mem_of_getElem? (i := 4) rfl)))))))))) (fa_c (me_s (me_l (me_l (me_l (me_l (me_l (me_l (me_r (me_l (List.mem_of_getElem? (i := 5) rfl)))))))))) (fa_c (me_s (me_l (me_l (me_l (me_l (me_l (me_l (me_r (me_l (List.mem_of_getElem? (i := 6) rfl)))))))))) (fa_c (me_s (me_l (me_l (me_l (me_l (me_l (me_l (me_r (me_l (List.mem_of_getElem? (i := 7) rfl)))))))))) (fa_c (me_s (me_l (me_l (me_l (me_l (me_l (me_l (me_r (me_l (List.mem_of_getElem? (i := 8) rfl)))))))))) (fa_c (me_s (me_l (me_l (me_l (me_l (me_l (me_l (me_r (me_l (List.mem_of_getElem? (i := 9) rfl)))))))))) (fa_c (me_s (me_l (me_l (me_l (me_l (me_l (me_l (me_r (me_l (List.mem_of_getElem? (i := 10) rfl)))))))))) fa_n)))))))))))))))))))))))) (fa_a (fa_c (me_s (me_l (me_l (me_l (me_l (me_l (me_l (me_r (me_l (List.mem_of_getElem? (i := 11) rfl)))))))))) (fa_c (me_s (me_l (me_l (me_l (me_l (me_l (me_l (me_r (me_l (List.mem_of_getElem? (i := 12) rfl)))))))))) (fa_c (me_s (me_l (me_l (me_l (me_l (me_l (me_l (me_r (me_l (List.mem_of_getElem? (i := 13) rfl)))))))))) (fa_c (me_s (me_l (me_l (me_l (me_l (me_l (me_l (me_r (me_l (List.mem_of_getElem? (i := 14) rfl)))))))))) (fa_c (me_s (me_l (me_l (me_l (me_l (me_l (me_l (me_r (me_l (List.mem_of_getElem? (i := 15) rfl)))))))))) (fa_c (me_s (me_l (me_l (me_l (me_l (me_l (me_l (me_r (me_l (List.mem_of_getElem? (i := 16) rfl)))))))))) (fa_c (me_s (me_l (me_l (me_l (me_l (me_l (me_l (me_r (me_l (List.mem_of_getElem? (i := 17) rfl)))))))))) (fa_c (me_s (me_l (me_l (me_l (me_l (me_l (me_l (me_r (me_l (List.mem_of_getElem? (i := 18) rfl)))))))))) (fa_c (me_s (me_l (me_l (me_l (me_l (me_l (me_l (me_r (me_l (List.mem_of_getElem? (i := 19) rfl)))))))))) (fa_c (me_s (me_l (me_l (me_l (me_l (me_l (me_l (me_r (me_l (List.mem_of_getElem? (i := 20) rfl)))))))))) (fa_c (me_s (me_l (me_l (me_l (me_l (me_l (me_l (me_r (me_l (List.mem_of_getElem? (i := 21) rfl)))))))))) (fa_c (me_s (me_l (me_l (me_l (me_l (me_l (me_l (me_r (me_l (List.mem_of_getElem? (i := 22) rfl)))))))))) (fa_c (me_s (me_l (me_l (me_l (me_l (me_l (me_l (me_r (me_l (List.mem_of_getElem? (i := 23) rfl)))))))))) (fa_c (me_s (me_l (me_l (me_l (me_l (me_l (me_l (me_r (me_r (me_l (List.mem_of_getElem? (i := 0) rfl))))))))))) (fa_c (me_s (me_l (me_l (me_l (me_l (me_l (me_l (me_r (me_r (me_l (List.mem_of_getElem? (i := 1) rfl))))))))))) (fa_c (me_s (me_l (me_l (me_l (me_l (me_l (me_l (me_r (me_r (me_l (List.mem_of_getElem? (i := 2) rfl))))))))))) (fa_c (me_s (me_l (me_l (me_l (me_l (me_l (me_l (me_r (me_r (me_l (List.mem_of_getElem? (i := 3) rfl))))))))))) (fa_c (me_s (me_l (me_l (me_l (me_l (me_l (me_l (me_r (me_r (me_l (List.mem_of_getElem? (i := 4) rfl))))))))))) (fa_c (me_s (me_l (me_l (me_l (me_l (me_l (me_l (me_r (me_r (me_l (List.mem_of_getElem? (i := 5) rfl))))))))))) (fa_c (me_s (me_l (me_l (me_l (me_l (me_l (me_l (me_r (me_r (me_l (List.mem_of_getElem? (i := 6) rfl))))))))))) (fa_c (me_s (me_l (me_l (me_l (me_l (me_l (me_l (me_r (me_r (me_l (List.mem_of_getElem? (i := 7) rfl))))))))))) (fa_c (me_s (me_l (me_l (me_l (me_l (me_l (me_l (me_r (me_r (me_l (List.mem_of_getElem? (i := 8) rfl))))))))))) (fa_c (me_s (me_l (me_l (me_l (me_l (me_l (me_l (me_r (me_r (me_l (List.mem_of_getElem? (i := 9) rfl))))))))))) (fa_c (me_s (me_l (me_l (me_l (me_l (me_l (me_l (me_r (me_r (me_l (List.mem_of_getElem? (i := 10) rfl))))))))))) fa_n)))))))))))))))))))))))) (fa_a (fa_c (me_s (me_l (me_l (me_l (me_l (me_l (me_l (me_r (me_r (me_l (List.mem_of_getElem? (i := 11) rfl))))))))))) (fa_c (me_s (me_l (me_l (me_l (me_l (me_l (me_l (me_r (me_r (me_l (List.mem_of_getElem? (i := 12) rfl))))))))))) (fa_c (me_s (me_l (me_l (me_l (me_l (me_l (me_l (me_r (me_r (me_l (List.mem_of_getElem? (i := 13) rfl))))))))))) (fa_c (me_s (me_l (me_l (me_l (me_l (me_l (me_l (me_r (me_r (me_l (List.mem_of_getElem? (i := 14) rfl))))))))))) (fa_c (me_s (me_l (me_l (me_l (me_l (me_l (me_l (me_r (me_r (me_l (List.mem_of_getElem? (i := 15) rfl))))))))))) (fa_c (me_s (me_l (me_l (me_l (me_l (me_l (me_l (me_r (me_r (me_l (List.mem_of_getElem? (i := 16) rfl))))))))))) (fa_c (me_s (me_l (me_l (me_l (me_l (me_l (me_l (me_r (me_r (me_l (List.mem_of_getElem? (i := 17) rfl))))))))))) (fa_c (me_s (me_l (me_l (me_l (me_l (me_l (me_l (me_r (me_r (me_l (List.mem_of_getElem? (i := 18) rfl))))))))))) (fa_c (me_s (me_l (me_l (me_l (me_l (me_l (me_l (me_r (me_r (me_l (List.mem_of_getElem? (i := 19) rfl))))))))))) (fa_c (me_s (me_l (me_l (me_l (me_l (me_l (me_l (me_r (me_r (me_l (List.mem_of_getElem? (i := 20) rfl))))))))))) (fa_c (me_s (me_l (me_l (me_l (me_l (me_l (me_l (me_r (me_r (me_l (List.mem_of_getElem? (i := 21) rfl))))))))))) (fa_c (me_s (me_l (me_l (me_l (me_l (me_l (me_l (me_r (me_r (me_l (List.mem_of_getElem? (i := 22) rfl))))))))))) (fa_c (me_s (me_l (me_l (me_l (me_l (me_l (me_l (me_r (me_r (me_l (List.mem_of_getElem? (i := 23) rfl))))))))))) (fa_c (me_s (me_l (me_l (me_l (me_l (me_l (me_l (me_r (me_r (me_r (me_l (List.mem_of_getElem? (i := 0) rfl)))))))))))) (fa_c (me_s (me_l (me_l (me_l (me_l (me_l (me_l (me_r (me_r (me_r (me_l (List.mem_of_getElem? (i := 1) rfl)))))))))))) (fa_c (me_s (me_l (me_l (me_l (me_l (me_l (me_l (me_r (me_r (me_r (me_l (List.mem_of_getElem? (i := 2) rfl)))))))))))) (fa_c (me_s (me_l (me_l (me_l (me_l (me_l (me_l (me_r (me_r (me_r (me_l (List.mem_of_getElem? (i := 3) rfl)))))))))))) (fa_c (me_s (me_l (me_l (me_l (me_l (me_l (me_l (me_r (me_r (me_r (me_l (List.mem_of_getElem? (i := 4) rfl)))))))))))) (fa_c (me_s (me_l (me_l (me_l (me_l (me_l (me_l (me_r (me_r (me_r (me_l (List.mem_of_getElem? (i := 5) rfl)))))))))))) (fa_c (me_s (me_l (me_l (me_l (me_l (me_l (me_l (me_r (me_r (me_r (me_l (List.mem_of_getElem? (i := 6) rfl)))))))))))) (fa_c (me_s (me_l (me_l (me_l (me_l (me_l (me_l (me_r (me_r (me_r (me_l (List.mem_of_getElem? (i := 7) rfl)))))))))))) (fa_c (me_s (me_l (me_l (me_l (me_l (me_l (me_l (me_r (me_r (me_r (me_l (List.mem_of_getElem? (i := 8) rfl)))))))))))) (fa_c (me_s (me_l (me_l (me_l (me_l (me_l (me_l (me_r (me_r (me_r (me_l (List.mem_of_getElem? (i := 9) rfl)))))))))))) (fa_c (me_s (me_l (me_l (me_l (me_l (me_l (me_l (me_r (me_r (me_r (me_l (List.mem_of_getElem? (i := 10) rfl)))))))))))) fa_n)))))))))))))))))))))))) (fa_a (fa_c (me_s (me_l (me_l (me_l (me_l (me_l (me_l (me_r (me_r (me_r (me_l (List.mem_of_getElem? (i := 11) rfl)))))))))))) (fa_c (me_s (me_l (me_l (me_l (me_l (me_l (me_l (me_r (me_r (me_r (me_l (List.mem_of_getElem? (i := 12) rfl)))))))))))) (fa_c (me_s (me_l (me_l (me_l (me_l (me_l (me_l (me_r (me_r (me_r (me_l (List.mem_of_getElem? (i := 13) rfl)))))))))))) (fa_c (me_s (me_l (me_l (me_l (me_l (me_l (me_l (me_r (me_r (me_r (me_l (List.mem_of_getElem? (i := 14) rfl)))))))))))) (fa_c (me_s (me_l (me_l (me_l (me_l (me_l (me_l (me_r (me_r (me_r (me_l (List.mem_of_getElem? (i := 15) rfl)))))))))))) (fa_c (me_s (me_l (me_l (me_l (me_l (me_l (me_l (me_r (me_r (me_r (me_l (List.mem_of_getElem? (i := 16) rfl)))))))))))) (fa_c (me_s (me_l (me_l (me_l (me_l (me_l (me_l (me_r (me_r (me_r (me_l (List.mem_of_getElem? (i := 17) rfl)))))))))))) (fa_c (me_s (me_l (me_l (me_l (me_l (me_l (me_l (me_r (me_r (me_r (me_l (List.mem_of_getElem? (i := 18) rfl)))))))))))) (fa_c (me_s (me_l (me_l (me_l (me_l (me_l (me_l (me_r (me_r (me_r (me_l (List.mem_of_getElem? (i := 19) rfl)))))))))))) (fa_c (me_s (me_l (me_l (me_l (me_l (me_l (me_l (me_r (me_r (me_r (me_l (List.mem_of_getElem? (i := 20) rfl)))))))))))) (fa_c (me_s (me_l (me_l (me_l (me_l (me_l (me_l (me_r (me_r (me_r (me_l (List.mem_of_getElem? (i := 21) rfl)))))))))))) (fa_c (me_s (me_l (me_l (me_l (me_l (me_l (me_l (me_r (me_r (me_r (me_l (List.mem_of_getElem? (i := 22) rfl)))))))))))) (fa_c (me_s (me_l (me_l (me_l (me_l (me_l (me_l (me_r (me_r (me_r (me_l (List.mem_of_getElem? (i := 23) rfl)))))))))))) (fa_c (me_s (me_l (me_l (me_l (me_l (me_l (me_l (me_r (me_r (me_r (me_r (me_l (List.mem_of_getElem? (i := 0) rfl))))))))))))) (fa_c (me_s (me_l (me_l (me_l (me_l (me_l (me_l (me_r (me_r (me_r (me_r (me_l (List.mem_of_getElem? (i := 1) rfl))))))))))))) (fa_c (me_s (me_l (me_l (me_l (me_l (me_l (me_l (me_r (me_r (me_r (me_r (me_l (List.mem_of_getElem? (i := 2) rfl))))))))))))) (fa_c (me_s (me_l (me_l (me_l (me_l (me_l (me_l (me_r (me_r (me_r (me_r (me_l (List.mem_of_getElem? (i := 3) rfl))))))))))))) (fa_c (me_s (me_l (me_l (me_l (me_l (me_l (me_l (me_r (me_r (me_r (me_r (me_l (List.mem_of_getElem? (i := 4) rfl))))))))))))) (fa_c (me_s (me_l (me_l (me_l (me_l (me_l (me_l (me_r (me_r (me_r (me_r (me_l (List.mem_of_getElem? (i := 5) rfl))))))))))))) (fa_c (me_s (me_l (me_l (me_l (me_l (me_l (me_l (me_r (me_r (me_r (me_r (me_l (List.mem_of_getElem? (i := 6) rfl))))))))))))) (fa_c (me_s (me_l (me_l (me_l (me_l (me_l (me_l (me_r (me_r (me_r (me_r (me_l (List.mem_of_getElem? (i := 7) rfl))))))))))))) (fa_c (me_s (me_l (me_l (me_l (me_l (me_l (me_l (me_r (me_r (me_r (me_r (me_l (List.mem_of_getElem? (i := 8) rfl))))))))))))) (fa_c (me_s (me_l (me_l (me_l (me_l (me_l (me_l (me_r (me_r (me_r (me_r (me_l (List.mem_of_getElem? (i := 9) rfl))))))))))))) (fa_c (me_s (me_l (me_l (me_l (me_l (me_l (me_l (me_r (me_r (me_r (me_r (me_l (List.mem_of_getElem? (i := 10) rfl))))))))))))) fa_n)))))))))))))))))))))))) (fa_a (fa_c (me_s (me_l (me_l (me_l (me_l (me_l (me_l (me_r (me_r (me_r (me_r (me_l (List.mem_of_getElem? (i := 11) rfl))))))))))))) (fa_c (me_s (me_l (me_l (me_l (me_l (me_l (me_l (me_r (me_r (me_r (me_r (me_l (List.mem_of_getElem? (i := 12) rfl))))))))))))) (fa_c (me_s (me_l (me_l (me_l (me_l (me_l (me_l (me_r (me_r (me_r (me_r (me_l (List.mem_of_getElem? (i := 13) rfl))))))))))))) (fa_c (me_s (me_l (me_l (me_l (me_l (me_l (me_l (me_r (me_r (me_r (me_r (me_l (List.mem_of_getElem? (i := 14) rfl))))))))))))) (fa_c (me_s (me_l (me_l (me_l (me_l (me_l (me_l (me_r (me_r (me_r (me_r (me_l (List.mem_of_getElem? (i := 15) rfl))))))))))))) (fa_c (me_s (me_l (me_l (me_l (me_l (me_l (me_l (me_r (me_r (me_r (me_r (me_l (List.mem_of_getElem? (i := 16) rfl))))))))))))) (fa_c (me_s (me_l (me_l (me_l (me_l (me_l (me_l (me_r (me_r (me_r (me_r (me_l (List.mem_of_getElem? (i := 17) rfl))))))))))))) (fa_c (me_s (me_l (me_l (me_l (me_l (me_l (me_l (me_r (me_r (me_r (me_r (me_l (List.mem_of_getElem? (i := 18) rfl))))))))))))) (fa_c (me_s (me_l (me_l (me_l (me_l (me_l (me_l (me_r (me_r (me_r (me_r (me_l (List.mem_of_getElem? (i := 19) rfl))))))))))))) (fa_c (me_s (me_l (me_l (me_l (me_l (me_l (me_l (me_r (me_r (me_r (me_r (me_l (List.mem_of_getElem? (i := 20) rfl))))))))))))) (fa_c (me_s (me_l (me_l (me_l (me_l (me_l (me_l (me_r (me_r (me_r (me_r (me_l (List.mem_of_getElem? (i := 21) rfl))))))))))))) (fa_c (me_s (me_l (me_l (me_l (me_l (me_l (me_l (me_r (me_r (me_r (me_r (me_l (List.mem_of_getElem? (i := 22) rfl))))))))))))) (fa_c (me_s (me_l (me_l (me_l (me_l (me_l (me_l (me_r (me_r (me_r (me_r (me_l (List.mem_of_getElem? (i := 23) rfl))))))))))))) (fa_c (me_s (me_l (me_l (me_l (me_l (me_l (me_l (me_r (me_r (me_r (me_r (me_r (me_l (List.mem_of_getElem? (i := 0) rfl)))))))))))))) (fa_c (me_s (me_l (me_l (me_l (me_l (me_l (me_l (me_r (me_r (me_r (me_r (me_r (me_l (List.mem_of_getElem? (i := 1) rfl)))))))))))))) (fa_c (me_s (me_l (me_l (me_l (me_l (me_l (me_l (me_r (me_r (me_r (me_r (me_r (me_l (List.mem_of_getElem? (i := 2) rfl)))))))))))))) (fa_c (me_s (me_l (me_l (me_l (me_l (me_l (me_l (me_r (me_r (me_r (me_r (me_r (me_l (List.mem_of_getElem? (i := 3) rfl)))))))))))))) (fa_c (me_s (me_l (me_l (me_l (me_l (me_l (me_l (me_r (me_r (me_r (me_r (me_r (me_l (List.mem_of_getElem? (i := 4) rfl)))))))))))))) (fa_c (me_s (me_l (me_l (me_l (me_l (me_l (me_l (me_r (me_r (me_r (me_r (me_r (me_l (List.mem_of_getElem? (i := 5) rfl)))))))))))))) (fa_c (me_s (me_l (me_l (me_l (me_l (me_l (me_l (me_r (me_r (me_r (me_r (me_r (me_l (List.mem_of_getElem? (i := 6) rfl)))))))))))))) (fa_c (me_s (me_l (me_l (me_l (me_l (me_l (me_l (me_r (me_r (me_r (me_r (me_r (me_l (List.mem_of_getElem? (i := 7) rfl)))))))))))))) (fa_c (me_s (me_l (me_l (me_l (me_l (me_l (me_l (me_r (me_r (me_r (me_r (me_r (me_l (List.mem_of_getElem? (i := 8) rfl)))))))))))))) (fa_c (me_s (me_l (me_l (me_l (me_l (me_l (me_l (me_r (me_r (me_r (me_r (me_r (me_l (List.mem_of_getElem? (i := 9) rfl)))))))))))))) (fa_c (me_s (me_l (me_l (me_l (me_l (me_l (me_l (me_r (me_r (me_r (me_r (me_r (me_l (List.mem_of_getElem? (i := 10) rfl)))))))))))))) fa_n)))))))))))))))))))))))) (fa_c (me_s (me_l (me_l (me_l (me_l (me_l (me_l (me_r (me_r (me_r (me_r (me_r (me_l (List.mem_of_getElem? (i := 11) rfl)))))))))))))) (fa_c (me_s (me_l (me_l (me_l (me_l (me_l (me_l (me_r (me_r (me_r (me_r (me_r (me_l (List.mem_of_getElem? (i := 12) rfl)))))))))))))) (fa_c (me_s (me_l (me_l (me_l (me_l (me_l (me_l (me_r (me_r (me_r (me_r (me_r (me_l (List.mem_of_getElem? (i := 13) rfl)))))))))))))) (fa_c (me_s (me_l (me_l (me_l (me_l (me_l (me_l (me_r (me_r (me_r (me_r (me_r (me_l (List.mem_of_getElem? (i := 14) rfl)))))))))))))) (fa_c (me_s (me_l (me_l (me_l (me_l (me_l (me_l (me_r (me_r (me_r (me_r (me_r (me_l (List.mem_of_getElem? (i := 15) rfl)))))))))))))) (fa_c (me_s (me_l (me_l (me_l (me_l (me_l (me_l (me_r (me_r (me_r (me_r (me_r (me_l (List.mem_of_getElem? (i := 16) rfl)))))))))))))) (fa_c (me_s (me_l (me_l (me_l (me_l (me_l (me_l (me_r (me_r (me_r (me_r (me_r (me_l (List.mem_of_getElem? (i := 17) rfl)))))))))))))) (fa_c (me_s (me_l (me_l (me_l (me_l (me_l (me_l (me_r (me_r (me_r (me_r (me_r (me_l (List.mem_of_getElem? (i := 18) rfl)))))))))))))) (fa_c (me_s (me_l (me_l (me_l (me_l (me_l (me_l (me_r (me_r (me_r (me_r (me_r (me_l (List.mem_of_getElem? (i := 19) rfl)))))))))))))) (fa_c (me_s (me_l (me_l (me_l (me_l (me_l (me_l (me_r (me_r (me_r (me_r (me_r (me_l (List.mem_of_getElem? (i := 20) rfl)))))))))))))) (fa_c (me_s (me_l (me_l (me_l (me_l (me_l (me_l (me_r (me_r (me_r (me_r (me_r (me_l (List.mem_of_getElem? (i := 21) rfl)))))))))))))) (fa_c (me_s (me_l (me_l (me_l (me_l (me_l (me_l (me_r (me_r (me_r (me_r (me_r (me_l (List.mem_of_getElem? (i := 22) rfl)))))))))))))) (fa_c (me_s (me_l (me_l (me_l (me_l (me_l (me_l (me_r (me_r (me_r (me_r (me_r (me_l (List.mem_of_getElem? (i := 23) rfl)))))))))))))) fa_n)))))))))))))))))) (fun w h => (me_s (me_l (me_l (me_l (me_l (me_l (me_r h))))))))) (fun w h => (me_s (me_l (me_l (me_l (me_l (me_r h)))))))) (fun w h => (me_s (me_l (me_l (me_l (me_r h))))))) (fun w h => (me_s (me_l (me_l (me_r h)))))) (fun w h => (me_s (me_l (me_r h))))) (fun w h => (me_s (me_r h))))) (by decide +kernel)
set_option maxRecDepth 20000 in
theorem gX11_stays_X11_dealOut : GoodIn wsX11_stays (wsV RX11 365 RX11 yX11_dealOut wsX11_dealOut) := goodIn_app (goodIn_sub (fa_c (me_s (me_l (me_l (me_l (me_l (me_l (me_l (me_l (List.mem_of_getElem? (i := 9) rfl))))))))) (fa_c (me_s (me_l (me_l (me_l (me_l (me_l (me_l (me_l (List.mem_of_getElem? (i := 10) rfl))))))))) (fa_c (me_s (me_l (me_l (me_l (me_l (me_l (me_l (me_l (List.mem_of_getElem? (i := 11) rfl))))))))) (fa_c (me_s (me_l (me_l (me_l (me_l (me_l (me_l (me_l (List.mem_of_getElem? (i := 4) rfl))))))))) fa_n)))) (by decide +kernel)) ggX11_stays_X11_dealOut
theorem dX11_stays_21 : decode cX11_stays 21 = .ok (.invokevirtual 365, 3) := z_dd_182 (by decide +kernel)
theorem dX11_stays_24 : decode cX11_stays 24 = .ok (.iconst 0, 1) := z_dd_3 (by decide +kernel)
theorem dX11_stays_25 : decode cX11_stays 25 = .ok (.istore_n 3, 1) := z_dd_62 (by decide +kernel)
theorem dX11_stays_26 : decode cX11_stays 26 = .ok (.iconst 0, 1) := z_dd_3 (by decide +kernel)
theorem dX11_stays_27 : decode cX11_stays 27 = .ok (.istore 4, 2) := z_dd_54 (by decide +kernel)
theorem dX11_stays_29 : decode cX11_stays 29 = .ok (.iload 4, 2) := z_dd_21 (by decide +kernel)
theorem dX11_stays_31 : decode cX11_stays 31 = .ok (.aload_n 0, 1) := z_dd_42 (by decide +kernel)
theorem dX11_stays_32 : decode cX11_stays 32 = .ok (.getfield 16, 3) := z_dd_180 (by decide +kernel)
theorem dX11_stays_35 : decode cX11_stays 35 = .ok (.getfield 373, 3) := z_dd_180 (by decide +kernel)
theorem dX11_stays_38 : decode cX11_stays 38 = .ok (.if_icmp .ge 26, 3) := z_dd_162 (by decide +kernel)
theorem dX11_stays_64 : decode cX11_stays 64 = .ok (.iload_n 3, 1) := z_dd_29 (by decide +kernel)
theorem dX11_stays_65 : decode cX11_stays 65 = .ok (.ireturn, 1) := z_dd_172 (by decide +kernel)
theorem dX11_stays_41 : decode cX11_stays 41 = .ok (.iload_n 3, 1) := z_dd_29 (by decide +kernel)
theorem dX11_stays_42 : decode cX11_stays 42 = .ok (.aload_n 0, 1) := z_dd_42 (by decide +kernel)
theorem dX11_stays_43 : decode cX11_stays 43 = .ok (.iload 4, 2) := z_dd_21 (by decide +kernel)
set_option maxRecDepth 20000 in
theorem ggX11_stays_X11_remains : GoodIn wsX11_stays wsX11_remains := goodIn_sub (fa_c (me_s (me_l (me_l (me_l (me_l (me_l (me_l (me_r (me_r (me_r (me_r (me_r (me_r (List.mem_of_getElem? (i := 3) rfl)))))))))))))) (fa_a (fa_a (fa_a (fa_c (me_s (me_l (me_l (me_l (me_l (me_l (me_l (me_l (List.mem_of_getElem? (i := 0) rfl))))))))) (fa_c (me_s (me_l (me_l (me_l (me_l (me_l (me_l (me_l (List.mem_of_getElem? (i := 13) rfl))))))))) (fa_c (me_s (me_l (me_l (me_l (me_l (me_l (me_l (me_r (me_r (me_r (me_r (me_r (me_r (List.mem_of_getElem? (i := 4) rfl)))))))))))))) (fa_c (me_s (me_l (me_l (me_l (me_l (me_l (me_l (me_r (me_r (me_r (me_r (me_r (me_r (List.mem_of_getElem? (i := 5) rfl)))))))))))))) (fa_c (me_s (me_l (me_l (me_l (me_l (me_l (me_l (me_r (me_l (List.mem_of_getElem? (i := 17) rfl)))))))))) (fa_c (me_s (me_l (me_l (me_l (me_l (me_l (me_l (me_r (me_l (List.mem_of_getElem? (i := 18) rfl)))))))))) (fa_c (me_s (me_l (me_l (me_l (me_l (me_l (me_l (me_r (me_l (List.mem_of_getElem? (i := 19) rfl)))))))))) (fa_c (me_s (me_l (me_l (me_l (me_l (me_l (me_l (me_r (me_l (List.mem_of_getElem? (i := 20) rfl)))))))))) (fa_c (me_s (me_l (me_l (me_l (me_l (me_l (me_l (me_r (me_l (List.mem_of_getElem? (i := 21) rfl)))))))))) (fa_c (me_s (me_l (me_l (me_l (me_l (me_l (me_l (me_r (me_r (me_r (me_r (me_r (me_r (List.mem_of_getElem? (i := 6) rfl)))))))))))))) (fa_c (me_s (me_l (me_l (me_l (me_l (me_l (me_l (me_r (me_r (me_r (me_r (me_r (me_r (List.mem_of_getElem? (i := 7) rfl)))))))))))))) (fa_c (me_s (me_l (me_l (me_l (me_l (me_l (me_l (me_r (me_r (me_r (me_r (me_r (me_r (List.mem_of_getElem? (i := 8) rfl)))))))))))))) (fa_c (me_s (me_l (me_l (me_l (me_l (me_l (me_l (me_l (List.mem_of_getElem? (i := 19) rfl))))))))) (fa_c (me_s (me_l (me_l (me_l (me_l (me_l (me_l (me_r (me_r (me_r (me_r (me_r (me_r (List.mem_of_getElem? (i := 9) rfl)))))))))))))) (fa_c (me_s (me_l (me_l (me_l (me_l (me_l (me_l (me_l (List.mem_of_getElem? (i := 21) rfl))))))))) (fa_c (me_s (me_l (me_l (me_l (me_l (me_l (me_l (me_r (me_r (me_r (me_r (me_l (List.mem_of_getElem? (i := 22) rfl))))))))))))) fa_n)))))))))))))))) (fun w h => (me_s (me_l (me_l (me_l (me_l (me_l (me_r h))))))))) (fun w h => (me_s (me_l (me_l (me_l (me_l (me_r h)))))))) (fun w h => (me_s (me_l (me_l (me_l (me_r h)))))))) (by decide +kernel)
set_option maxRecDepth 20000 in
theorem gX11_stays_X11_remains : GoodIn wsX11_stays (wsV RX11 370 RX11 yX11_remains wsX11_remains) := goodIn_app (goodIn_sub (fa_c (me_s (me_l (me_l (me_l (me_l (me_l (me_l (me_r (me_r (me_r (me_r (me_r (me_r (List.mem_of_getElem? (i := 0) rfl)))))))))))))) (fa_c (me_s (me_l (me_l (me_l (me_l (me_l (me_l (me_r (me_r (me_r (me_r (me_r (me_r (List.mem_of_getElem? (i := 1) rfl)))))))))))))) (fa_c (me_s (me_l (me_l (me_l (me_l (me_l (me_l (me_r (me_r (me_r (me_r (me_r (me_r (List.mem_of_getElem? (i := 2) rfl)))))))))))))) (fa_c (me_s (me_l (me_l (me_l (me_l (me_l (me_l (me_l (List.mem_of_getElem? (i := 4) rfl))))))))) fa_n)))) (by decide +kernel)) ggX11_stays_X11_remains
theorem dX11_stays_45 : decode cX11_stays 45 = .ok (.invokevirtual 370, 3) := z_dd_182 (by decide +kernel)
theorem dX11_stays_48 : decode cX11_stays 48 = .ok (.ifCond .eq 7, 3) := z_dd_153 (by decide +kernel)
theorem dX11_stays_51 : decode cX11_stays 51 = .ok (.iconst 1, 1) := z_dd_4 (by decide +kernel)
theorem dX11_stays_52 : decode cX11_stays 52 = .ok (.goto 4, 3) := z_dd_167 (by decide +kernel)
theorem dX11_stays_56 : decode cX11_stays 56 = .ok (.iadd, 1) := z_dd_96 (by decide +kernel)
theorem dX11_stays_57 : decode cX11_stays 57 = .ok (.istore_n 3, 1) := z_dd_62 (by decide +kernel)
theorem dX11_stays_58 : decode cX11_stays 58 = .ok (.iinc 4 1, 3) := z_dd_132 (by decide +kernel)
theorem dX11_stays_61 : decode cX11_stays 61 = .ok (.goto (-32), 3) := z_dd_167 (by decide +kernel)
theorem dX11_stays_55 : decode cX11_stays 55 = .ok (.iconst 0, 1) := z_dd_3 (by decide +kernel)
theorem dX11_stays_16 : decode cX11_stays 16 = .ok (.iconst (-1), 1) := z_dd_2 (by decide +kernel)
theorem dX11_stays_17 : decode cX11_stays 17 = .ok (.ireturn, 1) := z_dd_172 (by decide +kernel)
theorem dX11_unitsTogether_0 : decode cX11_unitsTogether 0 = .ok (.iconst 0, 1) := z_dd_3 (by decide +kernel)
theorem dX11_unitsTogether_1 : decode cX11_unitsTogether 1 = .ok (.istore_n 3, 1) := z_dd_62 (by decide +kernel)
theorem dX11_unitsTogether_2 : decode cX11_unitsTogether 2 = .ok (.iconst 0, 1) := z_dd_3 (by decide +kernel)
theorem dX11_unitsTogether_3 : decode cX11_unitsTogether 3 = .ok (.istore 4, 2) := z_dd_54 (by decide +kernel)
theorem dX11_unitsTogether_5 : decode cX11_unitsTogether 5 = .ok (.iload 4, 2) := z_dd_21 (by decide +kernel)
theorem dX11_unitsTogether_7 : decode cX11_unitsTogether 7 = .ok (.aload_n 0, 1) := z_dd_42 (by decide +kernel)
theorem dX11_unitsTogether_8 : decode cX11_unitsTogether 8 = .ok (.getfield 16, 3) := z_dd_180 (by decide +kernel)
theorem dX11_unitsTogether_11 : decode cX11_unitsTogether 11 = .ok (.getfield 373, 3) := z_dd_180 (by decide +kernel)
theorem dX11_unitsTogether_14 : decode cX11_unitsTogether 14 = .ok (.if_icmp .ge 54, 3) := z_dd_162 (by decide +kernel)
theorem dX11_unitsTogether_68 : decode cX11_unitsTogether 68 = .ok (.iload_n 3, 1) := z_dd_29 (by decide +kernel)
theorem dX11_unitsTogether_69 : decode cX11_unitsTogether 69 = .ok (.ireturn, 1) := z_dd_172 (by decide +kernel)
theorem dX11_unitsTogether_17 : decode cX11_unitsTogether 17 = .ok (.iload_n 2, 1) := z_dd_28 (by decide +kernel)
theorem dX11_unitsTogether_18 : decode cX11_unitsTogether 18 = .ok (.ifCond .ne 23, 3) := z_dd_154 (by decide +kernel)
theorem dX11_unitsTogether_41 : decode cX11_unitsTogether 41 = .ok (.iload_n 3, 1) := z_dd_29 (by decide +kernel)
theorem dX11_unitsTogether_42 : decode cX11_unitsTogether 42 = .ok (.aload_n 0, 1) := z_dd_42 (by decide +kernel)
theorem dX11_unitsTogether_43 : decode cX11_unitsTogether 43 = .ok (.getfield 30, 3) := z_dd_180 (by decide +kernel)
theorem dX11_unitsTogether_46 : decode cX11_unitsTogether 46 = .ok (.aload_n 0, 1) := z_dd_42 (by decide +kernel)
theorem dX11_unitsTogether_47 : decode cX11_unitsTogether 47 = .ok (.getfield 16, 3) := z_dd_180 (by decide +kernel)
theorem dX11_unitsTogether_50 : decode cX11_unitsTogether 50 = .ok (.iload 4, 2) := z_dd_21 (by decide +kernel)
theorem dX11_unitsTogether_52 : decode cX11_unitsTogether 52 = .ok (.iload_n 1, 1) := z_dd_27 (by decide +kernel)
theorem dX11_unitsTogether_53 : decode cX11_unitsTogether 53 = .ok (.aload_n 0, 1) := z_dd_42 (by decide +kernel)
theorem dX11_unitsTogether_54 : decode cX11_unitsTogether 54 = .ok (.getfield 85, 3) := z_dd_180 (by decide +kernel)
set_option maxRecDepth 20000 in
theorem ggX11_unitsTogether_X6_unitsOf : GoodIn wsX11_unitsTogether wsX6_unitsOf := goodIn_sub (fa_c (me_s (me_l (me_l (me_l (me_l (me_l (me_l (List.mem_of_getElem? (i := 19) rfl)))))))) (fa_a (fa_a (fa_a (fa_a (fa_a (fa_c (me_s (me_l (me_l (me_l (me_l (me_l (me_l (List.mem_of_getElem? (i := 20) rfl)))))))) (fa_c (me_s (me_l (me_l (me_l (me_l (me_l (me_l (List.mem_of_getElem? (i := 21) rfl)))))))) (fa_c (me_s (me_l (me_l (me_l (me_l (me_l (me_l (List.mem_of_getElem? (i := 22) rfl)))))))) (fa_c (me_s (me_l (me_l (me_l (me_l (me_l (me_l (List.mem_of_getElem? (i := 23) rfl)))))))) (fa_c (me_s (me_l (me_l (me_l (me_l (me_l (me_l (List.mem_of_getElem? (i := 18) rfl)))))))) (fa_c (me_s (me_l (me_l (me_l (me_l (me_l (me_r (me_l (List.mem_of_getElem? (i := 0) rfl))))))))) (fa_c (me_s (me_l (me_l (me_l (me_l (me_l (me_r (me_l (List.mem_of_getElem? (i := 1) rfl))))))))) (fa_c (me_s (me_l (me_l (me_l (me_l (me_l (me_r (me_l (List.mem_of_getElem? (i := 2) rfl))))))))) (fa_c (me_s (me_l (me_l (me_l (me_l (me_l (me_r (me_l (List.mem_of_getElem? (i := 3) rfl))))))))) (fa_c (me_s (me_l (me_l (me_l (me_l (me_l (me_r (me_l (List.mem_of_getElem? (i := 4) rfl))))))))) (fa_c (me_s (me_l (me_l (me_l (me_l (me_l (me_r (me_l (List.mem_of_getElem? (i := 5) rfl))))))))) (fa_c (me_s (me_l (me_l (me_l (me_l (me_l (me_r (me_l (List.mem_of_getElem? (i := 6) rfl))))))))) (fa_c (me_s (me_l (me_l (me_l (me_l (me_l (me_r (me_l (List.mem_of_getElem? (i := 7) rfl))))))))) (fa_c (me_s (me_l (me_l (me_l (me_l (me_l (me_r (me_l (List.mem_of_getElem? (i := 8) rfl))))))))) (fa_c (me_s (me_l (me_l (me_l (me_l (me_l (me_r (me_l (List.mem_of_getElem? (i := 9) rfl))))))))) (fa_c (me_s (me_l (me_l (me_l (me_l (me_l (me_r (me_l (List.mem_of_getElem? (i := 10) rfl))))))))) (fa_c (me_s (me_l (me_l (me_l (me_l (me_l (me_r (me_l (List.mem_of_getElem? (i := 11) rfl))))))))) (fa_c (me_s (me_l (me_l (me_l (me_l (me_l (me_l (List.mem_of_getElem? (i := 7) rfl)))))))) (fa_c (me_s (me_l (me_l (me_l (me_l (me_l (me_r (me_l (List.mem_of_getElem? (i := 12) rfl))))))))) (fa_c (me_s (me_l (me_l (me_l (me_l (me_l (me_r (me_l (List.mem_of_getElem? (i := 13) rfl))))))))) (fa_c (me_s (me_l (me_l (me_l (me_l (me_l (me_r (me_l (List.mem_of_getElem? (i := 14) rfl))))))))) (fa_c (me_s (me_l (me_l (me_l (me_l (me_l (me_r (me_l (List.mem_of_getElem? (i := 15) rfl))))))))) (fa_c (me_s (me_l (me_l (me_l (me_l (me_l (me_r (me_l (List.mem_of_getElem? (i := 16) rfl))))))))) (fa_c (me_s (me_l (me_l (me_l (me_l (me_l (me_r (me_l (List.mem_of_getElem? (i := 17) rfl))))))))) fa_n)))))))))))))))))))))))) (fa_a (fa_c (me_s (me_l (me_l (me_l (me_l (me_l (me_r (me_l (List.mem_of_getElem? (i := 18) rfl))))))))) (fa_c (me_s (me_l (me_l (me_l (me_l (me_l (me_r (me_l (List.mem_of_getElem? (i := 19) rfl))))))))) (fa_c (me_s (me_l (me_l (me_l (me_l (me_l (me_r (me_l (List.mem_of_getElem? (i := 20) rfl))))))))) (fa_c (me_s (me_l (me_l (me_l (me_l (me_l (me_r (me_l (List.mem_of_getElem? (i := 21) rfl))))))))) (fa_c (me_s (me_l (me_l (me_l (me_l (me_l (me_l (List.mem_of_getElem? (i := 5) rfl)))))))) (fa_c (me_s (me_l (me_l (me_l (me_l (me_l (me_l (List.mem_of_getElem? (i := 6) rfl)))))))) (fa_c (me_s (me_l (me_l (me_l (me_l (me_l (me_l (List.mem_of_getElem? (i := 8) rfl)))))))) (fa_c (me_s (me_l (me_l (me_l (me_l (me_l (me_l (List.mem_of_getElem? (i := 9) rfl)))))))) (fa_c (me_s (me_l (me_l (me_l (me_l (me_l (me_l (List.mem_of_getElem? (i := 10) rfl)))))))) (fa_c (me_s (me_l (me_l (me_l (me_l (me_l (me_l (List.mem_of_getElem? (i := 11) rfl)))))))) (fa_c (me_s (me_l (me_l (me_l (me_l (me_l (me_l (List.mem_of_getElem? (i := 12) rfl)))))))) (fa_c (me_s (me_l (me_l (me_l (me_l (me_l (me_l (List.mem_of_getElem? (i := 13) rfl)))))))) (fa_c (me_s (me_l (me_l (me_l (me_l (me_l (me_l (List.mem_of_getElem? (i := 14) rfl)))))))) (fa_c (me_s (me_l (me_l (me_l (me_l (me_l (me_r (me_l (List.mem_of_getElem? (i := 22) rfl))))))))) (fa_c (me_s (me_l (me_l (me_l (me_l (me_l (me_r (me_l (List.mem_of_getElem? (i := 23) rfl))))))))) (fa_c (me_s (me_l (me_l (me_l (me_l (me_l (me_r (me_r (me_l (List.mem_of_getElem? (i := 0) rfl)))))))))) (fa_c (me_s (me_l (me_l (me_l (me_l (me_l (me_r (me_r (me_l (List.mem_of_getElem? (i := 1) rfl)))))))))) (fa_c (me_s (me_l (me_l (me_l (me_l (me_l (me_r (me_r (me_l (List.mem_of_getElem? (i := 2) rfl)))))))))) (fa_c (me_s (me_l (me_l (me_l (me_l (me_l (me_r (me_r (me_l (List.mem_of_getElem? (i := 3) rfl)))))))))) (fa_c (me_s (me_l (me_l (me_l (me_l (me_l (me_r (me_r (me_l (List.mem_of_getElem? (i := 4) rfl)))))))))) (fa_c (me_s (me_l (me_l (me_l (me_l (me_l (me_r (me_r (me_l (List.mem_of_getElem? (i := 5) rfl)))))))))) (fa_c (me_s (me_l (me_l (me_l (me_l (me_l (me_r (me_r (me_l (List.mem_of_getElem? (i := 6) rfl)))))))))) (fa_c (me_s (me_l (me_l (me_l (me_l (me_l (me_r (me_r (me_l (List.mem_of_getElem? (i := 7) rfl)))))))))) (fa_c (me_s (me_l (me_l (me_l (me_l (me_l (me_r (me_r (me_l (List.mem_of_getElem? (i := 8) rfl)))))))))) fa_n)))))))))))))))))))))))) (fa_a (fa_c (me_s (me_l (me_l (me_l (me_l (me_l (me_r (me_r (me_l (List.mem_of_getElem? (i := 9) rfl)))))))))) (fa_c (me_s (me_l (me_l (me_l (me_l (me_l (me_r (me_r (me_l (List.mem_of_getElem? (i := 10) rfl)))))))))) (fa_c (me_s (me_l (me_l (me_l (me_l (me_l (me_r (me_r (me_l (List.mem_of_getElem? (i := 11) rfl)))))))))) (fa_c (me_s (me_l (me_l (me_l (me_l (me_l (me_r (me_r (me_l (List.mem_of_getElem? (i := 12) rfl)))))))))) (fa_c (me_s (me_l (me_l (me_l (me_l (me_l (me_r (me_r (me_l (List.mem_of_getElem? (i := 13) rfl)))))))))) (fa_c (me_s (me_l (me_l (me_l (me_l (me_l (me_r (me_r (me_l (List.mem_of_getElem? (i := 14) rfl)))))))))) (fa_c (me_s (me_l (me_l (me_l (me_l (me_l (me_r (me_r (me_l (List.mem_of_getElem? (i := 15) rfl)))))))))) (fa_c (me_s (me_l (me_l (me_l (me_l (me_l (me_r (me_r (me_l (List.mem_of_getElem? (i := 16) rfl)))))))))) (fa_c (me_s (me_l (me_l (me_l (me_l (me_l (me_r (me_r (me_l (List.mem_of_getElem? (i := 17) rfl)))))))))) (fa_c (me_s (me_l (me_l (me_l (me_l (me_l (me_r (me_r (me_l (List.mem_of_getElem? (i := 18) rfl)))))))))) (fa_c (me_s (me_l (me_l (me_l (me_l (me_l (me_r (me_r (me_l (List.mem_of_getElem? (i := 19) rfl)))))))))) (fa_c (me_s (me_l (me_l (me_l (me_l (me_l (me_r (me_r (me_l (List.mem_of_getElem? (i := 20) rfl)))))))))) (fa_c (me_s (me_l (me_l (me_l (me_l (me_l (me_r (me_r (me_l (List.mem_of_getElem? (i := 21) rfl)))))))))) (fa_c (me_s (me_l (me_l (me_l (me_l (me_l (me_r (me_r (me_l (List.mem_of_getElem? (i := 22) rfl)))))))))) (fa_c (me_s (me_l (me_l (me_l (me_l (me_l (me_r (me_r (me_l (List.mem_of_getElem? (i := 23) rfl)))))))))) (fa_c (me_s (me_l (me_l (me_l (me_l (me_l (me_r (me_r (me_r (me_l (List.mem_of_getElem? (i := 0) rfl))))))))))) (fa_c (me_s (me_l (me_l (me_l (me_l (me_l (me_r (me_r (me_r (me_l (List.mem_of_getElem? (i := 1) rfl))))))))))) (fa_c (me_s (me_l (me_l (me_l (me_l (me_l (me_r (me_r (me_r (me_l (List.mem_of_getElem? (i := 2) rfl))))))))))) (fa_c (me_s (me_l (me_l (me_l (me_l (me_l (me_r (me_r (me_r (me_l (List.mem_of_getElem? (i := 3) rfl))))))))))) (fa_c (me_s (me_l (me_l (me_l (me_l (me_l (me_r (me_r (me_r (me_l (List.mem_of_getElem? (i := 4) rfl))))))))))) (fa_c (me_s (me_l (me_l (me_l (me_l (me_l (me_r (me_r (me_r (me_l (List.mem_of_getElem? (i := 5) rfl))))))))))) (fa_c (me_s (me_l (me_l (me_l (me_l (me_l (me_r (me_r (me_r (me_l (List.mem_of_getElem? (i := 6) rfl))))))))))) (fa_c (me_s (me_l (me_l (me_l (me_l (me_l (me_r (me_r (me_r (me_l (List.mem_of_getElem? (i := 7) rfl))))))))))) (fa_c (me_s (me_l (me_l (me_l (me_l (me_l (me_r (me_r (me_r (me_l (List.mem_of_getElem? (i := 8) rfl))))))))))) fa_n)))))))))))))))))))))))) (fa_c (me_s (me_l (me_l (me_l (me_l (me_l (me_r (me_r (me_r (me_l (List.mem_of_getElem? (i := 9) rfl))))))))))) (fa_c (me_s (me_l (me_l (me_l (me_l (me_l (me_r (me_r (me_r (me_l (List.mem_of_getElem? (i := 10) rfl))))))))))) (fa_c (me_s (me_l (me_l (me_l (me_l (me_l (me_r (me_r (me_r (me_l (List.mem_of_getElem? (i := 11) rfl))))))))))) (fa_c (me_s (me_l (me_l (me_l (me_l (me_l (me_r (me_r (me_r (me_l (List.mem_of_getElem? (i := 12) rfl))))))))))) (fa_c (me_s (me_l (me_l (me_l (me_l (me_l (me_r (me_r (me_r (me_l (List.mem_of_getElem? (i := 13) rfl))))))))))) (fa_c (me_s (me_l (me_l (me_l (me_l (me_l (me_r (me_r (me_r (me_l (List.mem_of_getElem? (i := 14) rfl))))))))))) (fa_c (me_s (me_l (me_l (me_l (me_l (me_l (me_r (me_r (me_r (me_l (List.mem_of_getElem? (i := 15) rfl))))))))))) (fa_c (me_s (me_l (me_l (me_l (me_l (me_l (me_r (me_r (me_r (me_l (List.mem_of_getElem? (i := 16) rfl))))))))))) (fa_c (me_s (me_l (me_l (me_l (me_l (me_l (me_r (me_r (me_r (me_l (List.mem_of_getElem? (i := 17) rfl))))))))))) (fa_c (me_s (me_l (me_l (me_l (me_l (me_l (me_r (me_r (me_r (me_l (List.mem_of_getElem? (i := 18) rfl))))))))))) (fa_c (me_s (me_l (me_l (me_l (me_l (me_l (me_r (me_r (me_r (me_l (List.mem_of_getElem? (i := 19) rfl))))))))))) (fa_c (me_s (me_l (me_l (me_l (me_l (me_l (me_r (me_r (me_r (me_l (List.mem_of_getElem? (i := 20) rfl))))))))))) (fa_c (me_s (me_l (me_l (me_l (me_l (me_l (me_r (me_r (me_r (me_l (List.mem_of_getElem? (i := 21) rfl))))))))))) (fa_c (me_s (me_l (me_l (me_l (me_l (me_l (me_r (me_r (me_r (me_l (List.mem_of_getElem? (i := 22) rfl))))))))))) (fa_c (me_s (me_l (me_l (me_l (me_l (me_l (me_r (me_r (me_r (me_l (List.mem_of_getElem? (i := 23) rfl))))))))))) (fa_c (me_s (me_l (me_l (me_l (me_l (me_l (me_r (me_r (me_r (me_r (List.mem_of_getElem? (i := 0) rfl))))))))))) fa_n))))))))))))))))))) (fun w h => (me_s (me_l (me_l (me_r h)))))) (fun w h => (me_s (me_l (me_r h))))) (fun w h => (me_s (me_l (me_l (me_l (me_r h))))))) (fun w h => (me_s (me_r h))))) (by decide +kernel)
set_option maxRecDepth 20000 in
theorem gX11_unitsTogether_X6_unitsOf : GoodIn wsX11_unitsTogether (wsV RX11 147 RX6 yX6_unitsOf wsX6_unitsOf) := goodIn_app (goodIn_sub (fa_c (me_s (me_l (me_l (me_l (me_l (me_l (me_l (List.mem_of_getElem? (i := 15) rfl)))))))) (fa_c (me_s (me_l (me_l (me_l (me_l (me_l (me_l (List.mem_of_getElem? (i := 16) rfl)))))))) (fa_c (me_s (me_l (me_l (me_l (me_l (me_l (me_l (List.mem_of_getElem? (i := 17) rfl)))))))) (fa_c (me_s (me_l (me_l (me_l (me_l (me_l (me_l (List.mem_of_getElem? (i := 18) rfl)))))))) fa_n)))) (by decide +kernel)) ggX11_unitsTogether_X6_unitsOf
theorem dX11_unitsTogether_57 : decode cX11_unitsTogether 57 = .ok (.invokevirtual 147, 3) := z_dd_182 (by decide +kernel)
theorem dX11_unitsTogether_60 : decode cX11_unitsTogether 60 = .ok (.iadd, 1) := z_dd_96 (by decide +kernel)
theorem dX11_unitsTogether_61 : decode cX11_unitsTogether 61 = .ok (.istore_n 3, 1) := z_dd_62 (by decide +kernel)
theorem dX11_unitsTogether_62 : decode cX11_unitsTogether 62 = .ok (.iinc 4 1, 3) := z_dd_132 (by decide +kernel)
theorem dX11_unitsTogether_65 : decode cX11_unitsTogether 65 = .ok (.goto (-60), 3) := z_dd_167 (by decide +kernel)
theorem dX11_unitsTogether_21 : decode cX11_unitsTogether 21 = .ok (.aload_n 0, 1) := z_dd_42 (by decide +kernel)
theorem dX11_unitsTogether_22 : decode cX11_unitsTogether 22 = .ok (.getfield 16, 3) := z_dd_180 (by decide +kernel)
theorem dX11_unitsTogether_25 : decode cX11_unitsTogether 25 = .ok (.iload 4, 2) := z_dd_21 (by decide +kernel)
theorem dX11_unitsTogether_27 : decode cX11_unitsTogether 27 = .ok (.iload_n 1, 1) := z_dd_27 (by decide +kernel)
theorem dX11_unitsTogether_28 : decode cX11_unitsTogether 28 = .ok (.bipush 30, 2) := z_dd_16 (by decide +kernel)
theorem dX11_unitsTogether_30 : decode cX11_unitsTogether 30 = .ok (.imul, 1) := z_dd_104 (by decide +kernel)
theorem dX11_unitsTogether_31 : decode cX11_unitsTogether 31 = .ok (.aload_n 0, 1) := z_dd_42 (by decide +kernel)
theorem dX11_unitsTogether_32 : decode cX11_unitsTogether 32 = .ok (.getfield 85, 3) := z_dd_180 (by decide +kernel)
set_option maxRecDepth 20000 in
theorem ggX11_unitsTogether_X2_kindOn : GoodIn wsX11_unitsTogether wsX2_kindOn := goodIn_sub (fa_c (me_s (me_l (me_l (me_l (me_l (me_l (me_l (List.mem_of_getElem? (i := 8) rfl)))))))) (fa_a (fa_c (me_s (me_l (me_l (me_l (me_l (me_l (me_l (List.mem_of_getElem? (i := 9) rfl)))))))) (fa_c (me_s (me_l (me_l (me_l (me_l (me_l (me_l (List.mem_of_getElem? (i := 10) rfl)))))))) (fa_c (me_s (me_l (me_l (me_l (me_l (me_l (me_l (List.mem_of_getElem? (i := 11) rfl)))))))) (fa_c (me_s (me_l (me_l (me_l (me_l (me_l (me_l (List.mem_of_getElem? (i := 12) rfl)))))))) (fa_c (me_s (me_l (me_l (me_l (me_l (me_l (me_l (List.mem_of_getElem? (i := 13) rfl)))))))) (fa_c (me_s (me_l (me_l (me_l (me_l (me_l (me_l (List.mem_of_getElem? (i := 14) rfl)))))))) fa_n)))))) (fun w h => (me_s (me_l (me_l (me_l (me_r h)))))))) (by decide +kernel)
set_option maxRecDepth 20000 in
theorem gX11_unitsTogether_X2_kindOn : GoodIn wsX11_unitsTogether (wsV RX11 111 RX2 yX2_kindOn wsX2_kindOn) := goodIn_app (goodIn_sub (fa_c (me_s (me_l (me_l (me_l (me_l (me_l (me_l (List.mem_of_getElem? (i := 4) rfl)))))))) (fa_c (me_s (me_l (me_l (me_l (me_l (me_l (me_l (List.mem_of_getElem? (i := 5) rfl)))))))) (fa_c (me_s (me_l (me_l (me_l (me_l (me_l (me_l (List.mem_of_getElem? (i := 6) rfl)))))))) (fa_c (me_s (me_l (me_l (me_l (me_l (me_l (me_l (List.mem_of_getElem? (i := 7) rfl)))))))) fa_n)))) (by decide +kernel)) ggX11_unitsTogether_X2_kindOn
theorem dX11_unitsTogether_35 : decode cX11_unitsTogether 35 = .ok (.invokevirtual 111, 3) := z_dd_182 (by decide +kernel)
theorem dX11_unitsTogether_38 : decode cX11_unitsTogether 38 = .ok (.ifCond .eq 24, 3) := z_dd_153 (by decide +kernel)
theorem dX11_foretold_0 : decode cX11_foretold 0 = .ok (.aload_n 0, 1) := z_dd_42 (by decide +kernel)
theorem dX11_foretold_1 : decode cX11_foretold 1 = .ok (.getfield 85, 3) := z_dd_180 (by decide +kernel)
theorem dX11_foretold_4 : decode cX11_foretold 4 = .ok (.bipush 30, 2) := z_dd_16 (by decide +kernel)
theorem dX11_foretold_6 : decode cX11_foretold 6 = .ok (.idiv, 1) := z_dd_108 (by decide +kernel)
theorem dX11_foretold_7 : decode cX11_foretold 7 = .ok (.istore_n 3, 1) := z_dd_62 (by decide +kernel)
theorem dX11_foretold_8 : decode cX11_foretold 8 = .ok (.iload_n 1, 1) := z_dd_27 (by decide +kernel)
theorem dX11_foretold_9 : decode cX11_foretold 9 = .ok (.iconst 1, 1) := z_dd_4 (by decide +kernel)
theorem dX11_foretold_10 : decode cX11_foretold 10 = .ok (.bipush 12, 2) := z_dd_16 (by decide +kernel)
set_option maxRecDepth 20000 in
theorem ggX11_foretold_X11_within : GoodIn wsX11_foretold wsX11_within := goodIn_sub (fa_c (me_s (me_l (me_l (me_l (me_l (me_l (me_l (me_l (List.mem_of_getElem? (i := 15) rfl))))))))) fa_n) (by decide +kernel)
set_option maxRecDepth 20000 in
theorem gX11_foretold_X11_within : GoodIn wsX11_foretold (va_wsS RX11 88 yX11_within wsX11_within) := goodIn_app (goodIn_sub (fa_c (me_s (me_l (me_l (me_l (me_l (me_l (me_l (me_l (List.mem_of_getElem? (i := 12) rfl))))))))) (fa_c (me_s (me_l (me_l (me_l (me_l (me_l (me_l (me_l (List.mem_of_getElem? (i := 13) rfl))))))))) (fa_c (me_s (me_l (me_l (me_l (me_l (me_l (me_l (me_l (List.mem_of_getElem? (i := 14) rfl))))))))) fa_n))) (by decide +kernel)) ggX11_foretold_X11_within
theorem dX11_foretold_12 : decode cX11_foretold 12 = .ok (.invokestatic 88, 3) := z_dd_184 (by decide +kernel)
theorem dX11_foretold_15 : decode cX11_foretold 15 = .ok (.ifCond .eq 11, 3) := z_dd_153 (by decide +kernel)
theorem dX11_foretold_18 : decode cX11_foretold 18 = .ok (.iload_n 3, 1) := z_dd_29 (by decide +kernel)
theorem dX11_foretold_19 : decode cX11_foretold 19 = .ok (.iload_n 1, 1) := z_dd_27 (by decide +kernel)
theorem dX11_foretold_20 : decode cX11_foretold 20 = .ok (.iadd, 1) := z_dd_96 (by decide +kernel)
theorem dX11_foretold_21 : decode cX11_foretold 21 = .ok (.bipush 24, 2) := z_dd_16 (by decide +kernel)
theorem dX11_foretold_23 : decode cX11_foretold 23 = .ok (.if_icmp .le 6, 3) := z_dd_164 (by decide +kernel)
theorem dX11_foretold_29 : decode cX11_foretold 29 = .ok (.lconst 0, 1) := z_dd_9 (by decide +kernel)
theorem dX11_foretold_30 : decode cX11_foretold 30 = .ok (.lstore 4, 2) := z_dd_55 (by decide +kernel)
theorem dX11_foretold_32 : decode cX11_foretold 32 = .ok (.iload_n 3, 1) := z_dd_29 (by decide +kernel)
theorem dX11_foretold_33 : decode cX11_foretold 33 = .ok (.istore 6, 2) := z_dd_54 (by decide +kernel)
theorem dX11_foretold_35 : decode cX11_foretold 35 = .ok (.iload 6, 2) := z_dd_21 (by decide +kernel)
theorem dX11_foretold_37 : decode cX11_foretold 37 = .ok (.iload_n 3, 1) := z_dd_29 (by decide +kernel)
theorem dX11_foretold_38 : decode cX11_foretold 38 = .ok (.iload_n 1, 1) := z_dd_27 (by decide +kernel)
theorem dX11_foretold_39 : decode cX11_foretold 39 = .ok (.iadd, 1) := z_dd_96 (by decide +kernel)
theorem dX11_foretold_40 : decode cX11_foretold 40 = .ok (.if_icmp .ge 38, 3) := z_dd_162 (by decide +kernel)
theorem dX11_foretold_78 : decode cX11_foretold 78 = .ok (.ldc2_w 392, 3) := z_dd_20 (by decide +kernel)
theorem dX11_foretold_81 : decode cX11_foretold 81 = .ok (.aload_n 0, 1) := z_dd_42 (by decide +kernel)
theorem dX11_foretold_82 : decode cX11_foretold 82 = .ok (.getfield 61, 3) := z_dd_180 (by decide +kernel)
set_option maxRecDepth 20000 in
theorem ggX11_foretold_X4_inPorts : GoodIn wsX11_foretold wsX4_inPorts := goodIn_sub (fa_c (me_s (me_l (me_l (me_l (me_l (me_l (me_l (me_r (me_r (me_r (me_r (me_r (List.mem_of_getElem? (i := 7) rfl))))))))))))) (fa_a (fa_c (me_s (me_l (me_l (me_l (me_l (me_l (me_l (me_r (me_r (me_r (me_r (me_r (List.mem_of_getElem? (i := 8) rfl))))))))))))) (fa_c (me_s (me_l (me_l (me_l (me_l (me_l (me_l (me_r (me_r (me_r (me_r (me_r (List.mem_of_getElem? (i := 9) rfl))))))))))))) fa_n)) (fun w h => (me_s (me_r h))))) (by decide +kernel)
set_option maxRecDepth 20000 in
theorem gX11_foretold_X4_inPorts : GoodIn wsX11_foretold (wsV RX11 394 RX4 yX4_inPorts wsX4_inPorts) := goodIn_app (goodIn_sub (fa_c (me_s (me_l (me_l (me_l (me_l (me_l (me_l (me_r (me_r (me_r (me_r (me_r (List.mem_of_getElem? (i := 3) rfl))))))))))))) (fa_c (me_s (me_l (me_l (me_l (me_l (me_l (me_l (me_r (me_r (me_r (me_r (me_r (List.mem_of_getElem? (i := 4) rfl))))))))))))) (fa_c (me_s (me_l (me_l (me_l (me_l (me_l (me_l (me_r (me_r (me_r (me_r (me_r (List.mem_of_getElem? (i := 5) rfl))))))))))))) (fa_c (me_s (me_l (me_l (me_l (me_l (me_l (me_l (me_r (me_r (me_r (me_r (me_r (List.mem_of_getElem? (i := 6) rfl))))))))))))) fa_n)))) (by decide +kernel)) ggX11_foretold_X4_inPorts
theorem dX11_foretold_85 : decode cX11_foretold 85 = .ok (.invokevirtual 394, 3) := z_dd_182 (by decide +kernel)
theorem dX11_foretold_88 : decode cX11_foretold 88 = .ok (.i2l, 1) := z_dd_133 (by decide +kernel)
theorem dX11_foretold_89 : decode cX11_foretold 89 = .ok (.lmul, 1) := z_dd_105 (by decide +kernel)
theorem dX11_foretold_90 : decode cX11_foretold 90 = .ok (.lload 4, 2) := z_dd_22 (by decide +kernel)
theorem dX11_foretold_92 : decode cX11_foretold 92 = .ok (.ldc2_w 398, 3) := z_dd_20 (by decide +kernel)
theorem dX11_foretold_95 : decode cX11_foretold 95 = .ok (.ladd, 1) := z_dd_97 (by decide +kernel)
theorem dX11_foretold_96 : decode cX11_foretold 96 = .ok (.ldc2_w 400, 3) := z_dd_20 (by decide +kernel)
theorem dX11_foretold_99 : decode cX11_foretold 99 = .ok (.ldiv, 1) := z_dd_109 (by decide +kernel)
theorem dX11_foretold_100 : decode cX11_foretold 100 = .ok (.lsub, 1) := z_dd_101 (by decide +kernel)
theorem dX11_foretold_101 : decode cX11_foretold 101 = .ok (.lstore 6, 2) := z_dd_55 (by decide +kernel)
theorem dX11_foretold_103 : decode cX11_foretold 103 = .ok (.ldc2_w 402, 3) := z_dd_20 (by decide +kernel)
theorem dX11_foretold_106 : decode cX11_foretold 106 = .ok (.lload 6, 2) := z_dd_22 (by decide +kernel)
theorem dX11_foretold_108 : decode cX11_foretold 108 = .ok (.invokestatic 404, 3) := z_dd_184 (by decide +kernel)
theorem dX11_foretold_111 : decode cX11_foretold 111 = .ok (.l2i, 1) := z_dd_136 (by decide +kernel)
theorem dX11_foretold_112 : decode cX11_foretold 112 = .ok (.ireturn, 1) := z_dd_172 (by decide +kernel)
theorem dX11_foretold_43 : decode cX11_foretold 43 = .ok (.lload 4, 2) := z_dd_22 (by decide +kernel)
theorem dX11_foretold_45 : decode cX11_foretold 45 = .ok (.aload_n 0, 1) := z_dd_42 (by decide +kernel)
theorem dX11_foretold_46 : decode cX11_foretold 46 = .ok (.getfield 30, 3) := z_dd_180 (by decide +kernel)
theorem dX11_foretold_49 : decode cX11_foretold 49 = .ok (.iconst 0, 1) := z_dd_3 (by decide +kernel)
theorem dX11_foretold_50 : decode cX11_foretold 50 = .ok (.iload 6, 2) := z_dd_21 (by decide +kernel)
theorem dX11_foretold_52 : decode cX11_foretold 52 = .ok (.aload_n 0, 1) := z_dd_42 (by decide +kernel)
theorem dX11_foretold_53 : decode cX11_foretold 53 = .ok (.getfield 85, 3) := z_dd_180 (by decide +kernel)
set_option maxRecDepth 20000 in
theorem ggX11_foretold_X6_amount : GoodIn wsX11_foretold wsX6_amount := goodIn_sub (fa_c (me_s (me_l (me_l (me_l (me_l (me_l (me_l (me_l (List.mem_of_getElem? (i := 20) rfl))))))))) (fa_a (fa_a (fa_c (me_s (me_l (me_l (me_l (me_l (me_l (me_l (me_l (List.mem_of_getElem? (i := 21) rfl))))))))) (fa_c (me_s (me_l (me_l (me_l (me_l (me_l (me_l (me_l (List.mem_of_getElem? (i := 22) rfl))))))))) (fa_c (me_s (me_l (me_l (me_l (me_l (me_l (me_l (me_l (List.mem_of_getElem? (i := 23) rfl))))))))) (fa_c (me_s (me_l (me_l (me_l (me_l (me_l (me_l (me_l (List.mem_of_getElem? (i := 19) rfl))))))))) (fa_c (me_s (me_l (me_l (me_l (me_l (me_l (me_l (me_r (me_l (List.mem_of_getElem? (i := 0) rfl)))))))))) (fa_c (me_s (me_l (me_l (me_l (me_l (me_l (me_l (me_r (me_l (List.mem_of_getElem? (i := 1) rfl)))))))))) (fa_c (me_s (me_l (me_l (me_l (me_l (me_l (me_l (me_r (me_l (List.mem_of_getElem? (i := 2) rfl)))))))))) (fa_c (me_s (me_l (me_l (me_l (me_l (me_l (me_l (me_r (me_l (List.mem_of_getElem? (i := 3) rfl)))))))))) (fa_c (me_s (me_l (me_l (me_l (me_l (me_l (me_l (me_r (me_l (List.mem_of_getElem? (i := 4) rfl)))))))))) (fa_c (me_s (me_l (me_l (me_l (me_l (me_l (me_l (me_r (me_l (List.mem_of_getElem? (i := 5) rfl)))))))))) (fa_c (me_s (me_l (me_l (me_l (me_l (me_l (me_l (me_r (me_l (List.mem_of_getElem? (i := 6) rfl)))))))))) (fa_c (me_s (me_l (me_l (me_l (me_l (me_l (me_l (me_r (me_l (List.mem_of_getElem? (i := 7) rfl)))))))))) (fa_c (me_s (me_l (me_l (me_l (me_l (me_l (me_l (me_r (me_l (List.mem_of_getElem? (i := 8) rfl)))))))))) (fa_c (me_s (me_l (me_l (me_l (me_l (me_l (me_l (me_r (me_l (List.mem_of_getElem? (i := 9) rfl)))))))))) (fa_c (me_s (me_l (me_l (me_l (me_l (me_l (me_l (me_l (List.mem_of_getElem? (i := 14) rfl))))))))) (fa_c (me_s (me_l (me_l (me_l (me_l (me_l (me_l (me_r (me_l (List.mem_of_getElem? (i := 10) rfl)))))))))) (fa_c (me_s (me_l (me_l (me_l (me_l (me_l (me_l (me_r (me_l (List.mem_of_getElem? (i := 11) rfl)))))))))) (fa_c (me_s (me_l (me_l (me_l (me_l (me_l (me_l (me_r (me_l (List.mem_of_getElem? (i := 12) rfl)))))))))) (fa_c (me_s (me_l (me_l (me_l (me_l (me_l (me_l (me_r (me_l (List.mem_of_getElem? (i := 13) rfl)))))))))) (fa_c (me_s (me_l (me_l (me_l (me_l (me_l (me_l (me_r (me_l (List.mem_of_getElem? (i := 14) rfl)))))))))) (fa_c (me_s (me_l (me_l (me_l (me_l (me_l (me_l (me_r (me_l (List.mem_of_getElem? (i := 15) rfl)))))))))) (fa_c (me_s (me_l (me_l (me_l (me_l (me_l (me_l (me_r (me_l (List.mem_of_getElem? (i := 16) rfl)))))))))) (fa_c (me_s (me_l (me_l (me_l (me_l (me_l (me_l (me_r (me_l (List.mem_of_getElem? (i := 17) rfl)))))))))) (fa_c (me_s (me_l (me_l (me_l (me_l (me_l (me_l (me_r (me_l (List.mem_of_getElem? (i := 18) rfl)))))))))) fa_n)))))))))))))))))))))))) (fun w h => (me_s (me_l (me_l (me_l (me_l (me_r h)))))))) (fun w h => (me_s (me_l (me_l (me_l (me_r h)))))))) (by decide +kernel)
set_option maxRecDepth 20000 in
theorem gX11_foretold_X6_amount : GoodIn wsX11_foretold (wsV RX11 144 RX6 yX6_amount wsX6_amount) := goodIn_app (goodIn_sub (fa_c (me_s (me_l (me_l (me_l (me_l (me_l (me_l (me_l (List.mem_of_getElem? (i := 16) rfl))))))))) (fa_c (me_s (me_l (me_l (me_l (me_l (me_l (me_l (me_l (List.mem_of_getElem? (i := 17) rfl))))))))) (fa_c (me_s (me_l (me_l (me_l (me_l (me_l (me_l (me_l (List.mem_of_getElem? (i := 18) rfl))))))))) (fa_c (me_s (me_l (me_l (me_l (me_l (me_l (me_l (me_l (List.mem_of_getElem? (i := 19) rfl))))))))) fa_n)))) (by decide +kernel)) ggX11_foretold_X6_amount
theorem dX11_foretold_56 : decode cX11_foretold 56 = .ok (.invokevirtual 144, 3) := z_dd_182 (by decide +kernel)
theorem dX11_foretold_59 : decode cX11_foretold 59 = .ok (.i2l, 1) := z_dd_133 (by decide +kernel)
theorem dX11_foretold_60 : decode cX11_foretold 60 = .ok (.aload_n 0, 1) := z_dd_42 (by decide +kernel)
theorem dX11_foretold_61 : decode cX11_foretold 61 = .ok (.iload 6, 2) := z_dd_21 (by decide +kernel)
theorem dX11_foretold_63 : decode cX11_foretold 63 = .ok (.iload_n 2, 1) := z_dd_28 (by decide +kernel)
set_option maxRecDepth 20000 in
theorem ggX11_foretold_X11_unitsTogether : GoodIn wsX11_foretold wsX11_unitsTogether := goodIn_sub (fa_c (me_s (me_l (me_l (me_l (me_l (me_l (me_l (me_r (me_l (List.mem_of_getElem? (i := 22) rfl)))))))))) (fa_a (fa_a (fa_a (fa_a (fa_a (fa_a (fa_c (me_s (me_l (me_l (me_l (me_l (me_l (me_l (me_r (me_l (List.mem_of_getElem? (i := 23) rfl)))))))))) (fa_c (me_s (me_l (me_l (me_l (me_l (me_l (me_l (me_r (me_r (me_l (List.mem_of_getElem? (i := 0) rfl))))))))))) (fa_c (me_s (me_l (me_l (me_l (me_l (me_l (me_l (me_l (List.mem_of_getElem? (i := 0) rfl))))))))) (fa_c (me_s (me_l (me_l (me_l (me_l (me_l (me_l (me_l (List.mem_of_getElem? (i := 2) rfl))))))))) (fa_c (me_s (me_l (me_l (me_l (me_l (me_l (me_l (me_r (me_r (me_l (List.mem_of_getElem? (i := 1) rfl))))))))))) (fa_c (me_s (me_l (me_l (me_l (me_l (me_l (me_l (me_r (me_r (me_l (List.mem_of_getElem? (i := 2) rfl))))))))))) (fa_c (me_s (me_l (me_l (me_l (me_l (me_l (me_l (me_r (me_r (me_l (List.mem_of_getElem? (i := 3) rfl))))))))))) (fa_c (me_s (me_l (me_l (me_l (me_l (me_l (me_l (me_r (me_r (me_l (List.mem_of_getElem? (i := 4) rfl))))))))))) (fa_c (me_s (me_l (me_l (me_l (me_l (me_l (me_l (me_r (me_r (me_l (List.mem_of_getElem? (i := 5) rfl))))))))))) (fa_c (me_s (me_l (me_l (me_l (me_l (me_l (me_l (me_r (me_r (me_l (List.mem_of_getElem? (i := 6) rfl))))))))))) (fa_c (me_s (me_l (me_l (me_l (me_l (me_l (me_l (me_r (me_r (me_l (List.mem_of_getElem? (i := 7) rfl))))))))))) (fa_c (me_s (me_l (me_l (me_l (me_l (me_l (me_l (me_r (me_r (me_l (List.mem_of_getElem? (i := 8) rfl))))))))))) (fa_c (me_s (me_l (me_l (me_l (me_l (me_l (me_l (me_r (me_r (me_l (List.mem_of_getElem? (i := 9) rfl))))))))))) (fa_c (me_s (me_l (me_l (me_l (me_l (me_l (me_l (me_r (me_r (me_l (List.mem_of_getElem? (i := 10) rfl))))))))))) (fa_c (me_s (me_l (me_l (me_l (me_l (me_l (me_l (me_r (me_r (me_l (List.mem_of_getElem? (i := 11) rfl))))))))))) (fa_c (me_s (me_l (me_l (me_l (me_l (me_l (me_l (me_r (me_r (me_l (List.mem_of_getElem? (i := 12) rfl))))))))))) (fa_c (me_s (me_l (me_l (me_l (me_l (me_l (me_l (me_r (me_r (me_l (List.mem_of_getElem? (i := 13) rfl))))))))))) (fa_c (me_s (me_l (me_l (me_l (me_l (me_l (me_l (me_r (me_r (me_l (List.mem_of_getElem? (i := 14) rfl))))))))))) (fa_c (me_s (me_l (me_l (me_l (me_l (me_l (me_l (me_l (List.mem_of_getElem? (i := 19) rfl))))))))) (fa_c (me_s (me_l (me_l (me_l (me_l (me_l (me_l (me_r (me_r (me_l (List.mem_of_getElem? (i := 15) rfl))))))))))) (fa_c (me_s (me_l (me_l (me_l (me_l (me_l (me_l (me_r (me_r (me_l (List.mem_of_getElem? (i := 16) rfl))))))))))) (fa_c (me_s (me_l (me_l (me_l (me_l (me_l (me_l (me_l (List.mem_of_getElem? (i := 21) rfl))))))))) (fa_c (me_s (me_l (me_l (me_l (me_l (me_l (me_l (me_l (List.mem_of_getElem? (i := 22) rfl))))))))) (fa_c (me_s (me_l (me_l (me_l (me_l (me_l (me_l (me_l (List.mem_of_getElem? (i := 23) rfl))))))))) fa_n)))))))))))))))))))))))) (fa_a (fa_c (me_s (me_l (me_l (me_l (me_l (me_l (me_l (me_r (me_l (List.mem_of_getElem? (i := 0) rfl)))))))))) (fa_c (me_s (me_l (me_l (me_l (me_l (me_l (me_l (me_r (me_l (List.mem_of_getElem? (i := 1) rfl)))))))))) (fa_c (me_s (me_l (me_l (me_l (me_l (me_l (me_l (me_r (me_l (List.mem_of_getElem? (i := 2) rfl)))))))))) (fa_c (me_s (me_l (me_l (me_l (me_l (me_l (me_l (me_r (me_l (List.mem_of_getElem? (i := 3) rfl)))))))))) (fa_c (me_s (me_l (me_l (me_l (me_l (me_l (me_l (me_r (me_l (List.mem_of_getElem? (i := 4) rfl)))))))))) (fa_c (me_s (me_l (me_l (me_l (me_l (me_l (me_l (me_r (me_l (List.mem_of_getElem? (i := 5) rfl)))))))))) (fa_c (me_s (me_l (me_l (me_l (me_l (me_l (me_l (me_r (me_l (List.mem_of_getElem? (i := 6) rfl)))))))))) (fa_c (me_s (me_l (me_l (me_l (me_l (me_l (me_l (me_r (me_l (List.mem_of_getElem? (i := 7) rfl)))))))))) (fa_c (me_s (me_l (me_l (me_l (me_l (me_l (me_l (me_r (me_l (List.mem_of_getElem? (i := 8) rfl)))))))))) (fa_c (me_s (me_l (me_l (me_l (me_l (me_l (me_l (me_r (me_r (me_l (List.mem_of_getElem? (i := 17) rfl))))))))))) (fa_c (me_s (me_l (me_l (me_l (me_l (me_l (me_l (me_r (me_r (me_l (List.mem_of_getElem? (i := 18) rfl))))))))))) (fa_c (me_s (me_l (me_l (me_l (me_l (me_l (me_l (me_r (me_r (me_l (List.mem_of_getElem? (i := 19) rfl))))))))))) (fa_c (me_s (me_l (me_l (me_l (me_l (me_l (me_l (me_r (me_r (me_l (List.mem_of_getElem? (i := 20) rfl))))))))))) (fa_c (me_s (me_l (me_l (me_l (me_l (me_l (me_l (me_r (me_r (me_l (List.mem_of_getElem? (i := 21) rfl))))))))))) (fa_c (me_s (me_l (me_l (me_l (me_l (me_l (me_l (me_r (me_r (me_l (List.mem_of_getElem? (i := 22) rfl))))))))))) (fa_c (me_s (me_l (me_l (me_l (me_l (me_l (me_l (me_r (me_r (me_l (List.mem_of_getElem? (i := 23) rfl))))))))))) (fa_c (me_s (me_l (me_l (me_l (me_l (me_l (me_l (me_r (me_r (me_r (me_l (List.mem_of_getElem? (i := 0) rfl)))))))))))) (fa_c (me_s (me_l (me_l (me_l (me_l (me_l (me_l (me_r (me_r (me_r (me_l (List.mem_of_getElem? (i := 1) rfl)))))))))))) (fa_c (me_s (me_l (me_l (me_l (me_l (me_l (me_l (me_r (me_r (me_r (me_l (List.mem_of_getElem? (i := 2) rfl)))))))))))) (fa_c (me_s (me_l (me_l (me_l (me_l (me_l (me_l (me_r (me_r (me_r (me_l (List.mem_of_getElem? (i := 3) rfl)))))))))))) (fa_c (me_s (me_l (me_l (me_l (me_l (me_l (me_l (me_r (me_r (me_r (me_l (List.mem_of_getElem? (i := 4) rfl)))))))))))) (fa_c (me_s (me_l (me_l (me_l (me_l (me_l (me_l (me_r (me_r (me_r (me_l (List.mem_of_getElem? (i := 5) rfl)))))))))))) (fa_c (me_s (me_l (me_l (me_l (me_l (me_l (me_l (me_r (me_r (me_r (me_l (List.mem_of_getElem? (i := 6) rfl)))))))))))) (fa_c (me_s (me_l (me_l (me_l (me_l (me_l (me_l (me_r (me_r (me_r (me_l (List.mem_of_getElem? (i := 7) rfl)))))))))))) fa_n)))))))))))))))))))))))) (fa_a (fa_c (me_s (me_l (me_l (me_l (me_l (me_l (me_l (me_r (me_r (me_r (me_l (List.mem_of_getElem? (i := 8) rfl)))))))))))) (fa_c (me_s (me_l (me_l (me_l (me_l (me_l (me_l (me_r (me_r (me_r (me_l (List.mem_of_getElem? (i := 9) rfl)))))))))))) (fa_c (me_s (me_l (me_l (me_l (me_l (me_l (me_l (me_r (me_r (me_r (me_l (List.mem_of_getElem? (i := 10) rfl)))))))))))) (fa_c (me_s (me_l (me_l (me_l (me_l (me_l (me_l (me_r (me_r (me_r (me_l (List.mem_of_getElem? (i := 11) rfl)))))))))))) (fa_c (me_s (me_l (me_l (me_l (me_l (me_l (me_l (me_r (me_r (me_r (me_l (List.mem_of_getElem? (i := 12) rfl)))))))))))) (fa_c (me_s (me_l (me_l (me_l (me_l (me_l (me_l (me_r (me_l (List.mem_of_getElem? (i := 15) rfl)))))))))) (fa_c (me_s (me_l (me_l (me_l (me_l (me_l (me_l (me_r (me_r (me_r (me_l (List.mem_of_getElem? (i := 13) rfl)))))))))))) (fa_c (me_s (me_l (me_l (me_l (me_l (me_l (me_l (me_r (me_l (List.mem_of_getElem? (i := 18) rfl)))))))))) (fa_c (me_s (me_l (me_l (me_l (me_l (me_l (me_l (me_r (me_r (me_r (me_l (List.mem_of_getElem? (i := 14) rfl)))))))))))) (fa_c (me_s (me_l (me_l (me_l (me_l (me_l (me_l (me_r (me_r (me_r (me_l (List.mem_of_getElem? (i := 15) rfl)))))))))))) (fa_c (me_s (me_l (me_l (me_l (me_l (me_l (me_l (me_r (me_r (me_r (me_l (List.mem_of_getElem? (i := 16) rfl)))))))))))) (fa_c (me_s (me_l (me_l (me_l (me_l (me_l (me_l (me_r (me_r (me_r (me_l (List.mem_of_getElem? (i := 17) rfl)))))))))))) (fa_c (me_s (me_l (me_l (me_l (me_l (me_l (me_l (me_r (me_r (me_r (me_l (List.mem_of_getElem? (i := 18) rfl)))))))))))) (fa_c (me_s (me_l (me_l (me_l (me_l (me_l (me_l (me_r (me_r (me_r (me_l (List.mem_of_getElem? (i := 19) rfl)))))))))))) (fa_c (me_s (me_l (me_l (me_l (me_l (me_l (me_l (me_r (me_r (me_r (me_l (List.mem_of_getElem? (i := 20) rfl)))))))))))) (fa_c (me_s (me_l (me_l (me_l (me_l (me_l (me_l (me_r (me_r (me_r (me_l (List.mem_of_getElem? (i := 21) rfl)))))))))))) (fa_c (me_s (me_l (me_l (me_l (me_l (me_l (me_l (me_r (me_r (me_r (me_l (List.mem_of_getElem? (i := 22) rfl)))))))))))) (fa_c (me_s (me_l (me_l (me_l (me_l (me_l (me_l (me_r (me_r (me_r (me_l (List.mem_of_getElem? (i := 23) rfl)))))))))))) (fa_c (me_s (me_l (me_l (me_l (me_l (me_l (me_l (me_r (me_r (me_r (me_r (me_l (List.mem_of_getElem? (i := 0) rfl))))))))))))) (fa_c (me_s (me_l (me_l (me_l (me_l (me_l (me_l (me_r (me_r (me_r (me_r (me_l (List.mem_of_getElem? (i := 1) rfl))))))))))))) (fa_c (me_s (me_l (me_l (me_l (me_l (me_l (me_l (me_r (me_r (me_r (me_r (me_l (List.mem_of_getElem? (i := 2) rfl))))))))))))) (fa_c (me_s (me_l (me_l (me_l (me_l (me_l (me_l (me_l (List.mem_of_getElem? (i := 10) rfl))))))))) (fa_c (me_s (me_l (me_l (me_l (me_l (me_l (me_l (me_r (me_r (me_r (me_r (me_l (List.mem_of_getElem? (i := 3) rfl))))))))))))) (fa_c (me_s (me_l (me_l (me_l (me_l (me_l (me_l (me_r (me_r (me_r (me_r (me_l (List.mem_of_getElem? (i := 4) rfl))))))))))))) fa_n)))))))))))))))))))))))) (fa_a (fa_c (me_s (me_l (me_l (me_l (me_l (me_l (me_l (me_r (me_r (me_r (me_r (me_l (List.mem_of_getElem? (i := 5) rfl))))))))))))) (fa_c (me_s (me_l (me_l (me_l (me_l (me_l (me_l (me_r (me_r (me_r (me_r (me_l (List.mem_of_getElem? (i := 6) rfl))))))))))))) (fa_c (me_s (me_l (me_l (me_l (me_l (me_l (me_l (me_r (me_r (me_r (me_r (me_l (List.mem_of_getElem? (i := 7) rfl))))))))))))) (fa_c (me_s (me_l (me_l (me_l (me_l (me_l (me_l (me_r (me_r (me_r (me_r (me_l (List.mem_of_getElem? (i := 8) rfl))))))))))))) (fa_c (me_s (me_l (me_l (me_l (me_l (me_l (me_l (me_r (me_r (me_r (me_r (me_l (List.mem_of_getElem? (i := 9) rfl))))))))))))) (fa_c (me_s (me_l (me_l (me_l (me_l (me_l (me_l (me_r (me_r (me_r (me_r (me_l (List.mem_of_getElem? (i := 10) rfl))))))))))))) (fa_c (me_s (me_l (me_l (me_l (me_l (me_l (me_l (me_r (me_r (me_r (me_r (me_l (List.mem_of_getElem? (i := 11) rfl))))))))))))) (fa_c (me_s (me_l (me_l (me_l (me_l (me_l (me_l (me_r (me_r (me_r (me_r (me_l (List.mem_of_getElem? (i := 12) rfl))))))))))))) (fa_c (me_s (me_l (me_l (me_l (me_l (me_l (me_l (me_r (me_r (me_r (me_r (me_l (List.mem_of_getElem? (i := 13) rfl))))))))))))) (fa_c (me_s (me_l (me_l (me_l (me_l (me_l (me_l (me_r (me_r (me_r (me_r (me_l (List.mem_of_getElem? (i := 14) rfl))))))))))))) (fa_c (me_s (me_l (me_l (me_l (me_l (me_l (me_l (me_r (me_r (me_r (me_r (me_l (List.mem_of_getElem? (i := 15) rfl))))))))))))) (fa_c (me_s (me_l (me_l (me_l (me_l (me_l (me_l (me_r (me_r (me_r (me_r (me_l (List.mem_of_getElem? (i := 16) rfl))))))))))))) (fa_c (me_s (me_l (me_l (me_l (me_l (me_l (me_l (me_r (me_r (me_r (me_r (me_l (List.mem_of_getElem? (i := 17) rfl))))))))))))) (fa_c (me_s (me_l (me_l (me_l (me_l (me_l (me_l (me_r (me_r (me_r (me_r (me_l (List.mem_of_getElem? (i := 18) rfl))))))))))))) (fa_c (me_s (me_l (me_l (me_l (me_l (me_l (me_l (me_l (List.mem_of_getElem? (i := 9) rfl))))))))) (fa_c (me_s (me_l (me_l (me_l (me_l (me_l (me_l (me_l (List.mem_of_getElem? (i := 11) rfl))))))))) (fa_c (me_s (me_l (me_l (me_l (me_l (me_l (me_l (me_r (me_r (me_r (me_r (me_l (List.mem_of_getElem? (i := 19) rfl))))))))))))) (fa_c (me_s (me_l (me_l (me_l (me_l (me_l (me_l (me_r (me_r (me_r (me_r (me_l (List.mem_of_getElem? (i := 20) rfl))))))))))))) (fa_c (me_s (me_l (me_l (me_l (me_l (me_l (me_l (me_r (me_r (me_r (me_r (me_l (List.mem_of_getElem? (i := 21) rfl))))))))))))) (fa_c (me_s (me_l (me_l (me_l (me_l (me_l (me_l (me_r (me_r (me_r (me_r (me_l (List.mem_of_getElem? (i := 22) rfl))))))))))))) (fa_c (me_s (me_l (me_l (me_l (me_l (me_l (me_l (me_r (me_l (List.mem_of_getElem? (i := 17) rfl)))))))))) (fa_c (me_s (me_l (me_l (me_l (me_l (me_l (me_l (me_r (me_r (me_r (me_r (me_l (List.mem_of_getElem? (i := 23) rfl))))))))))))) (fa_c (me_s (me_l (me_l (me_l (me_l (me_l (me_l (me_r (me_r (me_r (me_r (me_r (List.mem_of_getElem? (i := 0) rfl))))))))))))) (fa_c (me_s (me_l (me_l (me_l (me_l (me_l (me_l (me_r (me_r (me_r (me_r (me_r (List.mem_of_getElem? (i := 1) rfl))))))))))))) fa_n)))))))))))))))))))))))) (fa_c (me_s (me_l (me_l (me_l (me_l (me_l (me_l (me_r (me_r (me_r (me_r (me_r (List.mem_of_getElem? (i := 2) rfl))))))))))))) fa_n))))) (fun w h => (me_s (me_l (me_l (me_l (me_l (me_l (me_r h))))))))) (fun w h => (me_s (me_l (me_l (me_r h)))))) (fun w h => (me_s (me_l (me_l (me_l (me_l (me_r h)))))))) (fun w h => (me_s (me_l (me_l (me_l (me_r h))))))) (fun w h => (me_s (me_l (me_r h)))))) (by decide +kernel)
set_option maxRecDepth 20000 in
theorem gX11_foretold_X11_unitsTogether : GoodIn wsX11_foretold (wsV RX11 388 RX11 yX11_unitsTogether wsX11_unitsTogether) := goodIn_app (goodIn_sub (fa_c (me_s (me_l (me_l (me_l (me_l (me_l (me_l (me_r (me_l (List.mem_of_getElem? (i := 19) rfl)))))))))) (fa_c (me_s (me_l (me_l (me_l (me_l (me_l (me_l (me_r (me_l (List.mem_of_getElem? (i := 20) rfl)))))))))) (fa_c (me_s (me_l (me_l (me_l (me_l (me_l (me_l (me_r (me_l (List.mem_of_getElem? (i := 21) rfl)))))))))) (fa_c (me_s (me_l (me_l (me_l (me_l (me_l (me_l (me_l (List.mem_of_getElem? (i := 14) rfl))))))))) fa_n)))) (by decide +kernel)) ggX11_foretold_X11_unitsTogether
theorem dX11_foretold_64 : decode cX11_foretold 64 = .ok (.invokevirtual 388, 3) := z_dd_182 (by decide +kernel)
theorem dX11_foretold_67 : decode cX11_foretold 67 = .ok (.i2l, 1) := z_dd_133 (by decide +kernel)
theorem dX11_foretold_68 : decode cX11_foretold 68 = .ok (.lmul, 1) := z_dd_105 (by decide +kernel)
theorem dX11_foretold_69 : decode cX11_foretold 69 = .ok (.ladd, 1) := z_dd_97 (by decide +kernel)
theorem dX11_foretold_70 : decode cX11_foretold 70 = .ok (.lstore 4, 2) := z_dd_55 (by decide +kernel)
theorem dX11_foretold_72 : decode cX11_foretold 72 = .ok (.iinc 6 1, 3) := z_dd_132 (by decide +kernel)
theorem dX11_foretold_75 : decode cX11_foretold 75 = .ok (.goto (-40), 3) := z_dd_167 (by decide +kernel)
theorem dX11_foretold_26 : decode cX11_foretold 26 = .ok (.ldc 241, 2) := z_dd_18 (by decide +kernel)
theorem dX11_foretold_28 : decode cX11_foretold 28 = .ok (.ireturn, 1) := z_dd_172 (by decide +kernel)
theorem z_l20 : (20 : Int32).toInt = 20 := by decide
theorem z_l500 : (500 : Int32).toInt = 500 := by decide
noncomputable def L_X11_port : z_L := [(42, 999), (41, 10)]
theorem zj_X11_port_X11 : ∀ w ∈ wsX110, w ∈ wsX11_port := fun w h => (List.mem_cons_of_mem _ (List.mem_append_left _ (List.mem_append_right _ h)))
set_option maxHeartbeats 8000000 in
set_option maxRecDepth 100000 in
theorem sx_X11_port (l : Launch) (G : z_G) (ad : Nat → Nat) (c : z_C) (I : z_I) (hL : z_iL I) (a1 : Int32) (hc : z_okc c) (h10 : c.1 ≤ 10) : z_M l yX11_port wsX11_port { frames := 2, cells := 0, slots := 0, locals := 34 } [.ref (ad 0), .int a1] G (shC c, ad, I, JX, PC c ad) (fun r u1 => ∃ I1 : z_I, u1 = (shC c, ad, I1, JX, PC c ad) ∧ z_iL I1 ∧ z_fr L_X11_port I1 I) 0 0 := by
  intro sz
  refine z_headQ (cc := cX11_port) (maxL := 2) (ret := (some .int)) (by decide) rfl (Nat.le_of_ble_eq_true rfl) ?_
  intro p e s m below meth c0 ls hIn hK hsz hW hl
  obtain ⟨hx, hb, hr, hml, hown, hts, hlocks, hname⟩ := hIn
  subst hsz
  have hown : s.vm.findClass RX11 = some m.cls := hown
  have hA : ∀ q : Nat, s.heap.size ≤ q → z_A (shC c, ad, I, JX, PC c ad) s.heap.size q := fun q h => Or.inr h
  generalize hAe : z_A (shC c, ad, I, JX, PC c ad) s.heap.size = A at *
  have hS : va_S A s.heap s.heap [] := va_S.rf
  have hl : lv_has ls 2 [(0, .ref (ad 0)), (1, .int a1)] := hl
  refine lv_iload_n hx hb dX11_port_0 rfl (lv_at hl 1 rfl) ?_
  refine lv_iconst (v := 0) hx hb dX11_port_1 (by decide) ?_
  refine lv_bipush (v := 50) hx hb dX11_port_2 (by decide) ?_
  refine z_ci hW hS hA (va_runS (As := [.int a1, .int 0, .int 50]) (rest := []) ⟨hx, hb, hml, hown, hts⟩ (sx_X11_within l G ad c I  a1 0 50 _) (va_cwS 3 hts gX11_port_X11_within rfl rfl rfl hy_X11_within.2 ⟨Nat.le_of_ble_eq_true rfl, Nat.le_of_ble_eq_true rfl⟩) (z_preS hK hW) rfl rfl hl.1 rfl (lv_room (Nat.le_of_ble_eq_true rfl)) dX11_port_4 ⟨Nat.le_of_ble_eq_true rfl, Nat.le_of_ble_eq_true rfl⟩) (fun r u1 H locs hp hW hS => ?_)
  obtain ⟨e9, hp⟩ := hp
  rw [e9] at hW
  rcases hp with ⟨rfl, h1, h2⟩ | rfl
  · have h1 := z_t_le z_l0 rfl h1
    have h2 := z_t_le rfl z_l50 h2
    refine lv_if_ne (tgt := 12) hx hb dX11_port_7 (by decide) (fun c3 => ?_) (fun c3 => absurd c3 (by decide))
    refine lv_aload_n hx hb dX11_port_12 rfl (lv_at hl 0 rfl) ?_
    refine z_get (T := TX11) (N := 13) (ci := 11) (i := 0) (v := .ref (ad 41)) hx hb hts zj_X11_port_X11 hown hK hW rfl rfl 10 (by decide) (hts (.fieldLink RX11 61 "PetrolBoard" "loads" "LPetrolBoard$Loads;") (me_s (me_l (me_l (List.mem_of_getElem? (i := 0) rfl))))) (fun _ h => h) rfl dX11_port_13 ?_
    refine lv_iload_n hx hb dX11_port_16 rfl (lv_at hl 1 rfl) ?_
    refine z_ci hW hS hA (va_runV (As := [.int a1]) (rest := []) ⟨hx, hb, hml, hown, hts⟩ (sx_X4_addPort l G ad c I (by show 0 ≤ (I 41 10).toInt ∧ (I 41 10).toInt ≤ 4; exact hL) a1 _) (cwV 1 hts gX11_port_X4_addPort rfl rfl rfl hy_X4_addPort ⟨Nat.le_of_ble_eq_true rfl, Nat.le_of_ble_eq_true rfl⟩) (z_preV (i := 41) hK hW rfl rfl) rfl rfl hl.1 rfl (lv_room (Nat.le_of_ble_eq_true rfl)) dX11_port_17 ⟨Nat.le_of_ble_eq_true rfl, Nat.le_of_ble_eq_true rfl⟩) (fun r u1 H locs hp hW hS => ?_)
    obtain ⟨I4, e9, hI4L, fI4⟩ := hp
    rw [e9] at hW
    have f5 := z_fr_sub (L := L_X11_port) z_fr_0 fI4 (by decide)
    refine lv_topi (fun x6 ex6 => ?_)
    exact z_iret hx hb hr hK hS (Nat.le_of_ble_eq_true rfl) (Nat.le_of_ble_eq_true rfl) hlocks dX11_port_20 (shC c, ad, I4, JX, PC c ad) hW ⟨I4, rfl, (by show 0 ≤ (I4 41 10).toInt ∧ (I4 41 10).toInt ≤ 4; exact hI4L), f5⟩
  · refine lv_if_ne (tgt := 12) hx hb dX11_port_7 (by decide) (fun c7 => absurd (by decide) c7) (fun c7 => ?_)
    refine lv_iconst (v := (-1)) hx hb dX11_port_10 (by decide) ?_
    exact z_iret hx hb hr hK hS (Nat.le_of_ble_eq_true rfl) (Nat.le_of_ble_eq_true rfl) hlocks dX11_port_11 (shC c, ad, I, JX, PC c ad) hW ⟨I, rfl, (by show 0 ≤ (I 41 10).toInt ∧ (I 41 10).toInt ≤ 4; exact hL), z_fr_0⟩
noncomputable def L_X11_want : z_L := [(43, 999)]
theorem zj_X11_want_X11 : ∀ w ∈ wsX110, w ∈ wsX11_want := fun w h => (List.mem_cons_of_mem _ (List.mem_append_left _ (List.mem_append_right _ h)))
set_option maxHeartbeats 8000000 in
set_option maxRecDepth 100000 in
theorem sx_X11_want (l : Launch) (G : z_G) (ad : Nat → Nat) (c : z_C) (I : z_I) (hB : z_iB I) (a1 : Int32) (a2 : Int32) (hc : z_okc c) (h10 : c.1 ≤ 10) : z_M l yX11_want wsX11_want { frames := 2, cells := 0, slots := 0, locals := 34 } [.ref (ad 0), .int a1, .int a2] G (shC c, ad, I, JX, PC c ad) (fun r u1 => ∃ I1 : z_I, u1 = (shC c, ad, I1, JX, PC c ad) ∧ z_iB I1 ∧ z_fr L_X11_want I1 I ∧ (r = 1 ∨ r = 0)) 0 0 := by
  intro sz
  refine z_headQ (cc := cX11_want) (maxL := 3) (ret := (some .boolean)) (by decide) rfl (Nat.le_of_ble_eq_true rfl) ?_
  intro p e s m below meth c0 ls hIn hK hsz hW hl
  obtain ⟨hx, hb, hr, hml, hown, hts, hlocks, hname⟩ := hIn
  subst hsz
  have hown : s.vm.findClass RX11 = some m.cls := hown
  have hA : ∀ q : Nat, s.heap.size ≤ q → z_A (shC c, ad, I, JX, PC c ad) s.heap.size q := fun q h => Or.inr h
  generalize hAe : z_A (shC c, ad, I, JX, PC c ad) s.heap.size = A at *
  have hS : va_S A s.heap s.heap [] := va_S.rf
  have hl : lv_has ls 3 [(0, .ref (ad 0)), (1, .int a1), (2, .int a2)] := hl
  refine lv_aload_n hx hb dX11_want_0 rfl (lv_at hl 0 rfl) ?_
  refine lv_iload_n hx hb dX11_want_1 rfl (lv_at hl 1 rfl) ?_
  refine z_ci hW hS hA (va_runV (As := [.int a1]) (rest := []) ⟨hx, hb, hml, hown, hts⟩ (sx_X11_hasStation l G ad c I ⟨(by show 0 ≤ (I 0 0).toInt ∧ (I 0 0).toInt ≤ 719; exact hB.1), (by show 0 ≤ (I 0 8).toInt ∧ (I 0 8).toInt ≤ 10; exact hB.2)⟩ a1 hc h10 _) (cwV 1 hts gX11_want_X11_hasStation rfl rfl rfl hy_X11_hasStation ⟨Nat.le_of_ble_eq_true rfl, Nat.le_of_ble_eq_true rfl⟩) (z_preV (i := 0) hK hW rfl rfl) rfl rfl hl.1 rfl (lv_room (Nat.le_of_ble_eq_true rfl)) dX11_want_2 ⟨Nat.le_of_ble_eq_true rfl, Nat.le_of_ble_eq_true rfl⟩) (fun r u1 H locs hp hW hS => ?_)
  obtain ⟨e9, hp⟩ := hp
  rw [e9] at hW
  rcases hp with ⟨rfl, h1, h2⟩ | rfl
  · refine lv_if_eq (tgt := 18) hx hb dX11_want_5 (by decide) (fun c3 => absurd c3 (by decide)) (fun c3 => ?_)
    refine lv_iload_n hx hb dX11_want_8 rfl (lv_at hl 2 rfl) ?_
    refine lv_iconst (v := 0) hx hb dX11_want_9 (by decide) ?_
    refine lv_bipush (v := 20) hx hb dX11_want_10 (by decide) ?_
    refine z_ci hW hS hA (va_runS (As := [.int a2, .int 0, .int 20]) (rest := []) ⟨hx, hb, hml, hown, hts⟩ (sx_X11_within l G ad c I  a2 0 20 _) (va_cwS 3 hts gX11_want_X11_within rfl rfl rfl hy_X11_within.2 ⟨Nat.le_of_ble_eq_true rfl, Nat.le_of_ble_eq_true rfl⟩) (z_preS hK hW) rfl rfl hl.1 rfl (lv_room (Nat.le_of_ble_eq_true rfl)) dX11_want_12 ⟨Nat.le_of_ble_eq_true rfl, Nat.le_of_ble_eq_true rfl⟩) (fun r u1 H locs hp hW hS => ?_)
    obtain ⟨e9, hp⟩ := hp
    rw [e9] at hW
    rcases hp with ⟨rfl, h4, h5⟩ | rfl
    · have h4 := z_t_le z_l0 rfl h4
      have h5 := z_t_le rfl z_l20 h5
      refine lv_if_ne (tgt := 20) hx hb dX11_want_15 (by decide) (fun c6 => ?_) (fun c6 => absurd c6 (by decide))
      refine lv_aload_n hx hb dX11_want_20 rfl (lv_at hl 0 rfl) ?_
      refine z_get (T := TX11) (N := 13) (ci := 11) (i := 0) (v := .ref (ad 41)) hx hb hts zj_X11_want_X11 hown hK hW rfl rfl 10 (by decide) (hts (.fieldLink RX11 61 "PetrolBoard" "loads" "LPetrolBoard$Loads;") (me_s (me_l (me_l (List.mem_of_getElem? (i := 0) rfl))))) (fun _ h => h) rfl dX11_want_21 ?_
      refine lv_iload_n hx hb dX11_want_24 rfl (lv_at hl 1 rfl) ?_
      refine lv_iload_n hx hb dX11_want_25 rfl (lv_at hl 2 rfl) ?_
      refine z_cv hW hS hA (va_runV (As := [.int a1, .int a2]) (rest := []) ⟨hx, hb, hml, hown, hts⟩ (sx_X4_putWant l G ad c I  a1 a2 _) (cwV 2 hts gX11_want_X4_putWant rfl rfl rfl hy_X4_putWant ⟨Nat.le_of_ble_eq_true rfl, Nat.le_of_ble_eq_true rfl⟩) (z_preV (i := 41) hK hW rfl rfl) rfl rfl hl.1 rfl (lv_room (Nat.le_of_ble_eq_true rfl)) dX11_want_26 ⟨Nat.le_of_ble_eq_true rfl, Nat.le_of_ble_eq_true rfl⟩) (fun u1 H locs hp hW hS => ?_)
      obtain ⟨I7, e9, fI7⟩ := hp
      rw [e9] at hW
      have f8 := z_fr_sub (L := L_X11_want) z_fr_0 fI7 (by decide)
      have k9 : 0 ≤ (I7 0 0).toInt ∧ (I7 0 0).toInt ≤ 719 := by rw [fI7 0 0 (by decide)]; exact (by show 0 ≤ (I 0 0).toInt ∧ (I 0 0).toInt ≤ 719; exact hB.1)
      have k10 : 0 ≤ (I7 0 8).toInt ∧ (I7 0 8).toInt ≤ 10 := by rw [fI7 0 8 (by decide)]; exact (by show 0 ≤ (I 0 8).toInt ∧ (I 0 8).toInt ≤ 10; exact hB.2)
      refine lv_iconst (v := 1) hx hb dX11_want_29 (by decide) ?_
      exact z_zret hx hb hr (by decide) hK hS (Nat.le_of_ble_eq_true rfl) (Nat.le_of_ble_eq_true rfl) hlocks dX11_want_30 (shC c, ad, I7, JX, PC c ad) hW ⟨I7, rfl, ⟨(by show 0 ≤ (I7 0 0).toInt ∧ (I7 0 0).toInt ≤ 719; exact k9), (by show 0 ≤ (I7 0 8).toInt ∧ (I7 0 8).toInt ≤ 10; exact k10)⟩, f8, Or.inl rfl⟩
    · refine lv_if_ne (tgt := 20) hx hb dX11_want_15 (by decide) (fun c11 => absurd (by decide) c11) (fun c11 => ?_)
      refine lv_iconst (v := 0) hx hb dX11_want_18 (by decide) ?_
      exact z_zret hx hb hr (by decide) hK hS (Nat.le_of_ble_eq_true rfl) (Nat.le_of_ble_eq_true rfl) hlocks dX11_want_19 (shC c, ad, I, JX, PC c ad) hW ⟨I, rfl, ⟨(by show 0 ≤ (I 0 0).toInt ∧ (I 0 0).toInt ≤ 719; exact hB.1), (by show 0 ≤ (I 0 8).toInt ∧ (I 0 8).toInt ≤ 10; exact hB.2)⟩, z_fr_0, Or.inr rfl⟩
  · refine lv_if_eq (tgt := 18) hx hb dX11_want_5 (by decide) (fun c12 => ?_) (fun c12 => absurd (by decide) c12)
    refine lv_iconst (v := 0) hx hb dX11_want_18 (by decide) ?_
    exact z_zret hx hb hr (by decide) hK hS (Nat.le_of_ble_eq_true rfl) (Nat.le_of_ble_eq_true rfl) hlocks dX11_want_19 (shC c, ad, I, JX, PC c ad) hW ⟨I, rfl, ⟨(by show 0 ≤ (I 0 0).toInt ∧ (I 0 0).toInt ≤ 719; exact hB.1), (by show 0 ≤ (I 0 8).toInt ∧ (I 0 8).toInt ≤ 10; exact hB.2)⟩, z_fr_0, Or.inr rfl⟩
noncomputable def L_X11_road : z_L := [(45, 999), (46, 999), (47, 999), (48, 999)]
theorem zj_X11_road_X11 : ∀ w ∈ wsX110, w ∈ wsX11_road := fun w h => (List.mem_cons_of_mem _ (List.mem_append_left _ (List.mem_append_right _ h)))
set_option maxHeartbeats 8000000 in
set_option maxRecDepth 100000 in
theorem sx_X11_road (l : Launch) (G : z_G) (ad : Nat → Nat) (c : z_C) (I : z_I) (hB : z_iB I) (hL : z_iL I) (a1 : Int32) (a2 : Int32) (a3 : Int32) (hc : z_okc c) (h10 : c.1 ≤ 10) : z_M l yX11_road wsX11_road { frames := 3, cells := 0, slots := 0, locals := 56 } [.ref (ad 0), .int a1, .int a2, .int a3] G (shC c, ad, I, JX, PC c ad) (fun r u1 => ∃ I1 : z_I, u1 = (shC c, ad, I1, JX, PC c ad) ∧ z_iB I1 ∧ z_iL I1 ∧ z_fr L_X11_road I1 I ∧ (r = 1 ∨ r = 0)) 0 0 := by
  intro sz
  refine z_headQ (cc := cX11_road) (maxL := 4) (ret := (some .boolean)) (by decide) rfl (Nat.le_of_ble_eq_true rfl) ?_
  intro p e s m below meth c0 ls hIn hK hsz hW hl
  obtain ⟨hx, hb, hr, hml, hown, hts, hlocks, hname⟩ := hIn
  subst hsz
  have hown : s.vm.findClass RX11 = some m.cls := hown
  have hA : ∀ q : Nat, s.heap.size ≤ q → z_A (shC c, ad, I, JX, PC c ad) s.heap.size q := fun q h => Or.inr h
  generalize hAe : z_A (shC c, ad, I, JX, PC c ad) s.heap.size = A at *
  have hS : va_S A s.heap s.heap [] := va_S.rf
  have hl : lv_has ls 4 [(0, .ref (ad 0)), (1, .int a1), (2, .int a2), (3, .int a3)] := hl
  refine lv_aload_n hx hb dX11_road_0 rfl (lv_at hl 0 rfl) ?_
  refine z_get (T := TX11) (N := 13) (ci := 11) (i := 0) (v := .ref (ad 41)) hx hb hts zj_X11_road_X11 hown hK hW rfl rfl 10 (by decide) (hts (.fieldLink RX11 61 "PetrolBoard" "loads" "LPetrolBoard$Loads;") (me_s (me_l (me_l (List.mem_of_getElem? (i := 0) rfl))))) (fun _ h => h) rfl dX11_road_1 ?_
  refine lv_iload_n hx hb dX11_road_4 rfl (lv_at hl 1 rfl) ?_
  refine z_ci hW hS hA (va_runV (As := [.int a1]) (rest := []) ⟨hx, hb, hml, hown, hts⟩ (sx_X4_hasPort l G ad c I (by show 0 ≤ (I 41 10).toInt ∧ (I 41 10).toInt ≤ 4; exact hL) a1 _) (cwV 1 hts gX11_road_X4_hasPort rfl rfl rfl hy_X4_hasPort ⟨Nat.le_of_ble_eq_true rfl, Nat.le_of_ble_eq_true rfl⟩) (z_preV (i := 41) hK hW rfl rfl) rfl rfl hl.1 rfl (lv_room (Nat.le_of_ble_eq_true rfl)) dX11_road_5 ⟨Nat.le_of_ble_eq_true rfl, Nat.le_of_ble_eq_true rfl⟩) (fun r u1 H locs hp hW hS => ?_)
  obtain ⟨e9, hp⟩ := hp
  rw [e9] at hW
  rcases hp with ⟨rfl, h1, h2⟩ | rfl
  · refine lv_if_eq (tgt := 30) hx hb dX11_road_8 (by decide) (fun c3 => absurd c3 (by decide)) (fun c3 => ?_)
    refine lv_aload_n hx hb dX11_road_11 rfl (lv_at hl 0 rfl) ?_
    refine lv_iload_n hx hb dX11_road_12 rfl (lv_at hl 2 rfl) ?_
    refine z_ci hW hS hA (va_runV (As := [.int a2]) (rest := []) ⟨hx, hb, hml, hown, hts⟩ (sx_X11_hasStation l G ad c I ⟨(by show 0 ≤ (I 0 0).toInt ∧ (I 0 0).toInt ≤ 719; exact hB.1), (by show 0 ≤ (I 0 8).toInt ∧ (I 0 8).toInt ≤ 10; exact hB.2)⟩ a2 hc h10 _) (cwV 1 hts gX11_road_X11_hasStation rfl rfl rfl hy_X11_hasStation ⟨Nat.le_of_ble_eq_true rfl, Nat.le_of_ble_eq_true rfl⟩) (z_preV (i := 0) hK hW rfl rfl) rfl rfl hl.1 rfl (lv_room (Nat.le_of_ble_eq_true rfl)) dX11_road_13 ⟨Nat.le_of_ble_eq_true rfl, Nat.le_of_ble_eq_true rfl⟩) (fun r u1 H locs hp hW hS => ?_)
    obtain ⟨e9, hp⟩ := hp
    rw [e9] at hW
    rcases hp with ⟨rfl, h4, h5⟩ | rfl
    · refine lv_if_eq (tgt := 30) hx hb dX11_road_16 (by decide) (fun c6 => absurd c6 (by decide)) (fun c6 => ?_)
      refine lv_iload_n hx hb dX11_road_19 rfl (lv_at hl 3 rfl) ?_
      refine lv_iconst (v := 0) hx hb dX11_road_20 (by decide) ?_
      refine lv_sipush (v := 999) hx hb dX11_road_21 (by decide) ?_
      refine z_ci hW hS hA (va_runS (As := [.int a3, .int 0, .int 999]) (rest := []) ⟨hx, hb, hml, hown, hts⟩ (sx_X11_within l G ad c I  a3 0 999 _) (va_cwS 3 hts gX11_road_X11_within rfl rfl rfl hy_X11_within.2 ⟨Nat.le_of_ble_eq_true rfl, Nat.le_of_ble_eq_true rfl⟩) (z_preS hK hW) rfl rfl hl.1 rfl (lv_room (Nat.le_of_ble_eq_true rfl)) dX11_road_24 ⟨Nat.le_of_ble_eq_true rfl, Nat.le_of_ble_eq_true rfl⟩) (fun r u1 H locs hp hW hS => ?_)
      obtain ⟨e9, hp⟩ := hp
      rw [e9] at hW
      rcases hp with ⟨rfl, h7, h8⟩ | rfl
      · have h7 := z_t_le z_l0 rfl h7
        have h8 := z_t_le rfl z_l999 h8
        refine lv_if_ne (tgt := 32) hx hb dX11_road_27 (by decide) (fun c9 => ?_) (fun c9 => absurd c9 (by decide))
        refine lv_aload_n hx hb dX11_road_32 rfl (lv_at hl 0 rfl) ?_
        refine z_get (T := TX11) (N := 13) (ci := 11) (i := 0) (v := .ref (ad 41)) hx hb hts zj_X11_road_X11 hown hK hW rfl rfl 10 (by decide) (hts (.fieldLink RX11 61 "PetrolBoard" "loads" "LPetrolBoard$Loads;") (me_s (me_l (me_l (List.mem_of_getElem? (i := 0) rfl))))) (fun _ h => h) rfl dX11_road_33 ?_
        refine lv_iload_n hx hb dX11_road_36 rfl (lv_at hl 1 rfl) ?_
        refine lv_iload_n hx hb dX11_road_37 rfl (lv_at hl 2 rfl) ?_
        refine lv_iload_n hx hb dX11_road_38 rfl (lv_at hl 3 rfl) ?_
        refine z_cv hW hS hA (va_runV (As := [.int a1, .int a2, .int a3]) (rest := []) ⟨hx, hb, hml, hown, hts⟩ (sx_X4_putRoad l G ad c I (by show 0 ≤ (I 41 10).toInt ∧ (I 41 10).toInt ≤ 4; exact hL) a1 a2 a3 _) (cwV 3 hts gX11_road_X4_putRoad rfl rfl rfl hy_X4_putRoad ⟨Nat.le_of_ble_eq_true rfl, Nat.le_of_ble_eq_true rfl⟩) (z_preV (i := 41) hK hW rfl rfl) rfl rfl hl.1 rfl (lv_room (Nat.le_of_ble_eq_true rfl)) dX11_road_39 ⟨Nat.le_of_ble_eq_true rfl, Nat.le_of_ble_eq_true rfl⟩) (fun u1 H locs hp hW hS => ?_)
        obtain ⟨I10, e9, hI10L, fI10⟩ := hp
        rw [e9] at hW
        have f11 := z_fr_sub (L := L_X11_road) z_fr_0 fI10 (by decide)
        have k12 : 0 ≤ (I10 0 0).toInt ∧ (I10 0 0).toInt ≤ 719 := by rw [fI10 0 0 (by decide)]; exact (by show 0 ≤ (I 0 0).toInt ∧ (I 0 0).toInt ≤ 719; exact hB.1)
        have k13 : 0 ≤ (I10 0 8).toInt ∧ (I10 0 8).toInt ≤ 10 := by rw [fI10 0 8 (by decide)]; exact (by show 0 ≤ (I 0 8).toInt ∧ (I 0 8).toInt ≤ 10; exact hB.2)
        refine lv_iconst (v := 1) hx hb dX11_road_42 (by decide) ?_
        exact z_zret hx hb hr (by decide) hK hS (Nat.le_of_ble_eq_true rfl) (Nat.le_of_ble_eq_true rfl) hlocks dX11_road_43 (shC c, ad, I10, JX, PC c ad) hW ⟨I10, rfl, ⟨(by show 0 ≤ (I10 0 0).toInt ∧ (I10 0 0).toInt ≤ 719; exact k12), (by show 0 ≤ (I10 0 8).toInt ∧ (I10 0 8).toInt ≤ 10; exact k13)⟩, (by show 0 ≤ (I10 41 10).toInt ∧ (I10 41 10).toInt ≤ 4; exact hI10L), f11, Or.inl rfl⟩
      · refine lv_if_ne (tgt := 32) hx hb dX11_road_27 (by decide) (fun c14 => absurd (by decide) c14) (fun c14 => ?_)
        refine lv_iconst (v := 0) hx hb dX11_road_30 (by decide) ?_
        exact z_zret hx hb hr (by decide) hK hS (Nat.le_of_ble_eq_true rfl) (Nat.le_of_ble_eq_true rfl) hlocks dX11_road_31 (shC c, ad, I, JX, PC c ad) hW ⟨I, rfl, ⟨(by show 0 ≤ (I 0 0).toInt ∧ (I 0 0).toInt ≤ 719; exact hB.1), (by show 0 ≤ (I 0 8).toInt ∧ (I 0 8).toInt ≤ 10; exact hB.2)⟩, (by show 0 ≤ (I 41 10).toInt ∧ (I 41 10).toInt ≤ 4; exact hL), z_fr_0, Or.inr rfl⟩
    · refine lv_if_eq (tgt := 30) hx hb dX11_road_16 (by decide) (fun c15 => ?_) (fun c15 => absurd (by decide) c15)
      refine lv_iconst (v := 0) hx hb dX11_road_30 (by decide) ?_
      exact z_zret hx hb hr (by decide) hK hS (Nat.le_of_ble_eq_true rfl) (Nat.le_of_ble_eq_true rfl) hlocks dX11_road_31 (shC c, ad, I, JX, PC c ad) hW ⟨I, rfl, ⟨(by show 0 ≤ (I 0 0).toInt ∧ (I 0 0).toInt ≤ 719; exact hB.1), (by show 0 ≤ (I 0 8).toInt ∧ (I 0 8).toInt ≤ 10; exact hB.2)⟩, (by show 0 ≤ (I 41 10).toInt ∧ (I 41 10).toInt ≤ 4; exact hL), z_fr_0, Or.inr rfl⟩
  · refine lv_if_eq (tgt := 30) hx hb dX11_road_8 (by decide) (fun c16 => ?_) (fun c16 => absurd (by decide) c16)
    refine lv_iconst (v := 0) hx hb dX11_road_30 (by decide) ?_
    exact z_zret hx hb hr (by decide) hK hS (Nat.le_of_ble_eq_true rfl) (Nat.le_of_ble_eq_true rfl) hlocks dX11_road_31 (shC c, ad, I, JX, PC c ad) hW ⟨I, rfl, ⟨(by show 0 ≤ (I 0 0).toInt ∧ (I 0 0).toInt ≤ 719; exact hB.1), (by show 0 ≤ (I 0 8).toInt ∧ (I 0 8).toInt ≤ 10; exact hB.2)⟩, (by show 0 ≤ (I 41 10).toInt ∧ (I 41 10).toInt ≤ 4; exact hL), z_fr_0, Or.inr rfl⟩
noncomputable def L_X11_flow : z_L := [(55, 999), (50, 999), (51, 999), (52, 999), (53, 999), (54, 999), (41, 12), (41, 11), (56, 999), (57, 999), (58, 999), (59, 999)]
theorem zj_X11_flow_X4 : ∀ w ∈ wsX40, w ∈ wsX11_flow := fun w h => (List.mem_cons_of_mem _ (List.mem_append_right _ h))
theorem zj_X11_flow_X11 : ∀ w ∈ wsX110, w ∈ wsX11_flow := fun w h => (List.mem_cons_of_mem _ (List.mem_append_left _ (List.mem_append_right _ h)))
set_option maxHeartbeats 8000000 in
set_option maxRecDepth 100000 in
theorem sx_X11_flow (l : Launch) (G : z_G) (ad : Nat → Nat) (c : z_C) (I : z_I) (hL : z_iL I) (a1 : Int32) (a2 : Int32) (hc : z_okc c) (h10 : c.1 ≤ 10) : z_M l yX11_flow wsX11_flow { frames := 5, cells := 0, slots := 0, locals := 113 } [.ref (ad 0), .int a1, .int a2] G (shC c, ad, I, JX, PC c ad) (fun r u1 => ∃ I1 : z_I, u1 = (shC c, ad, I1, JX, PC c ad) ∧ z_iL I1 ∧ z_fr L_X11_flow I1 I) 0 0 := by
  intro sz
  refine z_headQ (cc := cX11_flow) (maxL := 3) (ret := (some .int)) (by decide) rfl (Nat.le_of_ble_eq_true rfl) ?_
  intro p e s m below meth c0 ls hIn hK hsz hW hl
  obtain ⟨hx, hb, hr, hml, hown, hts, hlocks, hname⟩ := hIn
  subst hsz
  have hown : s.vm.findClass RX11 = some m.cls := hown
  have hA : ∀ q : Nat, s.heap.size ≤ q → z_A (shC c, ad, I, JX, PC c ad) s.heap.size q := fun q h => Or.inr h
  generalize hAe : z_A (shC c, ad, I, JX, PC c ad) s.heap.size = A at *
  have hS : va_S A s.heap s.heap [] := va_S.rf
  have hl : lv_has ls 3 [(0, .ref (ad 0)), (1, .int a1), (2, .int a2)] := hl
  refine lv_iload_n hx hb dX11_flow_0 rfl (lv_at hl 2 rfl) ?_
  refine lv_iconst (v := 0) hx hb dX11_flow_1 (by decide) ?_
  refine lv_iconst (v := 1) hx hb dX11_flow_2 (by decide) ?_
  refine z_ci hW hS hA (va_runS (As := [.int a2, .int 0, .int 1]) (rest := []) ⟨hx, hb, hml, hown, hts⟩ (sx_X11_within l G ad c I  a2 0 1 _) (va_cwS 3 hts gX11_flow_X11_within rfl rfl rfl hy_X11_within.2 ⟨Nat.le_of_ble_eq_true rfl, Nat.le_of_ble_eq_true rfl⟩) (z_preS hK hW) rfl rfl hl.1 rfl (lv_room (Nat.le_of_ble_eq_true rfl)) dX11_flow_3 ⟨Nat.le_of_ble_eq_true rfl, Nat.le_of_ble_eq_true rfl⟩) (fun r u1 H locs hp hW hS => ?_)
  obtain ⟨e9, hp⟩ := hp
  rw [e9] at hW
  rcases hp with ⟨rfl, h1, h2⟩ | rfl
  · have h1 := z_t_le z_l0 rfl h1
    have h2 := z_t_le rfl z_l1 h2
    refine lv_if_eq (tgt := 25) hx hb dX11_flow_6 (by decide) (fun c3 => absurd c3 (by decide)) (fun c3 => ?_)
    refine lv_iload_n hx hb dX11_flow_9 rfl (lv_at hl 1 rfl) ?_
    refine lv_iconst (v := (-1)) hx hb dX11_flow_10 (by decide) ?_
    refine lv_icmp_eq (tgt := 27) hx hb dX11_flow_11 (by decide) (fun c4 => ?_) (fun c4 => ?_)
    · have g5 := z_f_eq rfl z_lm1 c4
      have b6 := Int32.toInt_lt a1
      refine lv_aload_n hx hb dX11_flow_27 rfl (lv_at hl 0 rfl) ?_
      refine z_get (T := TX11) (N := 13) (ci := 11) (i := 0) (v := .ref (ad 41)) hx hb hts zj_X11_flow_X11 hown hK hW rfl rfl 10 (by decide) (hts (.fieldLink RX11 61 "PetrolBoard" "loads" "LPetrolBoard$Loads;") (me_s (me_l (me_l (me_l (List.mem_of_getElem? (i := 0) rfl)))))) (fun _ h => h) rfl dX11_flow_28 ?_
      refine lv_iload_n hx hb dX11_flow_31 rfl (lv_at hl 1 rfl) ?_
      refine z_cv hW hS hA (va_runV (As := [.int a1]) (rest := []) ⟨hx, hb, hml, hown, hts⟩ (sx_X4_send l G ad c I  a1 _) (cwV 1 hts gX11_flow_X4_send rfl rfl rfl hy_X4_send ⟨Nat.le_of_ble_eq_true rfl, Nat.le_of_ble_eq_true rfl⟩) (z_preV (i := 41) hK hW rfl rfl) rfl rfl hl.1 rfl (lv_room (Nat.le_of_ble_eq_true rfl)) dX11_flow_32 ⟨Nat.le_of_ble_eq_true rfl, Nat.le_of_ble_eq_true rfl⟩) (fun u1 H locs hp hW hS => ?_)
      obtain ⟨I7, e9, fI7⟩ := hp
      rw [e9] at hW
      have f8 := z_fr_sub (L := L_X11_flow) z_fr_0 fI7 (by decide)
      have k9 : 0 ≤ (I7 41 10).toInt ∧ (I7 41 10).toInt ≤ 4 := by rw [fI7 41 10 (by decide)]; exact (by show 0 ≤ (I 41 10).toInt ∧ (I 41 10).toInt ≤ 4; exact hL)
      refine lv_iload_n hx hb dX11_flow_35 rfl (lv_at hl 2 rfl) ?_
      refine lv_if_ne (tgt := 49) hx hb dX11_flow_36 (by decide) (fun c10 => ?_) (fun c10 => ?_)
      · have g11 := z_f_ne rfl z_l0 c10
        refine lv_aload_n hx hb dX11_flow_49 rfl (lv_at hl 0 rfl) ?_
        refine z_get (T := TX11) (N := 13) (ci := 11) (i := 0) (v := .ref (ad 41)) hx hb hts zj_X11_flow_X11 hown hK hW rfl rfl 10 (by decide) (hts (.fieldLink RX11 61 "PetrolBoard" "loads" "LPetrolBoard$Loads;") (me_s (me_l (me_l (me_l (List.mem_of_getElem? (i := 0) rfl)))))) (fun _ h => h) rfl dX11_flow_50 ?_
        refine z_get (T := TX4) (N := 13) (ci := 4) (i := 41) (v := .int (I7 41 12)) hx hb hts zj_X11_flow_X4 hown hK hW rfl rfl 12 (by decide) (hts (.fieldLink RX11 316 "PetrolBoard$Loads" "sentMiles" "I") (me_s (me_l (me_l (me_l (List.mem_of_getElem? (i := 2) rfl)))))) (fun _ h => h) rfl dX11_flow_53 ?_
        exact z_iret hx hb hr hK hS (Nat.le_of_ble_eq_true rfl) (Nat.le_of_ble_eq_true rfl) hlocks dX11_flow_56 (shC c, ad, I7, JX, PC c ad) hW ⟨I7, rfl, (by show 0 ≤ (I7 41 10).toInt ∧ (I7 41 10).toInt ≤ 4; exact k9), f8⟩
      · have g12 := z_f_eq rfl z_l0 c10
        refine lv_aload_n hx hb dX11_flow_39 rfl (lv_at hl 0 rfl) ?_
        refine z_get (T := TX11) (N := 13) (ci := 11) (i := 0) (v := .ref (ad 41)) hx hb hts zj_X11_flow_X11 hown hK hW rfl rfl 10 (by decide) (hts (.fieldLink RX11 61 "PetrolBoard" "loads" "LPetrolBoard$Loads;") (me_s (me_l (me_l (me_l (List.mem_of_getElem? (i := 0) rfl)))))) (fun _ h => h) rfl dX11_flow_40 ?_
        refine z_get (T := TX4) (N := 13) (ci := 4) (i := 41) (v := .int (I7 41 11)) hx hb hts zj_X11_flow_X4 hown hK hW rfl rfl 11 (by decide) (hts (.fieldLink RX11 313 "PetrolBoard$Loads" "sentLoads" "I") (me_s (me_l (me_l (me_l (List.mem_of_getElem? (i := 1) rfl)))))) (fun _ h => h) rfl dX11_flow_43 ?_
        refine lv_goto (tgt := 56) hx hb dX11_flow_46 (by decide) ?_
        exact z_iret hx hb hr hK hS (Nat.le_of_ble_eq_true rfl) (Nat.le_of_ble_eq_true rfl) hlocks dX11_flow_56 (shC c, ad, I7, JX, PC c ad) hW ⟨I7, rfl, (by show 0 ≤ (I7 41 10).toInt ∧ (I7 41 10).toInt ≤ 4; exact k9), f8⟩
    · have g13 := z_f_ne rfl z_lm1 c4
      have b14 := Int32.toInt_lt a1
      refine lv_aload_n hx hb dX11_flow_14 rfl (lv_at hl 0 rfl) ?_
      refine z_get (T := TX11) (N := 13) (ci := 11) (i := 0) (v := .ref (ad 41)) hx hb hts zj_X11_flow_X11 hown hK hW rfl rfl 10 (by decide) (hts (.fieldLink RX11 61 "PetrolBoard" "loads" "LPetrolBoard$Loads;") (me_s (me_l (me_l (me_l (List.mem_of_getElem? (i := 0) rfl)))))) (fun _ h => h) rfl dX11_flow_15 ?_
      refine lv_iload_n hx hb dX11_flow_18 rfl (lv_at hl 1 rfl) ?_
      refine z_ci hW hS hA (va_runV (As := [.int a1]) (rest := []) ⟨hx, hb, hml, hown, hts⟩ (sx_X4_hasPort l G ad c I (by show 0 ≤ (I 41 10).toInt ∧ (I 41 10).toInt ≤ 4; exact hL) a1 _) (cwV 1 hts gX11_flow_X4_hasPort rfl rfl rfl hy_X4_hasPort ⟨Nat.le_of_ble_eq_true rfl, Nat.le_of_ble_eq_true rfl⟩) (z_preV (i := 41) hK hW rfl rfl) rfl rfl hl.1 rfl (lv_room (Nat.le_of_ble_eq_true rfl)) dX11_flow_19 ⟨Nat.le_of_ble_eq_true rfl, Nat.le_of_ble_eq_true rfl⟩) (fun r u1 H locs hp hW hS => ?_)
      obtain ⟨e9, hp⟩ := hp
      rw [e9] at hW
      rcases hp with ⟨rfl, h15, h16⟩ | rfl
      · refine lv_if_ne (tgt := 27) hx hb dX11_flow_22 (by decide) (fun c17 => ?_) (fun c17 => absurd c17 (by decide))
        refine lv_aload_n hx hb dX11_flow_27 rfl (lv_at hl 0 rfl) ?_
        refine z_get (T := TX11) (N := 13) (ci := 11) (i := 0) (v := .ref (ad 41)) hx hb hts zj_X11_flow_X11 hown hK hW rfl rfl 10 (by decide) (hts (.fieldLink RX11 61 "PetrolBoard" "loads" "LPetrolBoard$Loads;") (me_s (me_l (me_l (me_l (List.mem_of_getElem? (i := 0) rfl)))))) (fun _ h => h) rfl dX11_flow_28 ?_
        refine lv_iload_n hx hb dX11_flow_31 rfl (lv_at hl 1 rfl) ?_
        refine z_cv hW hS hA (va_runV (As := [.int a1]) (rest := []) ⟨hx, hb, hml, hown, hts⟩ (sx_X4_send l G ad c I  a1 _) (cwV 1 hts gX11_flow_X4_send rfl rfl rfl hy_X4_send ⟨Nat.le_of_ble_eq_true rfl, Nat.le_of_ble_eq_true rfl⟩) (z_preV (i := 41) hK hW rfl rfl) rfl rfl hl.1 rfl (lv_room (Nat.le_of_ble_eq_true rfl)) dX11_flow_32 ⟨Nat.le_of_ble_eq_true rfl, Nat.le_of_ble_eq_true rfl⟩) (fun u1 H locs hp hW hS => ?_)
        obtain ⟨I18, e9, fI18⟩ := hp
        rw [e9] at hW
        have f19 := z_fr_sub (L := L_X11_flow) z_fr_0 fI18 (by decide)
        have k20 : 0 ≤ (I18 41 10).toInt ∧ (I18 41 10).toInt ≤ 4 := by rw [fI18 41 10 (by decide)]; exact (by show 0 ≤ (I 41 10).toInt ∧ (I 41 10).toInt ≤ 4; exact hL)
        refine lv_iload_n hx hb dX11_flow_35 rfl (lv_at hl 2 rfl) ?_
        refine lv_if_ne (tgt := 49) hx hb dX11_flow_36 (by decide) (fun c21 => ?_) (fun c21 => ?_)
        · have g22 := z_f_ne rfl z_l0 c21
          refine lv_aload_n hx hb dX11_flow_49 rfl (lv_at hl 0 rfl) ?_
          refine z_get (T := TX11) (N := 13) (ci := 11) (i := 0) (v := .ref (ad 41)) hx hb hts zj_X11_flow_X11 hown hK hW rfl rfl 10 (by decide) (hts (.fieldLink RX11 61 "PetrolBoard" "loads" "LPetrolBoard$Loads;") (me_s (me_l (me_l (me_l (List.mem_of_getElem? (i := 0) rfl)))))) (fun _ h => h) rfl dX11_flow_50 ?_
          refine z_get (T := TX4) (N := 13) (ci := 4) (i := 41) (v := .int (I18 41 12)) hx hb hts zj_X11_flow_X4 hown hK hW rfl rfl 12 (by decide) (hts (.fieldLink RX11 316 "PetrolBoard$Loads" "sentMiles" "I") (me_s (me_l (me_l (me_l (List.mem_of_getElem? (i := 2) rfl)))))) (fun _ h => h) rfl dX11_flow_53 ?_
          exact z_iret hx hb hr hK hS (Nat.le_of_ble_eq_true rfl) (Nat.le_of_ble_eq_true rfl) hlocks dX11_flow_56 (shC c, ad, I18, JX, PC c ad) hW ⟨I18, rfl, (by show 0 ≤ (I18 41 10).toInt ∧ (I18 41 10).toInt ≤ 4; exact k20), f19⟩
        · have g23 := z_f_eq rfl z_l0 c21
          refine lv_aload_n hx hb dX11_flow_39 rfl (lv_at hl 0 rfl) ?_
          refine z_get (T := TX11) (N := 13) (ci := 11) (i := 0) (v := .ref (ad 41)) hx hb hts zj_X11_flow_X11 hown hK hW rfl rfl 10 (by decide) (hts (.fieldLink RX11 61 "PetrolBoard" "loads" "LPetrolBoard$Loads;") (me_s (me_l (me_l (me_l (List.mem_of_getElem? (i := 0) rfl)))))) (fun _ h => h) rfl dX11_flow_40 ?_
          refine z_get (T := TX4) (N := 13) (ci := 4) (i := 41) (v := .int (I18 41 11)) hx hb hts zj_X11_flow_X4 hown hK hW rfl rfl 11 (by decide) (hts (.fieldLink RX11 313 "PetrolBoard$Loads" "sentLoads" "I") (me_s (me_l (me_l (me_l (List.mem_of_getElem? (i := 1) rfl)))))) (fun _ h => h) rfl dX11_flow_43 ?_
          refine lv_goto (tgt := 56) hx hb dX11_flow_46 (by decide) ?_
          exact z_iret hx hb hr hK hS (Nat.le_of_ble_eq_true rfl) (Nat.le_of_ble_eq_true rfl) hlocks dX11_flow_56 (shC c, ad, I18, JX, PC c ad) hW ⟨I18, rfl, (by show 0 ≤ (I18 41 10).toInt ∧ (I18 41 10).toInt ≤ 4; exact k20), f19⟩
      · refine lv_if_ne (tgt := 27) hx hb dX11_flow_22 (by decide) (fun c24 => absurd (by decide) c24) (fun c24 => ?_)
        refine lv_iconst (v := (-1)) hx hb dX11_flow_25 (by decide) ?_
        exact z_iret hx hb hr hK hS (Nat.le_of_ble_eq_true rfl) (Nat.le_of_ble_eq_true rfl) hlocks dX11_flow_26 (shC c, ad, I, JX, PC c ad) hW ⟨I, rfl, (by show 0 ≤ (I 41 10).toInt ∧ (I 41 10).toInt ≤ 4; exact hL), z_fr_0⟩
  · refine lv_if_eq (tgt := 25) hx hb dX11_flow_6 (by decide) (fun c25 => ?_) (fun c25 => absurd (by decide) c25)
    refine lv_iconst (v := (-1)) hx hb dX11_flow_25 (by decide) ?_
    exact z_iret hx hb hr hK hS (Nat.le_of_ble_eq_true rfl) (Nat.le_of_ble_eq_true rfl) hlocks dX11_flow_26 (shC c, ad, I, JX, PC c ad) hW ⟨I, rfl, (by show 0 ≤ (I 41 10).toInt ∧ (I 41 10).toInt ≤ 4; exact hL), z_fr_0⟩
theorem zj_X11_ask_X3 : ∀ w ∈ wsX30, w ∈ wsX11_ask := fun w h => (List.mem_cons_of_mem _ (List.mem_append_left _ (List.mem_append_left _ (List.mem_append_left _ (List.mem_append_left _ (List.mem_append_right _ h))))))
theorem zj_X11_ask_X11 : ∀ w ∈ wsX110, w ∈ wsX11_ask := fun w h => (List.mem_cons_of_mem _ (List.mem_append_left _ (List.mem_append_left _ (List.mem_append_left _ (List.mem_append_left _ (List.mem_append_left _ (List.mem_append_right _ h)))))))
noncomputable def L_X11_appeal : z_L := [(24, 999), (25, 999), (64, 999), (68, 999)]
theorem zj_X11_appeal_X3 : ∀ w ∈ wsX30, w ∈ wsX11_appeal := fun w h => (List.mem_cons_of_mem _ (List.mem_append_left _ (List.mem_append_left _ (List.mem_append_left _ (List.mem_append_left _ (List.mem_append_right _ h))))))
theorem zj_X11_appeal_X11 : ∀ w ∈ wsX110, w ∈ wsX11_appeal := fun w h => (List.mem_cons_of_mem _ (List.mem_append_left _ (List.mem_append_left _ (List.mem_append_left _ (List.mem_append_left _ (List.mem_append_left _ (List.mem_append_right _ h)))))))
set_option maxHeartbeats 8000000 in
set_option maxRecDepth 100000 in
theorem sx_X11_appeal (l : Launch) (G : z_G) (ad : Nat → Nat) (c : z_C) (I : z_I) (hO : z_iO I) (hH : z_iH I) (hJ : z_iJ I) (a1 : Int32) (a2 : Int32) (hc : z_okc c) (h10 : c.1 ≤ 10) : z_M l yX11_appeal wsX11_appeal { frames := 6, cells := 0, slots := 0, locals := 160 } [.ref (ad 0), .int a1, .int a2] G (shC c, ad, I, JX, PC c ad) (fun r u1 => ∃ I1 : z_I, u1 = (shC c, ad, I1, JX, PC c ad) ∧ z_iO I1 ∧ z_iH I1 ∧ z_iJ I1 ∧ z_fr L_X11_appeal I1 I) 0 0 := by
  intro sz
  refine z_headQ (cc := cX11_appeal) (maxL := 3) (ret := (some .int)) (by decide) rfl (Nat.le_of_ble_eq_true rfl) ?_
  intro p e s m below meth c0 ls hIn hK hsz hW hl
  obtain ⟨hx, hb, hr, hml, hown, hts, hlocks, hname⟩ := hIn
  subst hsz
  have hown : s.vm.findClass RX11 = some m.cls := hown
  have hA : ∀ q : Nat, s.heap.size ≤ q → z_A (shC c, ad, I, JX, PC c ad) s.heap.size q := fun q h => Or.inr h
  generalize hAe : z_A (shC c, ad, I, JX, PC c ad) s.heap.size = A at *
  have hS : va_S A s.heap s.heap [] := va_S.rf
  have hl : lv_has ls 3 [(0, .ref (ad 0)), (1, .int a1), (2, .int a2)] := hl
  refine lv_aload_n hx hb dX11_appeal_0 rfl (lv_at hl 0 rfl) ?_
  refine z_get (T := TX11) (N := 13) (ci := 11) (i := 0) (v := .ref (ad 60)) hx hb hts zj_X11_appeal_X11 hown hK hW rfl rfl 11 (by decide) (hts (.fieldLink RX11 68 "PetrolBoard" "journeys" "LPetrolBoard$Journeys;") (me_s (me_l (me_l (me_l (me_l (me_l (me_l (me_l (List.mem_of_getElem? (i := 0) rfl)))))))))) (fun _ h => h) rfl dX11_appeal_1 ?_
  refine lv_iload_n hx hb dX11_appeal_4 rfl (lv_at hl 1 rfl) ?_
  refine z_ci hW hS hA (va_runV (As := [.int a1]) (rest := []) ⟨hx, hb, hml, hown, hts⟩ (sx_X3_has l G ad c I ⟨(by show 0 ≤ (I 60 9).toInt ∧ (I 60 9).toInt ≤ 60; exact hJ.1), (by show 0 ≤ (I 60 12).toInt ∧ (I 60 12).toInt ≤ 12; exact hJ.2)⟩ a1 _) (cwV 1 hts gX11_appeal_X3_has rfl rfl rfl hy_X3_has ⟨Nat.le_of_ble_eq_true rfl, Nat.le_of_ble_eq_true rfl⟩) (z_preV (i := 60) hK hW rfl rfl) rfl rfl hl.1 rfl (lv_room (Nat.le_of_ble_eq_true rfl)) dX11_appeal_5 ⟨Nat.le_of_ble_eq_true rfl, Nat.le_of_ble_eq_true rfl⟩) (fun r u1 H locs hp hW hS => ?_)
  obtain ⟨e9, hp⟩ := hp
  rw [e9] at hW
  rcases hp with ⟨rfl, h1, h2⟩ | rfl
  · refine lv_if_eq (tgt := 18) hx hb dX11_appeal_8 (by decide) (fun c3 => absurd c3 (by decide)) (fun c3 => ?_)
    refine lv_iload_n hx hb dX11_appeal_11 rfl (lv_at hl 2 rfl) ?_
    refine z_ci hW hS hA (va_runS (As := [.int a2]) (rest := []) ⟨hx, hb, hml, hown, hts⟩ (sx_X11_isReason l G ad c I  a2 _) (va_cwS 1 hts gX11_appeal_X11_isReason rfl rfl rfl hy_X11_isReason.2 ⟨Nat.le_of_ble_eq_true rfl, Nat.le_of_ble_eq_true rfl⟩) (z_preS hK hW) rfl rfl hl.1 rfl (lv_room (Nat.le_of_ble_eq_true rfl)) dX11_appeal_12 ⟨Nat.le_of_ble_eq_true rfl, Nat.le_of_ble_eq_true rfl⟩) (fun r u1 H locs hp hW hS => ?_)
    obtain ⟨e9, hp⟩ := hp
    rw [e9] at hW
    rcases hp with ⟨rfl, h4, h5⟩ | rfl
    · refine lv_if_ne (tgt := 20) hx hb dX11_appeal_15 (by decide) (fun c6 => ?_) (fun c6 => absurd c6 (by decide))
      refine lv_aload_n hx hb dX11_appeal_20 rfl (lv_at hl 0 rfl) ?_
      refine z_get (T := TX11) (N := 13) (ci := 11) (i := 0) (v := .ref (ad 60)) hx hb hts zj_X11_appeal_X11 hown hK hW rfl rfl 11 (by decide) (hts (.fieldLink RX11 68 "PetrolBoard" "journeys" "LPetrolBoard$Journeys;") (me_s (me_l (me_l (me_l (me_l (me_l (me_l (me_l (List.mem_of_getElem? (i := 0) rfl)))))))))) (fun _ h => h) rfl dX11_appeal_21 ?_
      refine z_get (T := TX3) (N := 17) (ci := 3) (i := 60) (v := .ref (ad 64)) hx hb hts zj_X11_appeal_X3 hown hK hW rfl rfl 3 (by decide) (hts (.fieldLink RX11 342 "PetrolBoard$Journeys" "reason" "[I") (me_s (me_l (me_l (me_l (me_l (me_l (me_l (me_l (List.mem_of_getElem? (i := 1) rfl)))))))))) (fun _ h => h) rfl dX11_appeal_24 ?_
      refine lv_iload_n hx hb dX11_appeal_27 rfl (lv_at hl 1 rfl) ?_
      refine lv_iload_n hx hb dX11_appeal_28 rfl (lv_at hl 2 rfl) ?_
      refine z_iast (i := 64) hx hb hK hW hS rfl (z_ix rfl (by omega) (by omega)) dX11_appeal_29 (fun H locs hz1 hW hS => ?_)
      obtain ⟨I7, eI7⟩ : ∃ K : z_I, K = z_up I 64 a1.toNatClampNeg a2 := ⟨_, rfl⟩
      rw [← eI7] at hW
      have f8 := z_fr_a z_fr_0 (show z_wa L_X11_appeal 64 = true by decide) eI7
      refine lv_aload_n hx hb dX11_appeal_30 rfl (lv_at hl 0 rfl) ?_
      refine z_get (T := TX11) (N := 13) (ci := 11) (i := 0) (v := .ref (ad 60)) hx hb hts zj_X11_appeal_X11 hown hK hW rfl rfl 11 (by decide) (hts (.fieldLink RX11 68 "PetrolBoard" "journeys" "LPetrolBoard$Journeys;") (me_s (me_l (me_l (me_l (me_l (me_l (me_l (me_l (List.mem_of_getElem? (i := 0) rfl)))))))))) (fun _ h => h) rfl dX11_appeal_31 ?_
      refine z_get (T := TX3) (N := 17) (ci := 3) (i := 60) (v := .ref (ad 68)) hx hb hts zj_X11_appeal_X3 hown hK hW rfl rfl 7 (by decide) (hts (.fieldLink RX11 332 "PetrolBoard$Journeys" "granted" "[I") (me_s (me_l (me_l (me_l (me_l (me_l (me_l (me_l (List.mem_of_getElem? (i := 2) rfl)))))))))) (fun _ h => h) rfl dX11_appeal_34 ?_
      refine lv_iload_n hx hb dX11_appeal_37 rfl (lv_at hl 1 rfl) ?_
      refine lv_aload_n hx hb dX11_appeal_38 rfl (lv_at hl 0 rfl) ?_
      refine z_get (T := TX11) (N := 13) (ci := 11) (i := 0) (v := .ref (ad 21)) hx hb hts zj_X11_appeal_X11 hown hK hW rfl rfl 4 (by decide) (hts (.fieldLink RX11 30 "PetrolBoard" "orderBook" "LPetrolBoard$OrderBook;") (me_s (me_l (me_l (me_l (me_l (me_l (me_l (me_l (List.mem_of_getElem? (i := 3) rfl)))))))))) (fun _ h => h) rfl dX11_appeal_39 ?_
      refine lv_aload_n hx hb dX11_appeal_42 rfl (lv_at hl 0 rfl) ?_
      refine z_get (T := TX11) (N := 13) (ci := 11) (i := 0) (v := .ref (ad 1)) hx hb hts zj_X11_appeal_X11 hown hK hW rfl rfl 2 (by decide) (hts (.fieldLink RX11 16 "PetrolBoard" "holders" "LPetrolBoard$Holders;") (me_s (me_l (me_l (me_l (me_l (me_l (me_l (me_l (List.mem_of_getElem? (i := 4) rfl)))))))))) (fun _ h => h) rfl dX11_appeal_43 ?_
      refine lv_aload_n hx hb dX11_appeal_46 rfl (lv_at hl 0 rfl) ?_
      refine z_get (T := TX11) (N := 13) (ci := 11) (i := 0) (v := .ref (ad 60)) hx hb hts zj_X11_appeal_X11 hown hK hW rfl rfl 11 (by decide) (hts (.fieldLink RX11 68 "PetrolBoard" "journeys" "LPetrolBoard$Journeys;") (me_s (me_l (me_l (me_l (me_l (me_l (me_l (me_l (List.mem_of_getElem? (i := 0) rfl)))))))))) (fun _ h => h) rfl dX11_appeal_47 ?_
      refine lv_iload_n hx hb dX11_appeal_50 rfl (lv_at hl 1 rfl) ?_
      refine z_ci hW hS hA (va_runV (As := [.ref (ad 1), .ref (ad 60), .int a1]) (rest := [.int a1, .ref (ad 68)]) ⟨hx, hb, hml, hown, hts⟩ (sx_X6_grant l G ad c I7 (by show 0 ≤ (I7 21 2).toInt ∧ (I7 21 2).toInt ≤ 12; rw [eI7, z_up_n (by decide)]; exact hO) ⟨(by show 0 ≤ (I7 1 5).toInt ∧ (I7 1 5).toInt ≤ 30; rw [eI7, z_up_n (by decide)]; exact hH.1), (by show 0 ≤ (I7 1 11).toInt ∧ (I7 1 11).toInt ≤ 200; rw [eI7, z_up_n (by decide)]; exact hH.2)⟩ ⟨(by show 0 ≤ (I7 60 9).toInt ∧ (I7 60 9).toInt ≤ 60; rw [eI7, z_up_n (by decide)]; exact hJ.1), (by show 0 ≤ (I7 60 12).toInt ∧ (I7 60 12).toInt ≤ 12; rw [eI7, z_up_n (by decide)]; exact hJ.2)⟩ a1 hc _) (cwV 3 hts gX11_appeal_X6_grant rfl rfl rfl hy_X6_grant ⟨Nat.le_of_ble_eq_true rfl, Nat.le_of_ble_eq_true rfl⟩) (z_preV (i := 21) hK hW rfl rfl) rfl rfl hl.1 rfl (lv_room (Nat.le_of_ble_eq_true rfl)) dX11_appeal_51 ⟨Nat.le_of_ble_eq_true rfl, Nat.le_of_ble_eq_true rfl⟩) (fun r u1 H locs hp hW hS => ?_)
      obtain ⟨I9, e9, hI9O, hI9H, hI9J, fI9⟩ := hp
      rw [e9] at hW
      have f10 := z_fr_sub (L := L_X11_appeal) f8 fI9 (by decide)
      refine lv_topi (fun x11 ex11 => ?_)
      refine z_iast (i := 68) hx hb hK hW hS rfl (z_ix rfl (by omega) (by omega)) dX11_appeal_54 (fun H locs hz1 hW hS => ?_)
      obtain ⟨I12, eI12⟩ : ∃ K : z_I, K = z_up I9 68 a1.toNatClampNeg x11 := ⟨_, rfl⟩
      rw [← eI12] at hW
      have f13 := z_fr_a f10 (show z_wa L_X11_appeal 68 = true by decide) eI12
      refine lv_aload_n hx hb dX11_appeal_55 rfl (lv_at hl 0 rfl) ?_
      refine z_get (T := TX11) (N := 13) (ci := 11) (i := 0) (v := .ref (ad 60)) hx hb hts zj_X11_appeal_X11 hown hK hW rfl rfl 11 (by decide) (hts (.fieldLink RX11 68 "PetrolBoard" "journeys" "LPetrolBoard$Journeys;") (me_s (me_l (me_l (me_l (me_l (me_l (me_l (me_l (List.mem_of_getElem? (i := 0) rfl)))))))))) (fun _ h => h) rfl dX11_appeal_56 ?_
      refine z_get (T := TX3) (N := 17) (ci := 3) (i := 60) (v := .ref (ad 68)) hx hb hts zj_X11_appeal_X3 hown hK hW rfl rfl 7 (by decide) (hts (.fieldLink RX11 332 "PetrolBoard$Journeys" "granted" "[I") (me_s (me_l (me_l (me_l (me_l (me_l (me_l (me_l (List.mem_of_getElem? (i := 2) rfl)))))))))) (fun _ h => h) rfl dX11_appeal_59 ?_
      refine lv_iload_n hx hb dX11_appeal_62 rfl (lv_at hl 1 rfl) ?_
      refine z_iald (i := 68) hx hb hK hW rfl (z_ix rfl (by omega) (by omega)) dX11_appeal_63 ?_
      refine lv_topi (fun x14 ex14 => ?_)
      exact z_iret hx hb hr hK hS (Nat.le_of_ble_eq_true rfl) (Nat.le_of_ble_eq_true rfl) hlocks dX11_appeal_64 (shC c, ad, I12, JX, PC c ad) hW ⟨I12, rfl, (by show 0 ≤ (I12 21 2).toInt ∧ (I12 21 2).toInt ≤ 12; rw [eI12, z_up_n (by decide)]; exact hI9O), ⟨(by show 0 ≤ (I12 1 5).toInt ∧ (I12 1 5).toInt ≤ 30; rw [eI12, z_up_n (by decide)]; exact hI9H.1), (by show 0 ≤ (I12 1 11).toInt ∧ (I12 1 11).toInt ≤ 200; rw [eI12, z_up_n (by decide)]; exact hI9H.2)⟩, ⟨(by show 0 ≤ (I12 60 9).toInt ∧ (I12 60 9).toInt ≤ 60; rw [eI12, z_up_n (by decide)]; exact hI9J.1), (by show 0 ≤ (I12 60 12).toInt ∧ (I12 60 12).toInt ≤ 12; rw [eI12, z_up_n (by decide)]; exact hI9J.2)⟩, f13⟩
    · refine lv_if_ne (tgt := 20) hx hb dX11_appeal_15 (by decide) (fun c15 => absurd (by decide) c15) (fun c15 => ?_)
      refine lv_iconst (v := (-1)) hx hb dX11_appeal_18 (by decide) ?_
      exact z_iret hx hb hr hK hS (Nat.le_of_ble_eq_true rfl) (Nat.le_of_ble_eq_true rfl) hlocks dX11_appeal_19 (shC c, ad, I, JX, PC c ad) hW ⟨I, rfl, (by show 0 ≤ (I 21 2).toInt ∧ (I 21 2).toInt ≤ 12; exact hO), ⟨(by show 0 ≤ (I 1 5).toInt ∧ (I 1 5).toInt ≤ 30; exact hH.1), (by show 0 ≤ (I 1 11).toInt ∧ (I 1 11).toInt ≤ 200; exact hH.2)⟩, ⟨(by show 0 ≤ (I 60 9).toInt ∧ (I 60 9).toInt ≤ 60; exact hJ.1), (by show 0 ≤ (I 60 12).toInt ∧ (I 60 12).toInt ≤ 12; exact hJ.2)⟩, z_fr_0⟩
  · refine lv_if_eq (tgt := 18) hx hb dX11_appeal_8 (by decide) (fun c16 => ?_) (fun c16 => absurd (by decide) c16)
    refine lv_iconst (v := (-1)) hx hb dX11_appeal_18 (by decide) ?_
    exact z_iret hx hb hr hK hS (Nat.le_of_ble_eq_true rfl) (Nat.le_of_ble_eq_true rfl) hlocks dX11_appeal_19 (shC c, ad, I, JX, PC c ad) hW ⟨I, rfl, (by show 0 ≤ (I 21 2).toInt ∧ (I 21 2).toInt ≤ 12; exact hO), ⟨(by show 0 ≤ (I 1 5).toInt ∧ (I 1 5).toInt ≤ 30; exact hH.1), (by show 0 ≤ (I 1 11).toInt ∧ (I 1 11).toInt ≤ 200; exact hH.2)⟩, ⟨(by show 0 ≤ (I 60 9).toInt ∧ (I 60 9).toInt ≤ 60; exact hJ.1), (by show 0 ≤ (I 60 12).toInt ∧ (I 60 12).toInt ≤ 12; exact hJ.2)⟩, z_fr_0⟩
theorem zj_X11_journey_X11 : ∀ w ∈ wsX110, w ∈ wsX11_journey := fun w h => (List.mem_cons_of_mem _ (List.mem_append_left _ (List.mem_append_left _ (List.mem_append_right _ h))))
set_option maxHeartbeats 8000000 in
set_option maxRecDepth 100000 in
theorem sx_X11_journey (l : Launch) (G : z_G) (ad : Nat → Nat) (c : z_C) (I : z_I) (hH : z_iH I) (hJ : z_iJ I) (hB : z_iB I) (a1 : Int32) (a2 : Int32) (hc : z_okc c) (h10 : c.1 ≤ 10) : z_M l yX11_journey wsX11_journey { frames := 4, cells := 0, slots := 0, locals := 90 } [.ref (ad 0), .int a1, .int a2] G (shC c, ad, I, JX, PC c ad) (fun r u1 => u1 = (shC c, ad, I, JX, PC c ad)) 0 0 := by
  intro sz
  refine z_headQ (cc := cX11_journey) (maxL := 3) (ret := (some .int)) (by decide) rfl (Nat.le_of_ble_eq_true rfl) ?_
  intro p e s m below meth c0 ls hIn hK hsz hW hl
  obtain ⟨hx, hb, hr, hml, hown, hts, hlocks, hname⟩ := hIn
  subst hsz
  have hown : s.vm.findClass RX11 = some m.cls := hown
  have hA : ∀ q : Nat, s.heap.size ≤ q → z_A (shC c, ad, I, JX, PC c ad) s.heap.size q := fun q h => Or.inr h
  generalize hAe : z_A (shC c, ad, I, JX, PC c ad) s.heap.size = A at *
  have hS : va_S A s.heap s.heap [] := va_S.rf
  have hl : lv_has ls 3 [(0, .ref (ad 0)), (1, .int a1), (2, .int a2)] := hl
  refine lv_aload_n hx hb dX11_journey_0 rfl (lv_at hl 0 rfl) ?_
  refine z_get (T := TX11) (N := 13) (ci := 11) (i := 0) (v := .ref (ad 60)) hx hb hts zj_X11_journey_X11 hown hK hW rfl rfl 11 (by decide) (hts (.fieldLink RX11 68 "PetrolBoard" "journeys" "LPetrolBoard$Journeys;") (me_s (me_l (me_l (me_l (me_l (List.mem_of_getElem? (i := 0) rfl))))))) (fun _ h => h) rfl dX11_journey_1 ?_
  refine lv_iload_n hx hb dX11_journey_4 rfl (lv_at hl 1 rfl) ?_
  refine z_ci hW hS hA (va_runV (As := [.int a1]) (rest := []) ⟨hx, hb, hml, hown, hts⟩ (sx_X3_has l G ad c I ⟨(by show 0 ≤ (I 60 9).toInt ∧ (I 60 9).toInt ≤ 60; exact hJ.1), (by show 0 ≤ (I 60 12).toInt ∧ (I 60 12).toInt ≤ 12; exact hJ.2)⟩ a1 _) (cwV 1 hts gX11_journey_X3_has rfl rfl rfl hy_X3_has ⟨Nat.le_of_ble_eq_true rfl, Nat.le_of_ble_eq_true rfl⟩) (z_preV (i := 60) hK hW rfl rfl) rfl rfl hl.1 rfl (lv_room (Nat.le_of_ble_eq_true rfl)) dX11_journey_5 ⟨Nat.le_of_ble_eq_true rfl, Nat.le_of_ble_eq_true rfl⟩) (fun r u1 H locs hp hW hS => ?_)
  obtain ⟨e9, hp⟩ := hp
  rw [e9] at hW
  rcases hp with ⟨rfl, h1, h2⟩ | rfl
  · refine lv_if_ne (tgt := 13) hx hb dX11_journey_8 (by decide) (fun c3 => ?_) (fun c3 => absurd c3 (by decide))
    refine lv_iload_n hx hb dX11_journey_13 rfl (lv_at hl 2 rfl) ?_
    refine lv_bipush (v := 100) hx hb dX11_journey_14 (by decide) ?_
    refine lv_icmp_lt (tgt := 40) hx hb dX11_journey_16 (by decide) (fun c4 => ?_) (fun c4 => ?_)
    · have g5 := z_f_lt rfl z_l100 c4
      have b6 := Int32.toInt_lt a2
      refine lv_aload_n hx hb dX11_journey_40 rfl (lv_at hl 0 rfl) ?_
      refine z_get (T := TX11) (N := 13) (ci := 11) (i := 0) (v := .ref (ad 60)) hx hb hts zj_X11_journey_X11 hown hK hW rfl rfl 11 (by decide) (hts (.fieldLink RX11 68 "PetrolBoard" "journeys" "LPetrolBoard$Journeys;") (me_s (me_l (me_l (me_l (me_l (List.mem_of_getElem? (i := 0) rfl))))))) (fun _ h => h) rfl dX11_journey_41 ?_
      refine lv_iload_n hx hb dX11_journey_44 rfl (lv_at hl 1 rfl) ?_
      refine lv_iload_n hx hb dX11_journey_45 rfl (lv_at hl 2 rfl) ?_
      refine z_ci hW hS hA (va_runV (As := [.int a1, .int a2]) (rest := []) ⟨hx, hb, hml, hown, hts⟩ (sx_X3_tell l G ad c I ⟨(by show 0 ≤ (I 60 9).toInt ∧ (I 60 9).toInt ≤ 60; exact hJ.1), (by show 0 ≤ (I 60 12).toInt ∧ (I 60 12).toInt ≤ 12; exact hJ.2)⟩ a1 a2 _) (cwV 2 hts gX11_journey_X3_tell rfl rfl rfl hy_X3_tell ⟨Nat.le_of_ble_eq_true rfl, Nat.le_of_ble_eq_true rfl⟩) (z_preV (i := 60) hK hW rfl rfl) rfl rfl hl.1 rfl (lv_room (Nat.le_of_ble_eq_true rfl)) dX11_journey_46 ⟨Nat.le_of_ble_eq_true rfl, Nat.le_of_ble_eq_true rfl⟩) (fun r u1 H locs hp hW hS => ?_)
      rw [hp] at hW
      refine lv_topi (fun x7 ex7 => ?_)
      exact z_iret hx hb hr hK hS (Nat.le_of_ble_eq_true rfl) (Nat.le_of_ble_eq_true rfl) hlocks dX11_journey_49 (shC c, ad, I, JX, PC c ad) hW rfl
    · have g8 := z_f_nlt rfl z_l100 c4
      have b9 := Int32.toInt_lt a2
      refine lv_aload_n hx hb dX11_journey_19 rfl (lv_at hl 0 rfl) ?_
      refine z_get (T := TX11) (N := 13) (ci := 11) (i := 0) (v := .ref (ad 60)) hx hb hts zj_X11_journey_X11 hown hK hW rfl rfl 11 (by decide) (hts (.fieldLink RX11 68 "PetrolBoard" "journeys" "LPetrolBoard$Journeys;") (me_s (me_l (me_l (me_l (me_l (List.mem_of_getElem? (i := 0) rfl))))))) (fun _ h => h) rfl dX11_journey_20 ?_
      refine lv_aload_n hx hb dX11_journey_23 rfl (lv_at hl 0 rfl) ?_
      refine z_get (T := TX11) (N := 13) (ci := 11) (i := 0) (v := .ref (ad 1)) hx hb hts zj_X11_journey_X11 hown hK hW rfl rfl 2 (by decide) (hts (.fieldLink RX11 16 "PetrolBoard" "holders" "LPetrolBoard$Holders;") (me_s (me_l (me_l (me_l (me_l (List.mem_of_getElem? (i := 1) rfl))))))) (fun _ h => h) rfl dX11_journey_24 ?_
      refine lv_iload_n hx hb dX11_journey_27 rfl (lv_at hl 1 rfl) ?_
      refine lv_iload_n hx hb dX11_journey_28 rfl (lv_at hl 2 rfl) ?_
      refine lv_bipush (v := 100) hx hb dX11_journey_29 (by decide) ?_
      refine lv_isub hx hb dX11_journey_31 ?_
      refine lv_topi (fun x10 ex10 => ?_)
      have tx10 : x10.toInt = a2.toInt - 100 := z_tsub ex10 rfl z_l100 (by have := Int32.le_toInt a2; have := Int32.toInt_lt a2; omega) (by have := Int32.le_toInt a2; have := Int32.toInt_lt a2; omega)
      refine lv_aload_n hx hb dX11_journey_32 rfl (lv_at hl 0 rfl) ?_
      have r11 : 0 ≤ (I 0 0).toInt ∧ (I 0 0).toInt ≤ 719 := hB.1
      refine z_get (T := TX11) (N := 13) (ci := 11) (i := 0) (v := .int (I 0 0)) hx hb hts zj_X11_journey_X11 hown hK hW rfl rfl 0 (by decide) (hts (.fieldLink RX11 85 "PetrolBoard" "today" "I") (me_s (me_l (me_l (me_l (me_l (List.mem_of_getElem? (i := 2) rfl))))))) (fun _ h => h) rfl dX11_journey_33 ?_
      refine z_ci hW hS hA (va_runV (As := [.ref (ad 1), .int a1, .int x10, .int (I 0 0)]) (rest := []) ⟨hx, hb, hml, hown, hts⟩ (sx_X3_likeOf l G ad c I ⟨(by show 0 ≤ (I 60 9).toInt ∧ (I 60 9).toInt ≤ 60; exact hJ.1), (by show 0 ≤ (I 60 12).toInt ∧ (I 60 12).toInt ≤ 12; exact hJ.2)⟩ ⟨(by show 0 ≤ (I 1 5).toInt ∧ (I 1 5).toInt ≤ 30; exact hH.1), (by show 0 ≤ (I 1 11).toInt ∧ (I 1 11).toInt ≤ 200; exact hH.2)⟩ a1 x10 (I 0 0) _) (cwV 4 hts gX11_journey_X3_likeOf rfl rfl rfl hy_X3_likeOf ⟨Nat.le_of_ble_eq_true rfl, Nat.le_of_ble_eq_true rfl⟩) (z_preV (i := 60) hK hW rfl rfl) rfl rfl hl.1 rfl (lv_room (Nat.le_of_ble_eq_true rfl)) dX11_journey_36 ⟨Nat.le_of_ble_eq_true rfl, Nat.le_of_ble_eq_true rfl⟩) (fun r u1 H locs hp hW hS => ?_)
      rw [hp] at hW
      refine lv_topi (fun x12 ex12 => ?_)
      exact z_iret hx hb hr hK hS (Nat.le_of_ble_eq_true rfl) (Nat.le_of_ble_eq_true rfl) hlocks dX11_journey_39 (shC c, ad, I, JX, PC c ad) hW rfl
  · refine lv_if_ne (tgt := 13) hx hb dX11_journey_8 (by decide) (fun c13 => absurd (by decide) c13) (fun c13 => ?_)
    refine lv_iconst (v := (-1)) hx hb dX11_journey_11 (by decide) ?_
    exact z_iret hx hb hr hK hS (Nat.le_of_ble_eq_true rfl) (Nat.le_of_ble_eq_true rfl) hlocks dX11_journey_12 (shC c, ad, I, JX, PC c ad) hW rfl
noncomputable def L_X11_pool : z_L := [(70, 999), (71, 999), (60, 12), (60, 13), (60, 16), (60, 14), (60, 15)]
theorem zj_X11_pool_X3 : ∀ w ∈ wsX30, w ∈ wsX11_pool := fun w h => (List.mem_cons_of_mem _ (List.mem_append_left _ (List.mem_append_right _ h)))
theorem zj_X11_pool_X11 : ∀ w ∈ wsX110, w ∈ wsX11_pool := fun w h => (List.mem_cons_of_mem _ (List.mem_append_left _ (List.mem_append_left _ (List.mem_append_right _ h))))
set_option maxHeartbeats 8000000 in
set_option maxRecDepth 100000 in
theorem sx_X11_pool (l : Launch) (G : z_G) (ad : Nat → Nat) (c : z_C) (I : z_I) (hH : z_iH I) (hJ : z_iJ I) (a1 : Int32) (a2 : Int32) (a3 : Int32) (hc : z_okc c) (h10 : c.1 ≤ 10) : z_M l yX11_pool wsX11_pool { frames := 4, cells := 0, slots := 0, locals := 82 } [.ref (ad 0), .int a1, .int a2, .int a3] G (shC c, ad, I, JX, PC c ad) (fun r u1 => ∃ I1 : z_I, u1 = (shC c, ad, I1, JX, PC c ad) ∧ z_iH I1 ∧ z_iJ I1 ∧ z_fr L_X11_pool I1 I) 0 0 := by
  intro sz
  refine z_headQ (cc := cX11_pool) (maxL := 4) (ret := (some .int)) (by decide) rfl (Nat.le_of_ble_eq_true rfl) ?_
  intro p e s m below meth c0 ls hIn hK hsz hW hl
  obtain ⟨hx, hb, hr, hml, hown, hts, hlocks, hname⟩ := hIn
  subst hsz
  have hown : s.vm.findClass RX11 = some m.cls := hown
  have hA : ∀ q : Nat, s.heap.size ≤ q → z_A (shC c, ad, I, JX, PC c ad) s.heap.size q := fun q h => Or.inr h
  generalize hAe : z_A (shC c, ad, I, JX, PC c ad) s.heap.size = A at *
  have hS : va_S A s.heap s.heap [] := va_S.rf
  have hl : lv_has ls 4 [(0, .ref (ad 0)), (1, .int a1), (2, .int a2), (3, .int a3)] := hl
  refine lv_iload_n hx hb dX11_pool_0 rfl (lv_at hl 1 rfl) ?_
  refine z_ci hW hS hA (va_runS (As := [.int a1]) (rest := []) ⟨hx, hb, hml, hown, hts⟩ (sx_X11_isDay l G ad c I  a1 _) (va_cwS 1 hts gX11_pool_X11_isDay rfl rfl rfl hy_X11_isDay.2 ⟨Nat.le_of_ble_eq_true rfl, Nat.le_of_ble_eq_true rfl⟩) (z_preS hK hW) rfl rfl hl.1 rfl (lv_room (Nat.le_of_ble_eq_true rfl)) dX11_pool_1 ⟨Nat.le_of_ble_eq_true rfl, Nat.le_of_ble_eq_true rfl⟩) (fun r u1 H locs hp hW hS => ?_)
  obtain ⟨e9, hp⟩ := hp
  rw [e9] at hW
  rcases hp with ⟨rfl, h1, h2⟩ | rfl
  · refine lv_if_eq (tgt := 23) hx hb dX11_pool_4 (by decide) (fun c3 => absurd c3 (by decide)) (fun c3 => ?_)
    refine lv_iload_n hx hb dX11_pool_7 rfl (lv_at hl 2 rfl) ?_
    refine z_ci hW hS hA (va_runS (As := [.int a2]) (rest := []) ⟨hx, hb, hml, hown, hts⟩ (sx_X11_isWay l G ad c I  a2 _) (va_cwS 1 hts gX11_pool_X11_isWay rfl rfl rfl hy_X11_isWay.2 ⟨Nat.le_of_ble_eq_true rfl, Nat.le_of_ble_eq_true rfl⟩) (z_preS hK hW) rfl rfl hl.1 rfl (lv_room (Nat.le_of_ble_eq_true rfl)) dX11_pool_8 ⟨Nat.le_of_ble_eq_true rfl, Nat.le_of_ble_eq_true rfl⟩) (fun r u1 H locs hp hW hS => ?_)
    obtain ⟨e9, hp⟩ := hp
    rw [e9] at hW
    rcases hp with rfl | rfl
    · refine lv_if_eq (tgt := 23) hx hb dX11_pool_11 (by decide) (fun c4 => absurd c4 (by decide)) (fun c4 => ?_)
      refine lv_iload_n hx hb dX11_pool_14 rfl (lv_at hl 3 rfl) ?_
      refine lv_iconst (v := 0) hx hb dX11_pool_15 (by decide) ?_
      refine lv_iconst (v := 3) hx hb dX11_pool_16 (by decide) ?_
      refine z_ci hW hS hA (va_runS (As := [.int a3, .int 0, .int 3]) (rest := []) ⟨hx, hb, hml, hown, hts⟩ (sx_X11_within l G ad c I  a3 0 3 _) (va_cwS 3 hts gX11_pool_X11_within rfl rfl rfl hy_X11_within.2 ⟨Nat.le_of_ble_eq_true rfl, Nat.le_of_ble_eq_true rfl⟩) (z_preS hK hW) rfl rfl hl.1 rfl (lv_room (Nat.le_of_ble_eq_true rfl)) dX11_pool_17 ⟨Nat.le_of_ble_eq_true rfl, Nat.le_of_ble_eq_true rfl⟩) (fun r u1 H locs hp hW hS => ?_)
      obtain ⟨e9, hp⟩ := hp
      rw [e9] at hW
      rcases hp with ⟨rfl, h5, h6⟩ | rfl
      · have h5 := z_t_le z_l0 rfl h5
        have h6 := z_t_le rfl z_l3 h6
        refine lv_if_ne (tgt := 25) hx hb dX11_pool_20 (by decide) (fun c7 => ?_) (fun c7 => absurd c7 (by decide))
        refine lv_aload_n hx hb dX11_pool_25 rfl (lv_at hl 0 rfl) ?_
        refine z_get (T := TX11) (N := 13) (ci := 11) (i := 0) (v := .ref (ad 60)) hx hb hts zj_X11_pool_X11 hown hK hW rfl rfl 11 (by decide) (hts (.fieldLink RX11 68 "PetrolBoard" "journeys" "LPetrolBoard$Journeys;") (me_s (me_l (me_l (me_l (me_l (List.mem_of_getElem? (i := 0) rfl))))))) (fun _ h => h) rfl dX11_pool_26 ?_
        refine lv_aload_n hx hb dX11_pool_29 rfl (lv_at hl 0 rfl) ?_
        refine z_get (T := TX11) (N := 13) (ci := 11) (i := 0) (v := .ref (ad 1)) hx hb hts zj_X11_pool_X11 hown hK hW rfl rfl 2 (by decide) (hts (.fieldLink RX11 16 "PetrolBoard" "holders" "LPetrolBoard$Holders;") (me_s (me_l (me_l (me_l (me_l (List.mem_of_getElem? (i := 1) rfl))))))) (fun _ h => h) rfl dX11_pool_30 ?_
        refine lv_iload_n hx hb dX11_pool_33 rfl (lv_at hl 1 rfl) ?_
        refine lv_iload_n hx hb dX11_pool_34 rfl (lv_at hl 2 rfl) ?_
        refine z_ci hW hS hA (va_runV (As := [.ref (ad 1), .int a1, .int a2]) (rest := []) ⟨hx, hb, hml, hown, hts⟩ (sx_X3_poolOf l G ad c I ⟨(by show 0 ≤ (I 60 9).toInt ∧ (I 60 9).toInt ≤ 60; exact hJ.1), (by show 0 ≤ (I 60 12).toInt ∧ (I 60 12).toInt ≤ 12; exact hJ.2)⟩ ⟨(by show 0 ≤ (I 1 5).toInt ∧ (I 1 5).toInt ≤ 30; exact hH.1), (by show 0 ≤ (I 1 11).toInt ∧ (I 1 11).toInt ≤ 200; exact hH.2)⟩ a1 a2 _) (cwV 3 hts gX11_pool_X3_poolOf rfl rfl rfl hy_X3_poolOf ⟨Nat.le_of_ble_eq_true rfl, Nat.le_of_ble_eq_true rfl⟩) (z_preV (i := 60) hK hW rfl rfl) rfl rfl hl.1 rfl (lv_room (Nat.le_of_ble_eq_true rfl)) dX11_pool_35 ⟨Nat.le_of_ble_eq_true rfl, Nat.le_of_ble_eq_true rfl⟩) (fun r u1 H locs hp hW hS => ?_)
        obtain ⟨I8, e9, hI8J, hI8H, fI8, hp⟩ := hp
        rw [e9] at hW
        have f9 := z_fr_sub (L := L_X11_pool) z_fr_0 fI8 (by decide)
        rcases hp with rfl | rfl
        · refine lv_if_ne (tgt := 43) hx hb dX11_pool_38 (by decide) (fun c10 => ?_) (fun c10 => absurd c10 (by decide))
          refine lv_iload_n hx hb dX11_pool_43 rfl (lv_at hl 3 rfl) ?_
          by_cases q11 : a3 = 0
          · refine lv_tableIn (tgt := 72) hx hb dX11_pool_44 (by rw [q11]; decide) (by rw [q11]; decide) (by rw [q11]; rfl) (by decide) ?_
            refine lv_aload_n hx hb dX11_pool_72 rfl (lv_at hl 0 rfl) ?_
            refine z_get (T := TX11) (N := 13) (ci := 11) (i := 0) (v := .ref (ad 60)) hx hb hts zj_X11_pool_X11 hown hK hW rfl rfl 11 (by decide) (hts (.fieldLink RX11 68 "PetrolBoard" "journeys" "LPetrolBoard$Journeys;") (me_s (me_l (me_l (me_l (me_l (List.mem_of_getElem? (i := 0) rfl))))))) (fun _ h => h) rfl dX11_pool_73 ?_
            refine z_get (T := TX3) (N := 17) (ci := 3) (i := 60) (v := .int (I8 60 14)) hx hb hts zj_X11_pool_X3 hown hK hW rfl rfl 14 (by decide) (hts (.fieldLink RX11 353 "PetrolBoard$Journeys" "poolCars" "I") (me_s (me_l (me_l (me_l (me_l (List.mem_of_getElem? (i := 2) rfl))))))) (fun _ h => h) rfl dX11_pool_76 ?_
            exact z_iret hx hb hr hK hS (Nat.le_of_ble_eq_true rfl) (Nat.le_of_ble_eq_true rfl) hlocks dX11_pool_79 (shC c, ad, I8, JX, PC c ad) hW ⟨I8, rfl, ⟨(by show 0 ≤ (I8 1 5).toInt ∧ (I8 1 5).toInt ≤ 30; exact hI8H.1), (by show 0 ≤ (I8 1 11).toInt ∧ (I8 1 11).toInt ≤ 200; exact hI8H.2)⟩, ⟨(by show 0 ≤ (I8 60 9).toInt ∧ (I8 60 9).toInt ≤ 60; exact hI8J.1), (by show 0 ≤ (I8 60 12).toInt ∧ (I8 60 12).toInt ≤ 12; exact hI8J.2)⟩, f9⟩
          by_cases q12 : a3 = 1
          · refine lv_tableIn (tgt := 80) hx hb dX11_pool_44 (by rw [q12]; decide) (by rw [q12]; decide) (by rw [q12]; rfl) (by decide) ?_
            refine lv_aload_n hx hb dX11_pool_80 rfl (lv_at hl 0 rfl) ?_
            refine z_get (T := TX11) (N := 13) (ci := 11) (i := 0) (v := .ref (ad 60)) hx hb hts zj_X11_pool_X11 hown hK hW rfl rfl 11 (by decide) (hts (.fieldLink RX11 68 "PetrolBoard" "journeys" "LPetrolBoard$Journeys;") (me_s (me_l (me_l (me_l (me_l (List.mem_of_getElem? (i := 0) rfl))))))) (fun _ h => h) rfl dX11_pool_81 ?_
            refine z_get (T := TX3) (N := 17) (ci := 3) (i := 60) (v := .int (I8 60 15)) hx hb hts zj_X11_pool_X3 hown hK hW rfl rfl 15 (by decide) (hts (.fieldLink RX11 356 "PetrolBoard$Journeys" "poolCost" "I") (me_s (me_l (me_l (me_l (me_l (List.mem_of_getElem? (i := 3) rfl))))))) (fun _ h => h) rfl dX11_pool_84 ?_
            exact z_iret hx hb hr hK hS (Nat.le_of_ble_eq_true rfl) (Nat.le_of_ble_eq_true rfl) hlocks dX11_pool_87 (shC c, ad, I8, JX, PC c ad) hW ⟨I8, rfl, ⟨(by show 0 ≤ (I8 1 5).toInt ∧ (I8 1 5).toInt ≤ 30; exact hI8H.1), (by show 0 ≤ (I8 1 11).toInt ∧ (I8 1 11).toInt ≤ 200; exact hI8H.2)⟩, ⟨(by show 0 ≤ (I8 60 9).toInt ∧ (I8 60 9).toInt ≤ 60; exact hI8J.1), (by show 0 ≤ (I8 60 12).toInt ∧ (I8 60 12).toInt ≤ 12; exact hI8J.2)⟩, f9⟩
          by_cases q13 : a3 = 2
          · refine lv_tableIn (tgt := 88) hx hb dX11_pool_44 (by rw [q13]; decide) (by rw [q13]; decide) (by rw [q13]; rfl) (by decide) ?_
            refine lv_aload_n hx hb dX11_pool_88 rfl (lv_at hl 0 rfl) ?_
            refine z_get (T := TX11) (N := 13) (ci := 11) (i := 0) (v := .ref (ad 60)) hx hb hts zj_X11_pool_X11 hown hK hW rfl rfl 11 (by decide) (hts (.fieldLink RX11 68 "PetrolBoard" "journeys" "LPetrolBoard$Journeys;") (me_s (me_l (me_l (me_l (me_l (List.mem_of_getElem? (i := 0) rfl))))))) (fun _ h => h) rfl dX11_pool_89 ?_
            refine z_get (T := TX3) (N := 17) (ci := 3) (i := 60) (v := .int (I8 60 16)) hx hb hts zj_X11_pool_X3 hown hK hW rfl rfl 16 (by decide) (hts (.fieldLink RX11 359 "PetrolBoard$Journeys" "poolSet" "I") (me_s (me_l (me_l (me_l (me_l (List.mem_of_getElem? (i := 4) rfl))))))) (fun _ h => h) rfl dX11_pool_92 ?_
            exact z_iret hx hb hr hK hS (Nat.le_of_ble_eq_true rfl) (Nat.le_of_ble_eq_true rfl) hlocks dX11_pool_95 (shC c, ad, I8, JX, PC c ad) hW ⟨I8, rfl, ⟨(by show 0 ≤ (I8 1 5).toInt ∧ (I8 1 5).toInt ≤ 30; exact hI8H.1), (by show 0 ≤ (I8 1 11).toInt ∧ (I8 1 11).toInt ≤ 200; exact hI8H.2)⟩, ⟨(by show 0 ≤ (I8 60 9).toInt ∧ (I8 60 9).toInt ≤ 60; exact hI8J.1), (by show 0 ≤ (I8 60 12).toInt ∧ (I8 60 12).toInt ≤ 12; exact hI8J.2)⟩, f9⟩
          have q11 := z_f_ne rfl z_l0 q11
          have q12 := z_f_ne rfl z_l1 q12
          have q13 := z_f_ne rfl z_l2 q13
          refine lv_tableOut (tgt := 96) hx hb dX11_pool_44 (by omega) (by decide) ?_
          refine lv_aload_n hx hb dX11_pool_96 rfl (lv_at hl 0 rfl) ?_
          refine z_get (T := TX11) (N := 13) (ci := 11) (i := 0) (v := .ref (ad 60)) hx hb hts zj_X11_pool_X11 hown hK hW rfl rfl 11 (by decide) (hts (.fieldLink RX11 68 "PetrolBoard" "journeys" "LPetrolBoard$Journeys;") (me_s (me_l (me_l (me_l (me_l (List.mem_of_getElem? (i := 0) rfl))))))) (fun _ h => h) rfl dX11_pool_97 ?_
          refine z_get (T := TX3) (N := 17) (ci := 3) (i := 60) (v := .int (I8 60 13)) hx hb hts zj_X11_pool_X3 hown hK hW rfl rfl 13 (by decide) (hts (.fieldLink RX11 362 "PetrolBoard$Journeys" "poolPeople" "I") (me_s (me_l (me_l (me_l (me_l (List.mem_of_getElem? (i := 5) rfl))))))) (fun _ h => h) rfl dX11_pool_100 ?_
          exact z_iret hx hb hr hK hS (Nat.le_of_ble_eq_true rfl) (Nat.le_of_ble_eq_true rfl) hlocks dX11_pool_103 (shC c, ad, I8, JX, PC c ad) hW ⟨I8, rfl, ⟨(by show 0 ≤ (I8 1 5).toInt ∧ (I8 1 5).toInt ≤ 30; exact hI8H.1), (by show 0 ≤ (I8 1 11).toInt ∧ (I8 1 11).toInt ≤ 200; exact hI8H.2)⟩, ⟨(by show 0 ≤ (I8 60 9).toInt ∧ (I8 60 9).toInt ≤ 60; exact hI8J.1), (by show 0 ≤ (I8 60 12).toInt ∧ (I8 60 12).toInt ≤ 12; exact hI8J.2)⟩, f9⟩
        · refine lv_if_ne (tgt := 43) hx hb dX11_pool_38 (by decide) (fun c14 => absurd (by decide) c14) (fun c14 => ?_)
          refine lv_iconst (v := (-1)) hx hb dX11_pool_41 (by decide) ?_
          exact z_iret hx hb hr hK hS (Nat.le_of_ble_eq_true rfl) (Nat.le_of_ble_eq_true rfl) hlocks dX11_pool_42 (shC c, ad, I8, JX, PC c ad) hW ⟨I8, rfl, ⟨(by show 0 ≤ (I8 1 5).toInt ∧ (I8 1 5).toInt ≤ 30; exact hI8H.1), (by show 0 ≤ (I8 1 11).toInt ∧ (I8 1 11).toInt ≤ 200; exact hI8H.2)⟩, ⟨(by show 0 ≤ (I8 60 9).toInt ∧ (I8 60 9).toInt ≤ 60; exact hI8J.1), (by show 0 ≤ (I8 60 12).toInt ∧ (I8 60 12).toInt ≤ 12; exact hI8J.2)⟩, f9⟩
      · refine lv_if_ne (tgt := 25) hx hb dX11_pool_20 (by decide) (fun c15 => absurd (by decide) c15) (fun c15 => ?_)
        refine lv_iconst (v := (-1)) hx hb dX11_pool_23 (by decide) ?_
        exact z_iret hx hb hr hK hS (Nat.le_of_ble_eq_true rfl) (Nat.le_of_ble_eq_true rfl) hlocks dX11_pool_24 (shC c, ad, I, JX, PC c ad) hW ⟨I, rfl, ⟨(by show 0 ≤ (I 1 5).toInt ∧ (I 1 5).toInt ≤ 30; exact hH.1), (by show 0 ≤ (I 1 11).toInt ∧ (I 1 11).toInt ≤ 200; exact hH.2)⟩, ⟨(by show 0 ≤ (I 60 9).toInt ∧ (I 60 9).toInt ≤ 60; exact hJ.1), (by show 0 ≤ (I 60 12).toInt ∧ (I 60 12).toInt ≤ 12; exact hJ.2)⟩, z_fr_0⟩
    · refine lv_if_eq (tgt := 23) hx hb dX11_pool_11 (by decide) (fun c16 => ?_) (fun c16 => absurd (by decide) c16)
      refine lv_iconst (v := (-1)) hx hb dX11_pool_23 (by decide) ?_
      exact z_iret hx hb hr hK hS (Nat.le_of_ble_eq_true rfl) (Nat.le_of_ble_eq_true rfl) hlocks dX11_pool_24 (shC c, ad, I, JX, PC c ad) hW ⟨I, rfl, ⟨(by show 0 ≤ (I 1 5).toInt ∧ (I 1 5).toInt ≤ 30; exact hH.1), (by show 0 ≤ (I 1 11).toInt ∧ (I 1 11).toInt ≤ 200; exact hH.2)⟩, ⟨(by show 0 ≤ (I 60 9).toInt ∧ (I 60 9).toInt ≤ 60; exact hJ.1), (by show 0 ≤ (I 60 12).toInt ∧ (I 60 12).toInt ≤ 12; exact hJ.2)⟩, z_fr_0⟩
  · refine lv_if_eq (tgt := 23) hx hb dX11_pool_4 (by decide) (fun c17 => ?_) (fun c17 => absurd (by decide) c17)
    refine lv_iconst (v := (-1)) hx hb dX11_pool_23 (by decide) ?_
    exact z_iret hx hb hr hK hS (Nat.le_of_ble_eq_true rfl) (Nat.le_of_ble_eq_true rfl) hlocks dX11_pool_24 (shC c, ad, I, JX, PC c ad) hW ⟨I, rfl, ⟨(by show 0 ≤ (I 1 5).toInt ∧ (I 1 5).toInt ≤ 30; exact hH.1), (by show 0 ≤ (I 1 11).toInt ∧ (I 1 11).toInt ≤ 200; exact hH.2)⟩, ⟨(by show 0 ≤ (I 60 9).toInt ∧ (I 60 9).toInt ≤ 60; exact hJ.1), (by show 0 ≤ (I 60 12).toInt ∧ (I 60 12).toInt ≤ 12; exact hJ.2)⟩, z_fr_0⟩
theorem zj_X11_remains_X2 : ∀ w ∈ wsX20, w ∈ wsX11_remains := fun w h => (List.mem_cons_of_mem _ (List.mem_append_left _ (List.mem_append_right _ h)))
theorem zj_X11_remains_X11 : ∀ w ∈ wsX110, w ∈ wsX11_remains := fun w h => (List.mem_cons_of_mem _ (List.mem_append_left _ (List.mem_append_left _ (List.mem_append_right _ h))))
set_option maxHeartbeats 8000000 in
set_option maxRecDepth 100000 in
theorem sx_X11_remains (l : Launch) (G : z_G) (ad : Nat → Nat) (c : z_C) (I : z_I) (hH : z_iH I) (hD : z_iD I) (a1 : Int32) (hc : z_okc c) (h10 : c.1 ≤ 10) : z_M l yX11_remains wsX11_remains { frames := 2, cells := 0, slots := 0, locals := 33 } [.ref (ad 0), .int a1] G (shC c, ad, I, JX, PC c ad) (fun r u1 => u1 = (shC c, ad, I, JX, PC c ad) ∧ (r = 1 ∨ r = 0)) 0 0 := by
  intro sz
  refine z_headQ (cc := cX11_remains) (maxL := 2) (ret := (some .boolean)) (by decide) rfl (Nat.le_of_ble_eq_true rfl) ?_
  intro p e s m below meth c0 ls hIn hK hsz hW hl
  obtain ⟨hx, hb, hr, hml, hown, hts, hlocks, hname⟩ := hIn
  subst hsz
  have hown : s.vm.findClass RX11 = some m.cls := hown
  have hA : ∀ q : Nat, s.heap.size ≤ q → z_A (shC c, ad, I, JX, PC c ad) s.heap.size q := fun q h => Or.inr h
  generalize hAe : z_A (shC c, ad, I, JX, PC c ad) s.heap.size = A at *
  have hS : va_S A s.heap s.heap [] := va_S.rf
  have hl : lv_has ls 2 [(0, .ref (ad 0)), (1, .int a1)] := hl
  refine lv_aload_n hx hb dX11_remains_0 rfl (lv_at hl 0 rfl) ?_
  refine z_get (T := TX11) (N := 13) (ci := 11) (i := 0) (v := .ref (ad 1)) hx hb hts zj_X11_remains_X11 hown hK hW rfl rfl 2 (by decide) (hts (.fieldLink RX11 16 "PetrolBoard" "holders" "LPetrolBoard$Holders;") (me_s (me_l (me_l (me_l (List.mem_of_getElem? (i := 0) rfl)))))) (fun _ h => h) rfl dX11_remains_1 ?_
  refine lv_iload_n hx hb dX11_remains_4 rfl (lv_at hl 1 rfl) ?_
  refine z_ci hW hS hA (va_runV (As := [.int a1]) (rest := []) ⟨hx, hb, hml, hown, hts⟩ (sx_X2_has l G ad c I ⟨(by show 0 ≤ (I 1 5).toInt ∧ (I 1 5).toInt ≤ 30; exact hH.1), (by show 0 ≤ (I 1 11).toInt ∧ (I 1 11).toInt ≤ 200; exact hH.2)⟩ a1 _) (cwV 1 hts gX11_remains_X2_has rfl rfl rfl hy_X2_has ⟨Nat.le_of_ble_eq_true rfl, Nat.le_of_ble_eq_true rfl⟩) (z_preV (i := 1) hK hW rfl rfl) rfl rfl hl.1 rfl (lv_room (Nat.le_of_ble_eq_true rfl)) dX11_remains_5 ⟨Nat.le_of_ble_eq_true rfl, Nat.le_of_ble_eq_true rfl⟩) (fun r u1 H locs hp hW hS => ?_)
  obtain ⟨e9, hp⟩ := hp
  rw [e9] at hW
  rcases hp with ⟨rfl, h1, h2⟩ | rfl
  · refine lv_if_eq (tgt := 35) hx hb dX11_remains_8 (by decide) (fun c3 => absurd c3 (by decide)) (fun c3 => ?_)
    refine lv_aload_n hx hb dX11_remains_11 rfl (lv_at hl 0 rfl) ?_
    refine z_get (T := TX11) (N := 13) (ci := 11) (i := 0) (v := .ref (ad 72)) hx hb hts zj_X11_remains_X11 hown hK hW rfl rfl 12 (by decide) (hts (.fieldLink RX11 75 "PetrolBoard" "deal" "LPetrolBoard$Deal;") (me_s (me_l (me_l (me_l (List.mem_of_getElem? (i := 1) rfl)))))) (fun _ h => h) rfl dX11_remains_12 ?_
    refine lv_iload_n hx hb dX11_remains_15 rfl (lv_at hl 1 rfl) ?_
    refine z_ci hW hS hA (va_runV (As := [.int a1]) (rest := []) ⟨hx, hb, hml, hown, hts⟩ (sx_X1_unitsOf l G ad c I (by show 0 ≤ (I 72 2).toInt ∧ (I 72 2).toInt ≤ 30; exact hD) a1 _) (cwV 1 hts gX11_remains_X1_unitsOf rfl rfl rfl hy_X1_unitsOf ⟨Nat.le_of_ble_eq_true rfl, Nat.le_of_ble_eq_true rfl⟩) (z_preV (i := 72) hK hW rfl rfl) rfl rfl hl.1 rfl (lv_room (Nat.le_of_ble_eq_true rfl)) dX11_remains_16 ⟨Nat.le_of_ble_eq_true rfl, Nat.le_of_ble_eq_true rfl⟩) (fun r u1 H locs hp hW hS => ?_)
    rw [hp] at hW
    refine lv_topi (fun x4 ex4 => ?_)
    refine lv_aload_n hx hb dX11_remains_19 rfl (lv_at hl 0 rfl) ?_
    refine z_get (T := TX11) (N := 13) (ci := 11) (i := 0) (v := .ref (ad 1)) hx hb hts zj_X11_remains_X11 hown hK hW rfl rfl 2 (by decide) (hts (.fieldLink RX11 16 "PetrolBoard" "holders" "LPetrolBoard$Holders;") (me_s (me_l (me_l (me_l (List.mem_of_getElem? (i := 0) rfl)))))) (fun _ h => h) rfl dX11_remains_20 ?_
    refine z_get (T := TX2) (N := 12) (ci := 2) (i := 1) (v := .ref (ad 6)) hx hb hts zj_X11_remains_X2 hown hK hW rfl rfl 4 (by decide) (hts (.fieldLink RX11 374 "PetrolBoard$Holders" "need" "[I") (me_s (me_l (me_l (me_l (List.mem_of_getElem? (i := 2) rfl)))))) (fun _ h => h) rfl dX11_remains_23 ?_
    refine lv_iload_n hx hb dX11_remains_26 rfl (lv_at hl 1 rfl) ?_
    refine z_iald (i := 6) hx hb hK hW rfl (z_ix rfl (by omega) (by omega)) dX11_remains_27 ?_
    refine lv_topi (fun x5 ex5 => ?_)
    refine lv_icmp_lt (tgt := 35) hx hb dX11_remains_28 (by decide) (fun c6 => ?_) (fun c6 => ?_)
    · have g7 := z_f_lt rfl rfl c6
      have b8 := Int32.toInt_lt x4
      have b9 := Int32.toInt_lt x5
      refine lv_iconst (v := 0) hx hb dX11_remains_35 (by decide) ?_
      exact z_zret hx hb hr (by decide) hK hS (Nat.le_of_ble_eq_true rfl) (Nat.le_of_ble_eq_true rfl) hlocks dX11_remains_36 (shC c, ad, I, JX, PC c ad) hW ⟨rfl, Or.inr rfl⟩
    · have g10 := z_f_nlt rfl rfl c6
      have b11 := Int32.toInt_lt x4
      have b12 := Int32.toInt_lt x5
      refine lv_iconst (v := 1) hx hb dX11_remains_31 (by decide) ?_
      refine lv_goto (tgt := 36) hx hb dX11_remains_32 (by decide) ?_
      exact z_zret hx hb hr (by decide) hK hS (Nat.le_of_ble_eq_true rfl) (Nat.le_of_ble_eq_true rfl) hlocks dX11_remains_36 (shC c, ad, I, JX, PC c ad) hW ⟨rfl, Or.inl rfl⟩
  · refine lv_if_eq (tgt := 35) hx hb dX11_remains_8 (by decide) (fun c13 => ?_) (fun c13 => absurd (by decide) c13)
    refine lv_iconst (v := 0) hx hb dX11_remains_35 (by decide) ?_
    exact z_zret hx hb hr (by decide) hK hS (Nat.le_of_ble_eq_true rfl) (Nat.le_of_ble_eq_true rfl) hlocks dX11_remains_36 (shC c, ad, I, JX, PC c ad) hW ⟨rfl, Or.inr rfl⟩
noncomputable def L_X11_dealOut : z_L := [(72, 2), (73, 999), (74, 999), (24, 999), (25, 999)]
theorem zj_X11_dealOut_X2 : ∀ w ∈ wsX20, w ∈ wsX11_dealOut := fun w h => (List.mem_cons_of_mem _ (List.mem_append_left _ (List.mem_append_left _ (List.mem_append_left _ (List.mem_append_left _ (List.mem_append_right _ h))))))
theorem zj_X11_dealOut_X11 : ∀ w ∈ wsX110, w ∈ wsX11_dealOut := fun w h => (List.mem_cons_of_mem _ (List.mem_append_left _ (List.mem_append_left _ (List.mem_append_left _ (List.mem_append_left _ (List.mem_append_left _ (List.mem_append_right _ h)))))))
set_option maxHeartbeats 8000000 in
set_option maxRecDepth 100000 in
theorem sx_X11_dealOut (l : Launch) (G : z_G) (ad : Nat → Nat) (c : z_C) (I : z_I) (hH : z_iH I) (hD : z_iD I) (hO : z_iO I) (hB : z_iB I) (a1 : Int32) (a2 : Int32) (hc : z_okc c) (h10 : c.1 ≤ 10) : z_Mv l yX11_dealOut wsX11_dealOut { frames := 6, cells := 0, slots := 0, locals := 160 } [.ref (ad 0), .int a1, .int a2] G (shC c, ad, I, JX, PC c ad) (fun u1 => ∃ I1 : z_I, u1 = (shC c, ad, I1, JX, PC c ad) ∧ z_iH I1 ∧ z_iD I1 ∧ z_iO I1 ∧ z_iB I1 ∧ z_fr L_X11_dealOut I1 I) 0 0 := by
  intro sz
  refine z_headQ (cc := cX11_dealOut) (maxL := 4) (ret := none) (by decide) rfl (Nat.le_of_ble_eq_true rfl) ?_
  intro p e s m below meth c0 ls hIn hK hsz hW hl
  obtain ⟨hx, hb, hr, hml, hown, hts, hlocks, hname⟩ := hIn
  subst hsz
  have hown : s.vm.findClass RX11 = some m.cls := hown
  have hA : ∀ q : Nat, s.heap.size ≤ q → z_A (shC c, ad, I, JX, PC c ad) s.heap.size q := fun q h => Or.inr h
  generalize hAe : z_A (shC c, ad, I, JX, PC c ad) s.heap.size = A at *
  have hS : va_S A s.heap s.heap [] := va_S.rf
  have hl : lv_has ls 4 [(0, .ref (ad 0)), (1, .int a1), (2, .int a2)] := hl
  refine lv_aload_n hx hb dX11_dealOut_0 rfl (lv_at hl 0 rfl) ?_
  refine z_get (T := TX11) (N := 13) (ci := 11) (i := 0) (v := .ref (ad 72)) hx hb hts zj_X11_dealOut_X11 hown hK hW rfl rfl 12 (by decide) (hts (.fieldLink RX11 75 "PetrolBoard" "deal" "LPetrolBoard$Deal;") (me_s (me_l (me_l (me_l (me_l (me_l (me_l (me_l (List.mem_of_getElem? (i := 0) rfl)))))))))) (fun _ h => h) rfl dX11_dealOut_1 ?_
  refine z_cv hW hS hA (va_runV (As := []) (rest := []) ⟨hx, hb, hml, hown, hts⟩ (sx_X1_clear l G ad c I (by show 0 ≤ (I 72 2).toInt ∧ (I 72 2).toInt ≤ 30; exact hD)  _) (cwV 0 hts gX11_dealOut_X1_clear rfl rfl rfl hy_X1_clear ⟨Nat.le_of_ble_eq_true rfl, Nat.le_of_ble_eq_true rfl⟩) (z_preV (i := 72) hK hW rfl rfl) rfl rfl hl.1 rfl (lv_room (Nat.le_of_ble_eq_true rfl)) dX11_dealOut_4 ⟨Nat.le_of_ble_eq_true rfl, Nat.le_of_ble_eq_true rfl⟩) (fun u1 H locs hp hW hS => ?_)
  obtain ⟨I1, e9, hI1D, fI1⟩ := hp
  rw [e9] at hW
  have f2 := z_fr_sub (L := L_X11_dealOut) z_fr_0 fI1 (by decide)
  have k3 : 0 ≤ (I1 1 5).toInt ∧ (I1 1 5).toInt ≤ 30 := by rw [fI1 1 5 (by decide)]; exact (by show 0 ≤ (I 1 5).toInt ∧ (I 1 5).toInt ≤ 30; exact hH.1)
  have k4 : 0 ≤ (I1 1 11).toInt ∧ (I1 1 11).toInt ≤ 200 := by rw [fI1 1 11 (by decide)]; exact (by show 0 ≤ (I 1 11).toInt ∧ (I 1 11).toInt ≤ 200; exact hH.2)
  have k5 : 0 ≤ (I1 21 2).toInt ∧ (I1 21 2).toInt ≤ 12 := by rw [fI1 21 2 (by decide)]; exact (by show 0 ≤ (I 21 2).toInt ∧ (I 21 2).toInt ≤ 12; exact hO)
  have k6 : 0 ≤ (I1 0 0).toInt ∧ (I1 0 0).toInt ≤ 719 := by rw [fI1 0 0 (by decide)]; exact (by show 0 ≤ (I 0 0).toInt ∧ (I 0 0).toInt ≤ 719; exact hB.1)
  have k7 : 0 ≤ (I1 0 8).toInt ∧ (I1 0 8).toInt ≤ 10 := by rw [fI1 0 8 (by decide)]; exact (by show 0 ≤ (I 0 8).toInt ∧ (I 0 8).toInt ≤ 10; exact hB.2)
  refine lv_iconst (v := 0) hx hb dX11_dealOut_7 (by decide) ?_
  refine lv_istore_n (lv' := [(3, .int 0), (0, .ref (ad 0)), (1, .int a1), (2, .int a2)]) hx hb dX11_dealOut_8 rfl hl (by decide) rfl (fun ls hl => ?_)
  have lp8 : ∀ (f : Nat) (y9 : Int32) (I10 : z_I) (H : Heap) (locs : List Loc) (ls : Array Slot), (2147483647 < y9.toInt + (f : Int)) → (0 ≤ y9.toInt) → (z_iH I10) → (z_iD I10) → (z_iO I10) → (z_iB I10) → (z_fr L_X11_dealOut I10 I) → z_W G A (shC c, ad, I10, JX, PC c ad) H → va_S A s.heap H locs → lv_has ls 4 [(3, .int y9), (0, .ref (ad 0)), (1, .int a1), (2, .int a2)] → W p l e (headSpec wsX11_dealOut { frames := 6, cells := 0, slots := 0, locals := 160 }).room s m ([.ref (ad 0), .int a1, .int a2] : List Value).toArray below meth c0 H locs 0 0 (MQ below (va_Qv (fun (u1 : z_U) => ∃ I1 : z_I, u1 = (shC c, ad, I1, JX, PC c ad) ∧ z_iH I1 ∧ z_iD I1 ∧ z_iO I1 ∧ z_iB I1 ∧ z_fr L_X11_dealOut I1 I) (z_B G A) A) ([.ref (ad 0), .int a1, .int a2] : List Value).toArray s 0 0 A) (F0 m 9 ls []) := by
    intro f
    induction f with
    | zero => intro y9 I10  H locs ls lp8m lp8l3 lp8H lp8D lp8O lp8B lp8fr hW hS hl; exact absurd lp8m (by have := Int32.toInt_lt y9; have := Int32.le_toInt y9; omega)
    | succ f lp8ih =>
      intro y9 I10  H locs ls lp8m lp8l3 lp8H lp8D lp8O lp8B lp8fr hW hS hl
      refine lv_iload_n hx hb dX11_dealOut_9 rfl (lv_at hl 0 rfl) ?_
      refine lv_aload_n hx hb dX11_dealOut_10 rfl (lv_at hl 1 rfl) ?_
      refine z_get (T := TX11) (N := 13) (ci := 11) (i := 0) (v := .ref (ad 1)) hx hb hts zj_X11_dealOut_X11 hown hK hW rfl rfl 2 (by decide) (hts (.fieldLink RX11 16 "PetrolBoard" "holders" "LPetrolBoard$Holders;") (me_s (me_l (me_l (me_l (me_l (me_l (me_l (me_l (List.mem_of_getElem? (i := 1) rfl)))))))))) (fun _ h => h) rfl dX11_dealOut_11 ?_
      have r11 : 0 ≤ (I10 1 5).toInt ∧ (I10 1 5).toInt ≤ 30 := lp8H.1
      refine z_get (T := TX2) (N := 12) (ci := 2) (i := 1) (v := .int (I10 1 5)) hx hb hts zj_X11_dealOut_X2 hown hK hW rfl rfl 5 (by decide) (hts (.fieldLink RX11 373 "PetrolBoard$Holders" "number" "I") (me_s (me_l (me_l (me_l (me_l (me_l (me_l (me_l (List.mem_of_getElem? (i := 2) rfl)))))))))) (fun _ h => h) rfl dX11_dealOut_14 ?_
      refine lv_icmp_ge (tgt := 50) hx hb dX11_dealOut_17 (by decide) (fun c12 => ?_) (fun c12 => ?_)
      · have g13 := z_f_ge rfl rfl c12
        have b14 := Int32.toInt_lt y9
        refine lv_iload_n hx hb dX11_dealOut_50 rfl (lv_at hl 2 rfl) ?_
        refine lv_iconst (v := 1) hx hb dX11_dealOut_51 (by decide) ?_
        refine lv_icmp_ne (tgt := 65) hx hb dX11_dealOut_52 (by decide) (fun c15 => ?_) (fun c15 => ?_)
        · have g16 := z_f_ne rfl z_l1 c15
          have b17 := Int32.toInt_lt a1
          refine lv_iload_n hx hb dX11_dealOut_65 rfl (lv_at hl 2 rfl) ?_
          refine lv_iconst (v := 2) hx hb dX11_dealOut_66 (by decide) ?_
          refine lv_icmp_ne (tgt := 81) hx hb dX11_dealOut_67 (by decide) (fun c18 => ?_) (fun c18 => ?_)
          · have g19 := z_f_ne rfl z_l2 c18
            exact z_vret hx hb hr hK hS (Nat.le_of_ble_eq_true rfl) (Nat.le_of_ble_eq_true rfl) hlocks dX11_dealOut_81 (shC c, ad, I10, JX, PC c ad) hW ⟨I10, rfl, ⟨(by show 0 ≤ (I10 1 5).toInt ∧ (I10 1 5).toInt ≤ 30; exact lp8H.1), (by show 0 ≤ (I10 1 11).toInt ∧ (I10 1 11).toInt ≤ 200; exact lp8H.2)⟩, (by show 0 ≤ (I10 72 2).toInt ∧ (I10 72 2).toInt ≤ 30; exact lp8D), (by show 0 ≤ (I10 21 2).toInt ∧ (I10 21 2).toInt ≤ 12; exact lp8O), ⟨(by show 0 ≤ (I10 0 0).toInt ∧ (I10 0 0).toInt ≤ 719; exact lp8B.1), (by show 0 ≤ (I10 0 8).toInt ∧ (I10 0 8).toInt ≤ 10; exact lp8B.2)⟩, lp8fr⟩
          · have g20 := z_f_eq rfl z_l2 c18
            refine lv_aload_n hx hb dX11_dealOut_70 rfl (lv_at hl 1 rfl) ?_
            refine z_get (T := TX11) (N := 13) (ci := 11) (i := 0) (v := .ref (ad 72)) hx hb hts zj_X11_dealOut_X11 hown hK hW rfl rfl 12 (by decide) (hts (.fieldLink RX11 75 "PetrolBoard" "deal" "LPetrolBoard$Deal;") (me_s (me_l (me_l (me_l (me_l (me_l (me_l (me_l (List.mem_of_getElem? (i := 0) rfl)))))))))) (fun _ h => h) rfl dX11_dealOut_71 ?_
            refine lv_aload_n hx hb dX11_dealOut_74 rfl (lv_at hl 1 rfl) ?_
            refine z_get (T := TX11) (N := 13) (ci := 11) (i := 0) (v := .ref (ad 1)) hx hb hts zj_X11_dealOut_X11 hown hK hW rfl rfl 2 (by decide) (hts (.fieldLink RX11 16 "PetrolBoard" "holders" "LPetrolBoard$Holders;") (me_s (me_l (me_l (me_l (me_l (me_l (me_l (me_l (List.mem_of_getElem? (i := 1) rfl)))))))))) (fun _ h => h) rfl dX11_dealOut_75 ?_
            refine z_cv hW hS hA (va_runV (As := [.ref (ad 1)]) (rest := []) ⟨hx, hb, hml, hown, hts⟩ (sx_X1_sell l G ad c I10 (by show 0 ≤ (I10 72 2).toInt ∧ (I10 72 2).toInt ≤ 30; exact lp8D) ⟨(by show 0 ≤ (I10 1 5).toInt ∧ (I10 1 5).toInt ≤ 30; exact lp8H.1), (by show 0 ≤ (I10 1 11).toInt ∧ (I10 1 11).toInt ≤ 200; exact lp8H.2)⟩  _) (cwV 1 hts gX11_dealOut_X1_sell rfl rfl rfl hy_X1_sell ⟨Nat.le_of_ble_eq_true rfl, Nat.le_of_ble_eq_true rfl⟩) (z_preV (i := 72) hK hW rfl rfl) rfl rfl hl.1 rfl (lv_room (Nat.le_of_ble_eq_true rfl)) dX11_dealOut_78 ⟨Nat.le_of_ble_eq_true rfl, Nat.le_of_ble_eq_true rfl⟩) (fun u1 H locs hp hW hS => ?_)
            obtain ⟨I21, e9, hI21D, hI21H, fI21⟩ := hp
            rw [e9] at hW
            have f22 := z_fr_sub (L := L_X11_dealOut) lp8fr fI21 (by decide)
            have k23 : 0 ≤ (I21 21 2).toInt ∧ (I21 21 2).toInt ≤ 12 := by rw [fI21 21 2 (by decide)]; exact (by show 0 ≤ (I10 21 2).toInt ∧ (I10 21 2).toInt ≤ 12; exact lp8O)
            have k24 : 0 ≤ (I21 0 0).toInt ∧ (I21 0 0).toInt ≤ 719 := by rw [fI21 0 0 (by decide)]; exact (by show 0 ≤ (I10 0 0).toInt ∧ (I10 0 0).toInt ≤ 719; exact lp8B.1)
            have k25 : 0 ≤ (I21 0 8).toInt ∧ (I21 0 8).toInt ≤ 10 := by rw [fI21 0 8 (by decide)]; exact (by show 0 ≤ (I10 0 8).toInt ∧ (I10 0 8).toInt ≤ 10; exact lp8B.2)
            exact z_vret hx hb hr hK hS (Nat.le_of_ble_eq_true rfl) (Nat.le_of_ble_eq_true rfl) hlocks dX11_dealOut_81 (shC c, ad, I21, JX, PC c ad) hW ⟨I21, rfl, ⟨(by show 0 ≤ (I21 1 5).toInt ∧ (I21 1 5).toInt ≤ 30; exact hI21H.1), (by show 0 ≤ (I21 1 11).toInt ∧ (I21 1 11).toInt ≤ 200; exact hI21H.2)⟩, (by show 0 ≤ (I21 72 2).toInt ∧ (I21 72 2).toInt ≤ 30; exact hI21D), (by show 0 ≤ (I21 21 2).toInt ∧ (I21 21 2).toInt ≤ 12; exact k23), ⟨(by show 0 ≤ (I21 0 0).toInt ∧ (I21 0 0).toInt ≤ 719; exact k24), (by show 0 ≤ (I21 0 8).toInt ∧ (I21 0 8).toInt ≤ 10; exact k25)⟩, f22⟩
        · have g26 := z_f_eq rfl z_l1 c15
          have b27 := Int32.toInt_lt a1
          refine lv_aload_n hx hb dX11_dealOut_55 rfl (lv_at hl 1 rfl) ?_
          refine z_get (T := TX11) (N := 13) (ci := 11) (i := 0) (v := .ref (ad 72)) hx hb hts zj_X11_dealOut_X11 hown hK hW rfl rfl 12 (by decide) (hts (.fieldLink RX11 75 "PetrolBoard" "deal" "LPetrolBoard$Deal;") (me_s (me_l (me_l (me_l (me_l (me_l (me_l (me_l (List.mem_of_getElem? (i := 0) rfl)))))))))) (fun _ h => h) rfl dX11_dealOut_56 ?_
          refine z_cv hW hS hA (va_runV (As := []) (rest := []) ⟨hx, hb, hml, hown, hts⟩ (sx_X1_alike l G ad c I10 (by show 0 ≤ (I10 72 2).toInt ∧ (I10 72 2).toInt ≤ 30; exact lp8D)  _) (cwV 0 hts gX11_dealOut_X1_alike rfl rfl rfl hy_X1_alike ⟨Nat.le_of_ble_eq_true rfl, Nat.le_of_ble_eq_true rfl⟩) (z_preV (i := 72) hK hW rfl rfl) rfl rfl hl.1 rfl (lv_room (Nat.le_of_ble_eq_true rfl)) dX11_dealOut_59 ⟨Nat.le_of_ble_eq_true rfl, Nat.le_of_ble_eq_true rfl⟩) (fun u1 H locs hp hW hS => ?_)
          obtain ⟨I28, e9, hI28D, fI28⟩ := hp
          rw [e9] at hW
          have f29 := z_fr_sub (L := L_X11_dealOut) lp8fr fI28 (by decide)
          have k30 : 0 ≤ (I28 1 5).toInt ∧ (I28 1 5).toInt ≤ 30 := by rw [fI28 1 5 (by decide)]; exact (by show 0 ≤ (I10 1 5).toInt ∧ (I10 1 5).toInt ≤ 30; exact lp8H.1)
          have k31 : 0 ≤ (I28 1 11).toInt ∧ (I28 1 11).toInt ≤ 200 := by rw [fI28 1 11 (by decide)]; exact (by show 0 ≤ (I10 1 11).toInt ∧ (I10 1 11).toInt ≤ 200; exact lp8H.2)
          have k32 : 0 ≤ (I28 21 2).toInt ∧ (I28 21 2).toInt ≤ 12 := by rw [fI28 21 2 (by decide)]; exact (by show 0 ≤ (I10 21 2).toInt ∧ (I10 21 2).toInt ≤ 12; exact lp8O)
          have k33 : 0 ≤ (I28 0 0).toInt ∧ (I28 0 0).toInt ≤ 719 := by rw [fI28 0 0 (by decide)]; exact (by show 0 ≤ (I10 0 0).toInt ∧ (I10 0 0).toInt ≤ 719; exact lp8B.1)
          have k34 : 0 ≤ (I28 0 8).toInt ∧ (I28 0 8).toInt ≤ 10 := by rw [fI28 0 8 (by decide)]; exact (by show 0 ≤ (I10 0 8).toInt ∧ (I10 0 8).toInt ≤ 10; exact lp8B.2)
          refine lv_goto (tgt := 81) hx hb dX11_dealOut_62 (by decide) ?_
          exact z_vret hx hb hr hK hS (Nat.le_of_ble_eq_true rfl) (Nat.le_of_ble_eq_true rfl) hlocks dX11_dealOut_81 (shC c, ad, I28, JX, PC c ad) hW ⟨I28, rfl, ⟨(by show 0 ≤ (I28 1 5).toInt ∧ (I28 1 5).toInt ≤ 30; exact k30), (by show 0 ≤ (I28 1 11).toInt ∧ (I28 1 11).toInt ≤ 200; exact k31)⟩, (by show 0 ≤ (I28 72 2).toInt ∧ (I28 72 2).toInt ≤ 30; exact hI28D), (by show 0 ≤ (I28 21 2).toInt ∧ (I28 21 2).toInt ≤ 12; exact k32), ⟨(by show 0 ≤ (I28 0 0).toInt ∧ (I28 0 0).toInt ≤ 719; exact k33), (by show 0 ≤ (I28 0 8).toInt ∧ (I28 0 8).toInt ≤ 10; exact k34)⟩, f29⟩
      · have g35 := z_f_nge rfl rfl c12
        have b36 := Int32.toInt_lt y9
        refine lv_aload_n hx hb dX11_dealOut_20 rfl (lv_at hl 1 rfl) ?_
        refine z_get (T := TX11) (N := 13) (ci := 11) (i := 0) (v := .ref (ad 72)) hx hb hts zj_X11_dealOut_X11 hown hK hW rfl rfl 12 (by decide) (hts (.fieldLink RX11 75 "PetrolBoard" "deal" "LPetrolBoard$Deal;") (me_s (me_l (me_l (me_l (me_l (me_l (me_l (me_l (List.mem_of_getElem? (i := 0) rfl)))))))))) (fun _ h => h) rfl dX11_dealOut_21 ?_
        refine lv_aload_n hx hb dX11_dealOut_24 rfl (lv_at hl 1 rfl) ?_
        refine z_get (T := TX11) (N := 13) (ci := 11) (i := 0) (v := .ref (ad 21)) hx hb hts zj_X11_dealOut_X11 hown hK hW rfl rfl 4 (by decide) (hts (.fieldLink RX11 30 "PetrolBoard" "orderBook" "LPetrolBoard$OrderBook;") (me_s (me_l (me_l (me_l (me_l (me_l (me_l (me_l (List.mem_of_getElem? (i := 3) rfl)))))))))) (fun _ h => h) rfl dX11_dealOut_25 ?_
        refine lv_aload_n hx hb dX11_dealOut_28 rfl (lv_at hl 1 rfl) ?_
        refine z_get (T := TX11) (N := 13) (ci := 11) (i := 0) (v := .ref (ad 1)) hx hb hts zj_X11_dealOut_X11 hown hK hW rfl rfl 2 (by decide) (hts (.fieldLink RX11 16 "PetrolBoard" "holders" "LPetrolBoard$Holders;") (me_s (me_l (me_l (me_l (me_l (me_l (me_l (me_l (List.mem_of_getElem? (i := 1) rfl)))))))))) (fun _ h => h) rfl dX11_dealOut_29 ?_
        refine lv_iload_n hx hb dX11_dealOut_32 rfl (lv_at hl 0 rfl) ?_
        refine lv_iload_n hx hb dX11_dealOut_33 rfl (lv_at hl 3 rfl) ?_
        refine lv_aload_n hx hb dX11_dealOut_34 rfl (lv_at hl 1 rfl) ?_
        have r37 : 0 ≤ (I10 0 0).toInt ∧ (I10 0 0).toInt ≤ 719 := lp8B.1
        refine z_get (T := TX11) (N := 13) (ci := 11) (i := 0) (v := .int (I10 0 0)) hx hb hts zj_X11_dealOut_X11 hown hK hW rfl rfl 0 (by decide) (hts (.fieldLink RX11 85 "PetrolBoard" "today" "I") (me_s (me_l (me_l (me_l (me_l (me_l (me_l (me_l (List.mem_of_getElem? (i := 4) rfl)))))))))) (fun _ h => h) rfl dX11_dealOut_35 ?_
        refine z_ci hW hS hA (va_runV (As := [.ref (ad 1), .int y9, .int a2, .int (I10 0 0)]) (rest := [.ref (ad 72)]) ⟨hx, hb, hml, hown, hts⟩ (sx_X6_unitsOf l G ad c I10 (by show 0 ≤ (I10 21 2).toInt ∧ (I10 21 2).toInt ≤ 12; exact lp8O) ⟨(by show 0 ≤ (I10 1 5).toInt ∧ (I10 1 5).toInt ≤ 30; exact lp8H.1), (by show 0 ≤ (I10 1 11).toInt ∧ (I10 1 11).toInt ≤ 200; exact lp8H.2)⟩ y9 a2 (I10 0 0) hc _) (cwV 4 hts gX11_dealOut_X6_unitsOf rfl rfl rfl hy_X6_unitsOf ⟨Nat.le_of_ble_eq_true rfl, Nat.le_of_ble_eq_true rfl⟩) (z_preV (i := 21) hK hW rfl rfl) rfl rfl hl.1 rfl (lv_room (Nat.le_of_ble_eq_true rfl)) dX11_dealOut_38 ⟨Nat.le_of_ble_eq_true rfl, Nat.le_of_ble_eq_true rfl⟩) (fun r u1 H locs hp hW hS => ?_)
        obtain ⟨I38, e9, hI38O, hI38H, fI38⟩ := hp
        rw [e9] at hW
        have f39 := z_fr_sub (L := L_X11_dealOut) lp8fr fI38 (by decide)
        have k40 : 0 ≤ (I38 72 2).toInt ∧ (I38 72 2).toInt ≤ 30 := by rw [fI38 72 2 (by decide)]; exact (by show 0 ≤ (I10 72 2).toInt ∧ (I10 72 2).toInt ≤ 30; exact lp8D)
        have k41 : 0 ≤ (I38 0 0).toInt ∧ (I38 0 0).toInt ≤ 719 := by rw [fI38 0 0 (by decide)]; exact (by show 0 ≤ (I10 0 0).toInt ∧ (I10 0 0).toInt ≤ 719; exact lp8B.1)
        have k42 : 0 ≤ (I38 0 8).toInt ∧ (I38 0 8).toInt ≤ 10 := by rw [fI38 0 8 (by decide)]; exact (by show 0 ≤ (I10 0 8).toInt ∧ (I10 0 8).toInt ≤ 10; exact lp8B.2)
        refine lv_topi (fun x43 ex43 => ?_)
        refine z_cv hW hS hA (va_runV (As := [.int x43]) (rest := []) ⟨hx, hb, hml, hown, hts⟩ (sx_X1_put l G ad c I38 (by show 0 ≤ (I38 72 2).toInt ∧ (I38 72 2).toInt ≤ 30; exact k40) x43 _) (cwV 1 hts gX11_dealOut_X1_put rfl rfl rfl hy_X1_put ⟨Nat.le_of_ble_eq_true rfl, Nat.le_of_ble_eq_true rfl⟩) (z_preV (i := 72) hK hW rfl rfl) rfl rfl hl.1 rfl (lv_room (Nat.le_of_ble_eq_true rfl)) dX11_dealOut_41 ⟨Nat.le_of_ble_eq_true rfl, Nat.le_of_ble_eq_true rfl⟩) (fun u1 H locs hp hW hS => ?_)
        obtain ⟨I44, e9, hI44D, fI44⟩ := hp
        rw [e9] at hW
        have f45 := z_fr_sub (L := L_X11_dealOut) f39 fI44 (by decide)
        have k46 : 0 ≤ (I44 1 5).toInt ∧ (I44 1 5).toInt ≤ 30 := by rw [fI44 1 5 (by decide)]; exact (by show 0 ≤ (I38 1 5).toInt ∧ (I38 1 5).toInt ≤ 30; exact hI38H.1)
        have k47 : 0 ≤ (I44 1 11).toInt ∧ (I44 1 11).toInt ≤ 200 := by rw [fI44 1 11 (by decide)]; exact (by show 0 ≤ (I38 1 11).toInt ∧ (I38 1 11).toInt ≤ 200; exact hI38H.2)
        have k48 : 0 ≤ (I44 21 2).toInt ∧ (I44 21 2).toInt ≤ 12 := by rw [fI44 21 2 (by decide)]; exact (by show 0 ≤ (I38 21 2).toInt ∧ (I38 21 2).toInt ≤ 12; exact hI38O)
        have k49 : 0 ≤ (I44 0 0).toInt ∧ (I44 0 0).toInt ≤ 719 := by rw [fI44 0 0 (by decide)]; exact (by show 0 ≤ (I38 0 0).toInt ∧ (I38 0 0).toInt ≤ 719; exact k41)
        have k50 : 0 ≤ (I44 0 8).toInt ∧ (I44 0 8).toInt ≤ 10 := by rw [fI44 0 8 (by decide)]; exact (by show 0 ≤ (I38 0 8).toInt ∧ (I38 0 8).toInt ≤ 10; exact k42)
        obtain ⟨x51, ex51⟩ : ∃ y : Int32, y = y9 + 1 := ⟨_, rfl⟩
        have tx51 : x51.toInt = y9.toInt + 1 := z_tadd ex51 rfl z_l1 (by omega) (by omega)
        refine lv_iinc (v := x51) (lv' := [(3, .int x51), (0, .ref (ad 0)), (1, .int a1), (2, .int a2)]) hx hb dX11_dealOut_44 hl (k := 0) rfl (by rw [ex51]; rfl) (by decide) rfl (fun ls hl => ?_)
        refine lv_goto (tgt := 9) hx hb dX11_dealOut_47 (by decide) ?_
        exact lp8ih x51 I44  _ _ _ (by omega) (by omega) ⟨(by show 0 ≤ (I44 1 5).toInt ∧ (I44 1 5).toInt ≤ 30; exact k46), (by show 0 ≤ (I44 1 11).toInt ∧ (I44 1 11).toInt ≤ 200; exact k47)⟩ (by show 0 ≤ (I44 72 2).toInt ∧ (I44 72 2).toInt ≤ 30; exact hI44D) (by show 0 ≤ (I44 21 2).toInt ∧ (I44 21 2).toInt ≤ 12; exact k48) ⟨(by show 0 ≤ (I44 0 0).toInt ∧ (I44 0 0).toInt ≤ 719; exact k49), (by show 0 ≤ (I44 0 8).toInt ∧ (I44 0 8).toInt ≤ 10; exact k50)⟩ f45 hW hS (lv_sub hl [0, 1, 2, 3] rfl)
  exact lp8 4294967296 (0) I1  _ _ _ (z_m0u _) (by rw [z_l0]; omega) ⟨(by show 0 ≤ (I1 1 5).toInt ∧ (I1 1 5).toInt ≤ 30; exact k3), (by show 0 ≤ (I1 1 11).toInt ∧ (I1 1 11).toInt ≤ 200; exact k4)⟩ (by show 0 ≤ (I1 72 2).toInt ∧ (I1 72 2).toInt ≤ 30; exact hI1D) (by show 0 ≤ (I1 21 2).toInt ∧ (I1 21 2).toInt ≤ 12; exact k5) ⟨(by show 0 ≤ (I1 0 0).toInt ∧ (I1 0 0).toInt ≤ 719; exact k6), (by show 0 ≤ (I1 0 8).toInt ∧ (I1 0 8).toInt ≤ 10; exact k7)⟩ f2 hW hS (lv_sub hl [0, 1, 2, 3] rfl)
noncomputable def L_X11_other : z_L := [(72, 2), (73, 999), (74, 999), (24, 999), (25, 999)]
theorem zj_X11_other_X11 : ∀ w ∈ wsX110, w ∈ wsX11_other := fun w h => (List.mem_cons_of_mem _ (List.mem_append_left _ (List.mem_append_left _ (List.mem_append_left _ (List.mem_append_left _ (List.mem_append_left _ (List.mem_append_right _ h)))))))
set_option maxHeartbeats 8000000 in
set_option maxRecDepth 100000 in
theorem sx_X11_other (l : Launch) (G : z_G) (ad : Nat → Nat) (c : z_C) (I : z_I) (hH : z_iH I) (hD : z_iD I) (hO : z_iO I) (hB : z_iB I) (a1 : Int32) (a2 : Int32) (a3 : Int32) (a4 : Int32) (hc : z_okc c) (h10 : c.1 ≤ 10) : z_M l yX11_other wsX11_other { frames := 7, cells := 0, slots := 0, locals := 183 } [.ref (ad 0), .int a1, .int a2, .int a3, .int a4] G (shC c, ad, I, JX, PC c ad) (fun r u1 => ∃ I1 : z_I, u1 = (shC c, ad, I1, JX, PC c ad) ∧ z_iH I1 ∧ z_iD I1 ∧ z_iO I1 ∧ z_iB I1 ∧ z_fr L_X11_other I1 I) 0 0 := by
  intro sz
  refine z_headQ (cc := cX11_other) (maxL := 5) (ret := (some .int)) (by decide) rfl (Nat.le_of_ble_eq_true rfl) ?_
  intro p e s m below meth c0 ls hIn hK hsz hW hl
  obtain ⟨hx, hb, hr, hml, hown, hts, hlocks, hname⟩ := hIn
  subst hsz
  have hown : s.vm.findClass RX11 = some m.cls := hown
  have hA : ∀ q : Nat, s.heap.size ≤ q → z_A (shC c, ad, I, JX, PC c ad) s.heap.size q := fun q h => Or.inr h
  generalize hAe : z_A (shC c, ad, I, JX, PC c ad) s.heap.size = A at *
  have hS : va_S A s.heap s.heap [] := va_S.rf
  have hl : lv_has ls 5 [(0, .ref (ad 0)), (1, .int a1), (2, .int a2), (3, .int a3), (4, .int a4)] := hl
  refine lv_iload_n hx hb dX11_other_0 rfl (lv_at hl 1 rfl) ?_
  refine lv_iconst (v := 0) hx hb dX11_other_1 (by decide) ?_
  refine lv_iconst (v := 2) hx hb dX11_other_2 (by decide) ?_
  refine z_ci hW hS hA (va_runS (As := [.int a1, .int 0, .int 2]) (rest := []) ⟨hx, hb, hml, hown, hts⟩ (sx_X11_within l G ad c I  a1 0 2 _) (va_cwS 3 hts gX11_other_X11_within rfl rfl rfl hy_X11_within.2 ⟨Nat.le_of_ble_eq_true rfl, Nat.le_of_ble_eq_true rfl⟩) (z_preS hK hW) rfl rfl hl.1 rfl (lv_room (Nat.le_of_ble_eq_true rfl)) dX11_other_3 ⟨Nat.le_of_ble_eq_true rfl, Nat.le_of_ble_eq_true rfl⟩) (fun r u1 H locs hp hW hS => ?_)
  obtain ⟨e9, hp⟩ := hp
  rw [e9] at hW
  rcases hp with ⟨rfl, h1, h2⟩ | rfl
  · have h1 := z_t_le z_l0 rfl h1
    have h2 := z_t_le rfl z_l2 h2
    refine lv_if_eq (tgt := 37) hx hb dX11_other_6 (by decide) (fun c3 => absurd c3 (by decide)) (fun c3 => ?_)
    refine lv_iload_n hx hb dX11_other_9 rfl (lv_at hl 2 rfl) ?_
    refine z_ci hW hS hA (va_runS (As := [.int a2]) (rest := []) ⟨hx, hb, hml, hown, hts⟩ (sx_X11_isMonth l G ad c I  a2 _) (va_cwS 1 hts gX11_other_X11_isMonth rfl rfl rfl hy_X11_isMonth.2 ⟨Nat.le_of_ble_eq_true rfl, Nat.le_of_ble_eq_true rfl⟩) (z_preS hK hW) rfl rfl hl.1 rfl (lv_room (Nat.le_of_ble_eq_true rfl)) dX11_other_10 ⟨Nat.le_of_ble_eq_true rfl, Nat.le_of_ble_eq_true rfl⟩) (fun r u1 H locs hp hW hS => ?_)
    obtain ⟨e9, hp⟩ := hp
    rw [e9] at hW
    rcases hp with ⟨rfl, h4, h5⟩ | rfl
    · refine lv_if_eq (tgt := 37) hx hb dX11_other_13 (by decide) (fun c6 => absurd c6 (by decide)) (fun c6 => ?_)
      refine lv_aload_n hx hb dX11_other_16 rfl (lv_at hl 0 rfl) ?_
      refine z_get (T := TX11) (N := 13) (ci := 11) (i := 0) (v := .ref (ad 1)) hx hb hts zj_X11_other_X11 hown hK hW rfl rfl 2 (by decide) (hts (.fieldLink RX11 16 "PetrolBoard" "holders" "LPetrolBoard$Holders;") (me_s (me_l (me_l (me_l (me_l (me_l (me_l (me_l (List.mem_of_getElem? (i := 0) rfl)))))))))) (fun _ h => h) rfl dX11_other_17 ?_
      refine lv_iload_n hx hb dX11_other_20 rfl (lv_at hl 3 rfl) ?_
      refine z_ci hW hS hA (va_runV (As := [.int a3]) (rest := []) ⟨hx, hb, hml, hown, hts⟩ (sx_X2_has l G ad c I ⟨(by show 0 ≤ (I 1 5).toInt ∧ (I 1 5).toInt ≤ 30; exact hH.1), (by show 0 ≤ (I 1 11).toInt ∧ (I 1 11).toInt ≤ 200; exact hH.2)⟩ a3 _) (cwV 1 hts gX11_other_X2_has rfl rfl rfl hy_X2_has ⟨Nat.le_of_ble_eq_true rfl, Nat.le_of_ble_eq_true rfl⟩) (z_preV (i := 1) hK hW rfl rfl) rfl rfl hl.1 rfl (lv_room (Nat.le_of_ble_eq_true rfl)) dX11_other_21 ⟨Nat.le_of_ble_eq_true rfl, Nat.le_of_ble_eq_true rfl⟩) (fun r u1 H locs hp hW hS => ?_)
      obtain ⟨e9, hp⟩ := hp
      rw [e9] at hW
      rcases hp with ⟨rfl, h7, h8⟩ | rfl
      · refine lv_if_eq (tgt := 37) hx hb dX11_other_24 (by decide) (fun c9 => absurd c9 (by decide)) (fun c9 => ?_)
        refine lv_iload hx hb dX11_other_27 (lv_at hl 4 rfl) ?_
        refine lv_iconst (v := 0) hx hb dX11_other_29 (by decide) ?_
        refine lv_iconst (v := 1) hx hb dX11_other_30 (by decide) ?_
        refine z_ci hW hS hA (va_runS (As := [.int a4, .int 0, .int 1]) (rest := []) ⟨hx, hb, hml, hown, hts⟩ (sx_X11_within l G ad c I  a4 0 1 _) (va_cwS 3 hts gX11_other_X11_within rfl rfl rfl hy_X11_within.2 ⟨Nat.le_of_ble_eq_true rfl, Nat.le_of_ble_eq_true rfl⟩) (z_preS hK hW) rfl rfl hl.1 rfl (lv_room (Nat.le_of_ble_eq_true rfl)) dX11_other_31 ⟨Nat.le_of_ble_eq_true rfl, Nat.le_of_ble_eq_true rfl⟩) (fun r u1 H locs hp hW hS => ?_)
        obtain ⟨e9, hp⟩ := hp
        rw [e9] at hW
        rcases hp with ⟨rfl, h11, h12⟩ | rfl
        · have h11 := z_t_le z_l0 rfl h11
          have h12 := z_t_le rfl z_l1 h12
          refine lv_if_ne (tgt := 39) hx hb dX11_other_34 (by decide) (fun c13 => ?_) (fun c13 => absurd c13 (by decide))
          refine lv_aload_n hx hb dX11_other_39 rfl (lv_at hl 0 rfl) ?_
          refine lv_iload_n hx hb dX11_other_40 rfl (lv_at hl 1 rfl) ?_
          refine lv_iload_n hx hb dX11_other_41 rfl (lv_at hl 2 rfl) ?_
          refine z_cv hW hS hA (va_runV (As := [.int a1, .int a2]) (rest := []) ⟨hx, hb, hml, hown, hts⟩ (sx_X11_dealOut l G ad c I ⟨(by show 0 ≤ (I 1 5).toInt ∧ (I 1 5).toInt ≤ 30; exact hH.1), (by show 0 ≤ (I 1 11).toInt ∧ (I 1 11).toInt ≤ 200; exact hH.2)⟩ (by show 0 ≤ (I 72 2).toInt ∧ (I 72 2).toInt ≤ 30; exact hD) (by show 0 ≤ (I 21 2).toInt ∧ (I 21 2).toInt ≤ 12; exact hO) ⟨(by show 0 ≤ (I 0 0).toInt ∧ (I 0 0).toInt ≤ 719; exact hB.1), (by show 0 ≤ (I 0 8).toInt ∧ (I 0 8).toInt ≤ 10; exact hB.2)⟩ a1 a2 hc h10 _) (cwV 2 hts gX11_other_X11_dealOut rfl rfl rfl hy_X11_dealOut ⟨Nat.le_of_ble_eq_true rfl, Nat.le_of_ble_eq_true rfl⟩) (z_preV (i := 0) hK hW rfl rfl) rfl rfl hl.1 rfl (lv_room (Nat.le_of_ble_eq_true rfl)) dX11_other_42 ⟨Nat.le_of_ble_eq_true rfl, Nat.le_of_ble_eq_true rfl⟩) (fun u1 H locs hp hW hS => ?_)
          obtain ⟨I14, e9, hI14H, hI14D, hI14O, hI14B, fI14⟩ := hp
          rw [e9] at hW
          have f15 := z_fr_sub (L := L_X11_other) z_fr_0 fI14 (by decide)
          refine lv_iload hx hb dX11_other_45 (lv_at hl 4 rfl) ?_
          refine lv_if_ne (tgt := 61) hx hb dX11_other_47 (by decide) (fun c16 => ?_) (fun c16 => ?_)
          · have g17 := z_f_ne rfl z_l0 c16
            refine lv_aload_n hx hb dX11_other_61 rfl (lv_at hl 0 rfl) ?_
            refine lv_iload_n hx hb dX11_other_62 rfl (lv_at hl 3 rfl) ?_
            refine z_ci hW hS hA (va_runV (As := [.int a3]) (rest := []) ⟨hx, hb, hml, hown, hts⟩ (sx_X11_remains l G ad c I14 ⟨(by show 0 ≤ (I14 1 5).toInt ∧ (I14 1 5).toInt ≤ 30; exact hI14H.1), (by show 0 ≤ (I14 1 11).toInt ∧ (I14 1 11).toInt ≤ 200; exact hI14H.2)⟩ (by show 0 ≤ (I14 72 2).toInt ∧ (I14 72 2).toInt ≤ 30; exact hI14D) a3 hc h10 _) (cwV 1 hts gX11_other_X11_remains rfl rfl rfl hy_X11_remains ⟨Nat.le_of_ble_eq_true rfl, Nat.le_of_ble_eq_true rfl⟩) (z_preV (i := 0) hK hW rfl rfl) rfl rfl hl.1 rfl (lv_room (Nat.le_of_ble_eq_true rfl)) dX11_other_63 ⟨Nat.le_of_ble_eq_true rfl, Nat.le_of_ble_eq_true rfl⟩) (fun r u1 H locs hp hW hS => ?_)
            obtain ⟨e9, hp⟩ := hp
            rw [e9] at hW
            rcases hp with rfl | rfl
            · refine lv_if_eq (tgt := 73) hx hb dX11_other_66 (by decide) (fun c18 => absurd c18 (by decide)) (fun c18 => ?_)
              refine lv_iconst (v := 1) hx hb dX11_other_69 (by decide) ?_
              refine lv_goto (tgt := 74) hx hb dX11_other_70 (by decide) ?_
              exact z_iret hx hb hr hK hS (Nat.le_of_ble_eq_true rfl) (Nat.le_of_ble_eq_true rfl) hlocks dX11_other_74 (shC c, ad, I14, JX, PC c ad) hW ⟨I14, rfl, ⟨(by show 0 ≤ (I14 1 5).toInt ∧ (I14 1 5).toInt ≤ 30; exact hI14H.1), (by show 0 ≤ (I14 1 11).toInt ∧ (I14 1 11).toInt ≤ 200; exact hI14H.2)⟩, (by show 0 ≤ (I14 72 2).toInt ∧ (I14 72 2).toInt ≤ 30; exact hI14D), (by show 0 ≤ (I14 21 2).toInt ∧ (I14 21 2).toInt ≤ 12; exact hI14O), ⟨(by show 0 ≤ (I14 0 0).toInt ∧ (I14 0 0).toInt ≤ 719; exact hI14B.1), (by show 0 ≤ (I14 0 8).toInt ∧ (I14 0 8).toInt ≤ 10; exact hI14B.2)⟩, f15⟩
            · refine lv_if_eq (tgt := 73) hx hb dX11_other_66 (by decide) (fun c19 => ?_) (fun c19 => absurd (by decide) c19)
              refine lv_iconst (v := 0) hx hb dX11_other_73 (by decide) ?_
              exact z_iret hx hb hr hK hS (Nat.le_of_ble_eq_true rfl) (Nat.le_of_ble_eq_true rfl) hlocks dX11_other_74 (shC c, ad, I14, JX, PC c ad) hW ⟨I14, rfl, ⟨(by show 0 ≤ (I14 1 5).toInt ∧ (I14 1 5).toInt ≤ 30; exact hI14H.1), (by show 0 ≤ (I14 1 11).toInt ∧ (I14 1 11).toInt ≤ 200; exact hI14H.2)⟩, (by show 0 ≤ (I14 72 2).toInt ∧ (I14 72 2).toInt ≤ 30; exact hI14D), (by show 0 ≤ (I14 21 2).toInt ∧ (I14 21 2).toInt ≤ 12; exact hI14O), ⟨(by show 0 ≤ (I14 0 0).toInt ∧ (I14 0 0).toInt ≤ 719; exact hI14B.1), (by show 0 ≤ (I14 0 8).toInt ∧ (I14 0 8).toInt ≤ 10; exact hI14B.2)⟩, f15⟩
          · have g20 := z_f_eq rfl z_l0 c16
            refine lv_aload_n hx hb dX11_other_50 rfl (lv_at hl 0 rfl) ?_
            refine z_get (T := TX11) (N := 13) (ci := 11) (i := 0) (v := .ref (ad 72)) hx hb hts zj_X11_other_X11 hown hK hW rfl rfl 12 (by decide) (hts (.fieldLink RX11 75 "PetrolBoard" "deal" "LPetrolBoard$Deal;") (me_s (me_l (me_l (me_l (me_l (me_l (me_l (me_l (List.mem_of_getElem? (i := 1) rfl)))))))))) (fun _ h => h) rfl dX11_other_51 ?_
            refine lv_iload_n hx hb dX11_other_54 rfl (lv_at hl 3 rfl) ?_
            refine z_ci hW hS hA (va_runV (As := [.int a3]) (rest := []) ⟨hx, hb, hml, hown, hts⟩ (sx_X1_unitsOf l G ad c I14 (by show 0 ≤ (I14 72 2).toInt ∧ (I14 72 2).toInt ≤ 30; exact hI14D) a3 _) (cwV 1 hts gX11_other_X1_unitsOf rfl rfl rfl hy_X1_unitsOf ⟨Nat.le_of_ble_eq_true rfl, Nat.le_of_ble_eq_true rfl⟩) (z_preV (i := 72) hK hW rfl rfl) rfl rfl hl.1 rfl (lv_room (Nat.le_of_ble_eq_true rfl)) dX11_other_55 ⟨Nat.le_of_ble_eq_true rfl, Nat.le_of_ble_eq_true rfl⟩) (fun r u1 H locs hp hW hS => ?_)
            rw [hp] at hW
            refine lv_topi (fun x21 ex21 => ?_)
            refine lv_goto (tgt := 74) hx hb dX11_other_58 (by decide) ?_
            exact z_iret hx hb hr hK hS (Nat.le_of_ble_eq_true rfl) (Nat.le_of_ble_eq_true rfl) hlocks dX11_other_74 (shC c, ad, I14, JX, PC c ad) hW ⟨I14, rfl, ⟨(by show 0 ≤ (I14 1 5).toInt ∧ (I14 1 5).toInt ≤ 30; exact hI14H.1), (by show 0 ≤ (I14 1 11).toInt ∧ (I14 1 11).toInt ≤ 200; exact hI14H.2)⟩, (by show 0 ≤ (I14 72 2).toInt ∧ (I14 72 2).toInt ≤ 30; exact hI14D), (by show 0 ≤ (I14 21 2).toInt ∧ (I14 21 2).toInt ≤ 12; exact hI14O), ⟨(by show 0 ≤ (I14 0 0).toInt ∧ (I14 0 0).toInt ≤ 719; exact hI14B.1), (by show 0 ≤ (I14 0 8).toInt ∧ (I14 0 8).toInt ≤ 10; exact hI14B.2)⟩, f15⟩
        · refine lv_if_ne (tgt := 39) hx hb dX11_other_34 (by decide) (fun c22 => absurd (by decide) c22) (fun c22 => ?_)
          refine lv_iconst (v := (-1)) hx hb dX11_other_37 (by decide) ?_
          exact z_iret hx hb hr hK hS (Nat.le_of_ble_eq_true rfl) (Nat.le_of_ble_eq_true rfl) hlocks dX11_other_38 (shC c, ad, I, JX, PC c ad) hW ⟨I, rfl, ⟨(by show 0 ≤ (I 1 5).toInt ∧ (I 1 5).toInt ≤ 30; exact hH.1), (by show 0 ≤ (I 1 11).toInt ∧ (I 1 11).toInt ≤ 200; exact hH.2)⟩, (by show 0 ≤ (I 72 2).toInt ∧ (I 72 2).toInt ≤ 30; exact hD), (by show 0 ≤ (I 21 2).toInt ∧ (I 21 2).toInt ≤ 12; exact hO), ⟨(by show 0 ≤ (I 0 0).toInt ∧ (I 0 0).toInt ≤ 719; exact hB.1), (by show 0 ≤ (I 0 8).toInt ∧ (I 0 8).toInt ≤ 10; exact hB.2)⟩, z_fr_0⟩
      · refine lv_if_eq (tgt := 37) hx hb dX11_other_24 (by decide) (fun c23 => ?_) (fun c23 => absurd (by decide) c23)
        refine lv_iconst (v := (-1)) hx hb dX11_other_37 (by decide) ?_
        exact z_iret hx hb hr hK hS (Nat.le_of_ble_eq_true rfl) (Nat.le_of_ble_eq_true rfl) hlocks dX11_other_38 (shC c, ad, I, JX, PC c ad) hW ⟨I, rfl, ⟨(by show 0 ≤ (I 1 5).toInt ∧ (I 1 5).toInt ≤ 30; exact hH.1), (by show 0 ≤ (I 1 11).toInt ∧ (I 1 11).toInt ≤ 200; exact hH.2)⟩, (by show 0 ≤ (I 72 2).toInt ∧ (I 72 2).toInt ≤ 30; exact hD), (by show 0 ≤ (I 21 2).toInt ∧ (I 21 2).toInt ≤ 12; exact hO), ⟨(by show 0 ≤ (I 0 0).toInt ∧ (I 0 0).toInt ≤ 719; exact hB.1), (by show 0 ≤ (I 0 8).toInt ∧ (I 0 8).toInt ≤ 10; exact hB.2)⟩, z_fr_0⟩
    · refine lv_if_eq (tgt := 37) hx hb dX11_other_13 (by decide) (fun c24 => ?_) (fun c24 => absurd (by decide) c24)
      refine lv_iconst (v := (-1)) hx hb dX11_other_37 (by decide) ?_
      exact z_iret hx hb hr hK hS (Nat.le_of_ble_eq_true rfl) (Nat.le_of_ble_eq_true rfl) hlocks dX11_other_38 (shC c, ad, I, JX, PC c ad) hW ⟨I, rfl, ⟨(by show 0 ≤ (I 1 5).toInt ∧ (I 1 5).toInt ≤ 30; exact hH.1), (by show 0 ≤ (I 1 11).toInt ∧ (I 1 11).toInt ≤ 200; exact hH.2)⟩, (by show 0 ≤ (I 72 2).toInt ∧ (I 72 2).toInt ≤ 30; exact hD), (by show 0 ≤ (I 21 2).toInt ∧ (I 21 2).toInt ≤ 12; exact hO), ⟨(by show 0 ≤ (I 0 0).toInt ∧ (I 0 0).toInt ≤ 719; exact hB.1), (by show 0 ≤ (I 0 8).toInt ∧ (I 0 8).toInt ≤ 10; exact hB.2)⟩, z_fr_0⟩
  · refine lv_if_eq (tgt := 37) hx hb dX11_other_6 (by decide) (fun c25 => ?_) (fun c25 => absurd (by decide) c25)
    refine lv_iconst (v := (-1)) hx hb dX11_other_37 (by decide) ?_
    exact z_iret hx hb hr hK hS (Nat.le_of_ble_eq_true rfl) (Nat.le_of_ble_eq_true rfl) hlocks dX11_other_38 (shC c, ad, I, JX, PC c ad) hW ⟨I, rfl, ⟨(by show 0 ≤ (I 1 5).toInt ∧ (I 1 5).toInt ≤ 30; exact hH.1), (by show 0 ≤ (I 1 11).toInt ∧ (I 1 11).toInt ≤ 200; exact hH.2)⟩, (by show 0 ≤ (I 72 2).toInt ∧ (I 72 2).toInt ≤ 30; exact hD), (by show 0 ≤ (I 21 2).toInt ∧ (I 21 2).toInt ≤ 12; exact hO), ⟨(by show 0 ≤ (I 0 0).toInt ∧ (I 0 0).toInt ≤ 719; exact hB.1), (by show 0 ≤ (I 0 8).toInt ∧ (I 0 8).toInt ≤ 10; exact hB.2)⟩, z_fr_0⟩
noncomputable def L_X11_stays : z_L := [(72, 2), (73, 999), (74, 999), (24, 999), (25, 999)]
theorem zj_X11_stays_X2 : ∀ w ∈ wsX20, w ∈ wsX11_stays := fun w h => (List.mem_cons_of_mem _ (List.mem_append_left _ (List.mem_append_left _ (List.mem_append_left _ (List.mem_append_left _ (List.mem_append_right _ h))))))
theorem zj_X11_stays_X11 : ∀ w ∈ wsX110, w ∈ wsX11_stays := fun w h => (List.mem_cons_of_mem _ (List.mem_append_left _ (List.mem_append_left _ (List.mem_append_left _ (List.mem_append_left _ (List.mem_append_left _ (List.mem_append_right _ h)))))))
set_option maxHeartbeats 8000000 in
set_option maxRecDepth 100000 in
theorem sx_X11_stays (l : Launch) (G : z_G) (ad : Nat → Nat) (c : z_C) (I : z_I) (hH : z_iH I) (hD : z_iD I) (hO : z_iO I) (hB : z_iB I) (a1 : Int32) (a2 : Int32) (hc : z_okc c) (h10 : c.1 ≤ 10) : z_M l yX11_stays wsX11_stays { frames := 7, cells := 0, slots := 0, locals := 183 } [.ref (ad 0), .int a1, .int a2] G (shC c, ad, I, JX, PC c ad) (fun r u1 => ∃ I1 : z_I, u1 = (shC c, ad, I1, JX, PC c ad) ∧ z_iH I1 ∧ z_iD I1 ∧ z_iO I1 ∧ z_iB I1 ∧ z_fr L_X11_stays I1 I) 0 0 := by
  intro sz
  refine z_headQ (cc := cX11_stays) (maxL := 5) (ret := (some .int)) (by decide) rfl (Nat.le_of_ble_eq_true rfl) ?_
  intro p e s m below meth c0 ls hIn hK hsz hW hl
  obtain ⟨hx, hb, hr, hml, hown, hts, hlocks, hname⟩ := hIn
  subst hsz
  have hown : s.vm.findClass RX11 = some m.cls := hown
  have hA : ∀ q : Nat, s.heap.size ≤ q → z_A (shC c, ad, I, JX, PC c ad) s.heap.size q := fun q h => Or.inr h
  generalize hAe : z_A (shC c, ad, I, JX, PC c ad) s.heap.size = A at *
  have hS : va_S A s.heap s.heap [] := va_S.rf
  have hl : lv_has ls 5 [(0, .ref (ad 0)), (1, .int a1), (2, .int a2)] := hl
  refine lv_iload_n hx hb dX11_stays_0 rfl (lv_at hl 1 rfl) ?_
  refine lv_iconst (v := 0) hx hb dX11_stays_1 (by decide) ?_
  refine lv_iconst (v := 2) hx hb dX11_stays_2 (by decide) ?_
  refine z_ci hW hS hA (va_runS (As := [.int a1, .int 0, .int 2]) (rest := []) ⟨hx, hb, hml, hown, hts⟩ (sx_X11_within l G ad c I  a1 0 2 _) (va_cwS 3 hts gX11_stays_X11_within rfl rfl rfl hy_X11_within.2 ⟨Nat.le_of_ble_eq_true rfl, Nat.le_of_ble_eq_true rfl⟩) (z_preS hK hW) rfl rfl hl.1 rfl (lv_room (Nat.le_of_ble_eq_true rfl)) dX11_stays_3 ⟨Nat.le_of_ble_eq_true rfl, Nat.le_of_ble_eq_true rfl⟩) (fun r u1 H locs hp hW hS => ?_)
  obtain ⟨e9, hp⟩ := hp
  rw [e9] at hW
  rcases hp with ⟨rfl, h1, h2⟩ | rfl
  · have h1 := z_t_le z_l0 rfl h1
    have h2 := z_t_le rfl z_l2 h2
    refine lv_if_eq (tgt := 16) hx hb dX11_stays_6 (by decide) (fun c3 => absurd c3 (by decide)) (fun c3 => ?_)
    refine lv_iload_n hx hb dX11_stays_9 rfl (lv_at hl 2 rfl) ?_
    refine z_ci hW hS hA (va_runS (As := [.int a2]) (rest := []) ⟨hx, hb, hml, hown, hts⟩ (sx_X11_isMonth l G ad c I  a2 _) (va_cwS 1 hts gX11_stays_X11_isMonth rfl rfl rfl hy_X11_isMonth.2 ⟨Nat.le_of_ble_eq_true rfl, Nat.le_of_ble_eq_true rfl⟩) (z_preS hK hW) rfl rfl hl.1 rfl (lv_room (Nat.le_of_ble_eq_true rfl)) dX11_stays_10 ⟨Nat.le_of_ble_eq_true rfl, Nat.le_of_ble_eq_true rfl⟩) (fun r u1 H locs hp hW hS => ?_)
    obtain ⟨e9, hp⟩ := hp
    rw [e9] at hW
    rcases hp with ⟨rfl, h4, h5⟩ | rfl
    · refine lv_if_ne (tgt := 18) hx hb dX11_stays_13 (by decide) (fun c6 => ?_) (fun c6 => absurd c6 (by decide))
      refine lv_aload_n hx hb dX11_stays_18 rfl (lv_at hl 0 rfl) ?_
      refine lv_iload_n hx hb dX11_stays_19 rfl (lv_at hl 1 rfl) ?_
      refine lv_iload_n hx hb dX11_stays_20 rfl (lv_at hl 2 rfl) ?_
      refine z_cv hW hS hA (va_runV (As := [.int a1, .int a2]) (rest := []) ⟨hx, hb, hml, hown, hts⟩ (sx_X11_dealOut l G ad c I ⟨(by show 0 ≤ (I 1 5).toInt ∧ (I 1 5).toInt ≤ 30; exact hH.1), (by show 0 ≤ (I 1 11).toInt ∧ (I 1 11).toInt ≤ 200; exact hH.2)⟩ (by show 0 ≤ (I 72 2).toInt ∧ (I 72 2).toInt ≤ 30; exact hD) (by show 0 ≤ (I 21 2).toInt ∧ (I 21 2).toInt ≤ 12; exact hO) ⟨(by show 0 ≤ (I 0 0).toInt ∧ (I 0 0).toInt ≤ 719; exact hB.1), (by show 0 ≤ (I 0 8).toInt ∧ (I 0 8).toInt ≤ 10; exact hB.2)⟩ a1 a2 hc h10 _) (cwV 2 hts gX11_stays_X11_dealOut rfl rfl rfl hy_X11_dealOut ⟨Nat.le_of_ble_eq_true rfl, Nat.le_of_ble_eq_true rfl⟩) (z_preV (i := 0) hK hW rfl rfl) rfl rfl hl.1 rfl (lv_room (Nat.le_of_ble_eq_true rfl)) dX11_stays_21 ⟨Nat.le_of_ble_eq_true rfl, Nat.le_of_ble_eq_true rfl⟩) (fun u1 H locs hp hW hS => ?_)
      obtain ⟨I7, e9, hI7H, hI7D, hI7O, hI7B, fI7⟩ := hp
      rw [e9] at hW
      have f8 := z_fr_sub (L := L_X11_stays) z_fr_0 fI7 (by decide)
      refine lv_iconst (v := 0) hx hb dX11_stays_24 (by decide) ?_
      refine lv_istore_n (lv' := [(3, .int 0), (0, .ref (ad 0)), (1, .int a1), (2, .int a2)]) hx hb dX11_stays_25 rfl hl (by decide) rfl (fun ls hl => ?_)
      refine lv_iconst (v := 0) hx hb dX11_stays_26 (by decide) ?_
      refine lv_istore (lv' := [(4, .int 0), (3, .int 0), (0, .ref (ad 0)), (1, .int a1), (2, .int a2)]) hx hb dX11_stays_27 hl (by decide) rfl (fun ls hl => ?_)
      have lp9 : ∀ (f : Nat) (y10 : Int32) (y11 : Int32) (H : Heap) (locs : List Loc) (ls : Array Slot), (2147483647 < y10.toInt + (f : Int)) → (0 ≤ y10.toInt) → z_W G A (shC c, ad, I7, JX, PC c ad) H → va_S A s.heap H locs → lv_has ls 5 [(4, .int y10), (3, .int y11), (0, .ref (ad 0)), (1, .int a1), (2, .int a2)] → W p l e (headSpec wsX11_stays { frames := 7, cells := 0, slots := 0, locals := 183 }).room s m ([.ref (ad 0), .int a1, .int a2] : List Value).toArray below meth c0 H locs 0 0 (MQ below (va_Qi (fun (r : Int32) (u1 : z_U) => ∃ I1 : z_I, u1 = (shC c, ad, I1, JX, PC c ad) ∧ z_iH I1 ∧ z_iD I1 ∧ z_iO I1 ∧ z_iB I1 ∧ z_fr L_X11_stays I1 I) (z_B G A) A) ([.ref (ad 0), .int a1, .int a2] : List Value).toArray s 0 0 A) (F0 m 29 ls []) := by
        intro f
        induction f with
        | zero => intro y10 y11 H locs ls lp9m lp9l4 hW hS hl; exact absurd lp9m (by have := Int32.toInt_lt y10; have := Int32.le_toInt y10; omega)
        | succ f lp9ih =>
          intro y10 y11 H locs ls lp9m lp9l4 hW hS hl
          refine lv_iload hx hb dX11_stays_29 (lv_at hl 0 rfl) ?_
          refine lv_aload_n hx hb dX11_stays_31 rfl (lv_at hl 2 rfl) ?_
          refine z_get (T := TX11) (N := 13) (ci := 11) (i := 0) (v := .ref (ad 1)) hx hb hts zj_X11_stays_X11 hown hK hW rfl rfl 2 (by decide) (hts (.fieldLink RX11 16 "PetrolBoard" "holders" "LPetrolBoard$Holders;") (me_s (me_l (me_l (me_l (me_l (me_l (me_l (me_l (List.mem_of_getElem? (i := 0) rfl)))))))))) (fun _ h => h) rfl dX11_stays_32 ?_
          have r12 : 0 ≤ (I7 1 5).toInt ∧ (I7 1 5).toInt ≤ 30 := hI7H.1
          refine z_get (T := TX2) (N := 12) (ci := 2) (i := 1) (v := .int (I7 1 5)) hx hb hts zj_X11_stays_X2 hown hK hW rfl rfl 5 (by decide) (hts (.fieldLink RX11 373 "PetrolBoard$Holders" "number" "I") (me_s (me_l (me_l (me_l (me_l (me_l (me_l (me_l (List.mem_of_getElem? (i := 1) rfl)))))))))) (fun _ h => h) rfl dX11_stays_35 ?_
          refine lv_icmp_ge (tgt := 64) hx hb dX11_stays_38 (by decide) (fun c13 => ?_) (fun c13 => ?_)
          · have g14 := z_f_ge rfl rfl c13
            have b15 := Int32.toInt_lt y10
            refine lv_iload_n hx hb dX11_stays_64 rfl (lv_at hl 1 rfl) ?_
            exact z_iret hx hb hr hK hS (Nat.le_of_ble_eq_true rfl) (Nat.le_of_ble_eq_true rfl) hlocks dX11_stays_65 (shC c, ad, I7, JX, PC c ad) hW ⟨I7, rfl, ⟨(by show 0 ≤ (I7 1 5).toInt ∧ (I7 1 5).toInt ≤ 30; exact hI7H.1), (by show 0 ≤ (I7 1 11).toInt ∧ (I7 1 11).toInt ≤ 200; exact hI7H.2)⟩, (by show 0 ≤ (I7 72 2).toInt ∧ (I7 72 2).toInt ≤ 30; exact hI7D), (by show 0 ≤ (I7 21 2).toInt ∧ (I7 21 2).toInt ≤ 12; exact hI7O), ⟨(by show 0 ≤ (I7 0 0).toInt ∧ (I7 0 0).toInt ≤ 719; exact hI7B.1), (by show 0 ≤ (I7 0 8).toInt ∧ (I7 0 8).toInt ≤ 10; exact hI7B.2)⟩, f8⟩
          · have g16 := z_f_nge rfl rfl c13
            have b17 := Int32.toInt_lt y10
            refine lv_iload_n hx hb dX11_stays_41 rfl (lv_at hl 1 rfl) ?_
            refine lv_aload_n hx hb dX11_stays_42 rfl (lv_at hl 2 rfl) ?_
            refine lv_iload hx hb dX11_stays_43 (lv_at hl 0 rfl) ?_
            refine z_ci hW hS hA (va_runV (As := [.int y10]) (rest := [.int y11]) ⟨hx, hb, hml, hown, hts⟩ (sx_X11_remains l G ad c I7 ⟨(by show 0 ≤ (I7 1 5).toInt ∧ (I7 1 5).toInt ≤ 30; exact hI7H.1), (by show 0 ≤ (I7 1 11).toInt ∧ (I7 1 11).toInt ≤ 200; exact hI7H.2)⟩ (by show 0 ≤ (I7 72 2).toInt ∧ (I7 72 2).toInt ≤ 30; exact hI7D) y10 hc h10 _) (cwV 1 hts gX11_stays_X11_remains rfl rfl rfl hy_X11_remains ⟨Nat.le_of_ble_eq_true rfl, Nat.le_of_ble_eq_true rfl⟩) (z_preV (i := 0) hK hW rfl rfl) rfl rfl hl.1 rfl (lv_room (Nat.le_of_ble_eq_true rfl)) dX11_stays_45 ⟨Nat.le_of_ble_eq_true rfl, Nat.le_of_ble_eq_true rfl⟩) (fun r u1 H locs hp hW hS => ?_)
            obtain ⟨e9, hp⟩ := hp
            rw [e9] at hW
            rcases hp with rfl | rfl
            · refine lv_if_eq (tgt := 55) hx hb dX11_stays_48 (by decide) (fun c18 => absurd c18 (by decide)) (fun c18 => ?_)
              refine lv_iconst (v := 1) hx hb dX11_stays_51 (by decide) ?_
              refine lv_goto (tgt := 56) hx hb dX11_stays_52 (by decide) ?_
              refine lv_iadd hx hb dX11_stays_56 ?_
              refine lv_topi (fun x19 ex19 => ?_)
              refine lv_istore_n (lv' := [(3, .int x19), (4, .int y10), (0, .ref (ad 0)), (1, .int a1), (2, .int a2)]) hx hb dX11_stays_57 rfl hl (by decide) rfl (fun ls hl => ?_)
              obtain ⟨x20, ex20⟩ : ∃ y : Int32, y = y10 + 1 := ⟨_, rfl⟩
              have tx20 : x20.toInt = y10.toInt + 1 := z_tadd ex20 rfl z_l1 (by omega) (by omega)
              refine lv_iinc (v := x20) (lv' := [(4, .int x20), (3, .int x19), (0, .ref (ad 0)), (1, .int a1), (2, .int a2)]) hx hb dX11_stays_58 hl (k := 1) rfl (by rw [ex20]; rfl) (by decide) rfl (fun ls hl => ?_)
              refine lv_goto (tgt := 29) hx hb dX11_stays_61 (by decide) ?_
              exact lp9ih x20 x19 _ _ _ (by omega) (by omega) hW hS (lv_sub hl [0, 1, 2, 3, 4] rfl)
            · refine lv_if_eq (tgt := 55) hx hb dX11_stays_48 (by decide) (fun c21 => ?_) (fun c21 => absurd (by decide) c21)
              refine lv_iconst (v := 0) hx hb dX11_stays_55 (by decide) ?_
              refine lv_iadd hx hb dX11_stays_56 ?_
              refine lv_topi (fun x22 ex22 => ?_)
              have tx22 : x22.toInt = y11.toInt + 0 := z_tadd ex22 rfl z_l0 (by have := Int32.le_toInt y11; have := Int32.toInt_lt y11; omega) (by have := Int32.le_toInt y11; have := Int32.toInt_lt y11; omega)
              refine lv_istore_n (lv' := [(3, .int x22), (4, .int y10), (0, .ref (ad 0)), (1, .int a1), (2, .int a2)]) hx hb dX11_stays_57 rfl hl (by decide) rfl (fun ls hl => ?_)
              obtain ⟨x23, ex23⟩ : ∃ y : Int32, y = y10 + 1 := ⟨_, rfl⟩
              have tx23 : x23.toInt = y10.toInt + 1 := z_tadd ex23 rfl z_l1 (by omega) (by omega)
              refine lv_iinc (v := x23) (lv' := [(4, .int x23), (3, .int x22), (0, .ref (ad 0)), (1, .int a1), (2, .int a2)]) hx hb dX11_stays_58 hl (k := 1) rfl (by rw [ex23]; rfl) (by decide) rfl (fun ls hl => ?_)
              refine lv_goto (tgt := 29) hx hb dX11_stays_61 (by decide) ?_
              exact lp9ih x23 x22 _ _ _ (by omega) (by omega) hW hS (lv_sub hl [0, 1, 2, 3, 4] rfl)
      exact lp9 4294967296 (0) (0) _ _ _ (z_m0u _) (by rw [z_l0]; omega) hW hS (lv_sub hl [0, 1, 2, 3, 4] rfl)
    · refine lv_if_ne (tgt := 18) hx hb dX11_stays_13 (by decide) (fun c24 => absurd (by decide) c24) (fun c24 => ?_)
      refine lv_iconst (v := (-1)) hx hb dX11_stays_16 (by decide) ?_
      exact z_iret hx hb hr hK hS (Nat.le_of_ble_eq_true rfl) (Nat.le_of_ble_eq_true rfl) hlocks dX11_stays_17 (shC c, ad, I, JX, PC c ad) hW ⟨I, rfl, ⟨(by show 0 ≤ (I 1 5).toInt ∧ (I 1 5).toInt ≤ 30; exact hH.1), (by show 0 ≤ (I 1 11).toInt ∧ (I 1 11).toInt ≤ 200; exact hH.2)⟩, (by show 0 ≤ (I 72 2).toInt ∧ (I 72 2).toInt ≤ 30; exact hD), (by show 0 ≤ (I 21 2).toInt ∧ (I 21 2).toInt ≤ 12; exact hO), ⟨(by show 0 ≤ (I 0 0).toInt ∧ (I 0 0).toInt ≤ 719; exact hB.1), (by show 0 ≤ (I 0 8).toInt ∧ (I 0 8).toInt ≤ 10; exact hB.2)⟩, z_fr_0⟩
  · refine lv_if_eq (tgt := 16) hx hb dX11_stays_6 (by decide) (fun c25 => ?_) (fun c25 => absurd (by decide) c25)
    refine lv_iconst (v := (-1)) hx hb dX11_stays_16 (by decide) ?_
    exact z_iret hx hb hr hK hS (Nat.le_of_ble_eq_true rfl) (Nat.le_of_ble_eq_true rfl) hlocks dX11_stays_17 (shC c, ad, I, JX, PC c ad) hW ⟨I, rfl, ⟨(by show 0 ≤ (I 1 5).toInt ∧ (I 1 5).toInt ≤ 30; exact hH.1), (by show 0 ≤ (I 1 11).toInt ∧ (I 1 11).toInt ≤ 200; exact hH.2)⟩, (by show 0 ≤ (I 72 2).toInt ∧ (I 72 2).toInt ≤ 30; exact hD), (by show 0 ≤ (I 21 2).toInt ∧ (I 21 2).toInt ≤ 12; exact hO), ⟨(by show 0 ≤ (I 0 0).toInt ∧ (I 0 0).toInt ≤ 719; exact hB.1), (by show 0 ≤ (I 0 8).toInt ∧ (I 0 8).toInt ≤ 10; exact hB.2)⟩, z_fr_0⟩
noncomputable def L_X11_unitsTogether : z_L := [(24, 999), (25, 999)]
theorem zj_X11_unitsTogether_X2 : ∀ w ∈ wsX20, w ∈ wsX11_unitsTogether := fun w h => (List.mem_cons_of_mem _ (List.mem_append_left _ (List.mem_append_left _ (List.mem_append_left _ (List.mem_append_right _ h)))))
theorem zj_X11_unitsTogether_X11 : ∀ w ∈ wsX110, w ∈ wsX11_unitsTogether := fun w h => (List.mem_cons_of_mem _ (List.mem_append_left _ (List.mem_append_left _ (List.mem_append_left _ (List.mem_append_left _ (List.mem_append_right _ h))))))
set_option maxHeartbeats 8000000 in
set_option maxRecDepth 100000 in
theorem sx_X11_unitsTogether (l : Launch) (G : z_G) (ad : Nat → Nat) (c : z_C) (I : z_I) (hH : z_iH I) (hO : z_iO I) (hB : z_iB I) (a1 : Int32) (a2 : Int32) (hc : z_okc c) (h10 : c.1 ≤ 10) : z_M l yX11_unitsTogether wsX11_unitsTogether { frames := 6, cells := 0, slots := 0, locals := 160 } [.ref (ad 0), .int a1, .int a2] G (shC c, ad, I, JX, PC c ad) (fun r u1 => ∃ I1 : z_I, u1 = (shC c, ad, I1, JX, PC c ad) ∧ z_iH I1 ∧ z_iO I1 ∧ z_iB I1 ∧ z_fr L_X11_unitsTogether I1 I) 0 0 := by
  intro sz
  refine z_headQ (cc := cX11_unitsTogether) (maxL := 5) (ret := (some .int)) (by decide) rfl (Nat.le_of_ble_eq_true rfl) ?_
  intro p e s m below meth c0 ls hIn hK hsz hW hl
  obtain ⟨hx, hb, hr, hml, hown, hts, hlocks, hname⟩ := hIn
  subst hsz
  have hown : s.vm.findClass RX11 = some m.cls := hown
  have hA : ∀ q : Nat, s.heap.size ≤ q → z_A (shC c, ad, I, JX, PC c ad) s.heap.size q := fun q h => Or.inr h
  generalize hAe : z_A (shC c, ad, I, JX, PC c ad) s.heap.size = A at *
  have hS : va_S A s.heap s.heap [] := va_S.rf
  have hl : lv_has ls 5 [(0, .ref (ad 0)), (1, .int a1), (2, .int a2)] := hl
  refine lv_iconst (v := 0) hx hb dX11_unitsTogether_0 (by decide) ?_
  refine lv_istore_n (lv' := [(3, .int 0), (0, .ref (ad 0)), (1, .int a1), (2, .int a2)]) hx hb dX11_unitsTogether_1 rfl hl (by decide) rfl (fun ls hl => ?_)
  refine lv_iconst (v := 0) hx hb dX11_unitsTogether_2 (by decide) ?_
  refine lv_istore (lv' := [(4, .int 0), (3, .int 0), (0, .ref (ad 0)), (1, .int a1), (2, .int a2)]) hx hb dX11_unitsTogether_3 hl (by decide) rfl (fun ls hl => ?_)
  have lp1 : ∀ (f : Nat) (y2 : Int32) (y3 : Int32) (I4 : z_I) (H : Heap) (locs : List Loc) (ls : Array Slot), (2147483647 < y2.toInt + (f : Int)) → (0 ≤ y2.toInt) → (z_iH I4) → (z_iO I4) → (z_iB I4) → (z_fr L_X11_unitsTogether I4 I) → z_W G A (shC c, ad, I4, JX, PC c ad) H → va_S A s.heap H locs → lv_has ls 5 [(4, .int y2), (3, .int y3), (0, .ref (ad 0)), (1, .int a1), (2, .int a2)] → W p l e (headSpec wsX11_unitsTogether { frames := 6, cells := 0, slots := 0, locals := 160 }).room s m ([.ref (ad 0), .int a1, .int a2] : List Value).toArray below meth c0 H locs 0 0 (MQ below (va_Qi (fun (r : Int32) (u1 : z_U) => ∃ I1 : z_I, u1 = (shC c, ad, I1, JX, PC c ad) ∧ z_iH I1 ∧ z_iO I1 ∧ z_iB I1 ∧ z_fr L_X11_unitsTogether I1 I) (z_B G A) A) ([.ref (ad 0), .int a1, .int a2] : List Value).toArray s 0 0 A) (F0 m 5 ls []) := by
    intro f
    induction f with
    | zero => intro y2 y3 I4  H locs ls lp1m lp1l4 lp1H lp1O lp1B lp1fr hW hS hl; exact absurd lp1m (by have := Int32.toInt_lt y2; have := Int32.le_toInt y2; omega)
    | succ f lp1ih =>
      intro y2 y3 I4  H locs ls lp1m lp1l4 lp1H lp1O lp1B lp1fr hW hS hl
      refine lv_iload hx hb dX11_unitsTogether_5 (lv_at hl 0 rfl) ?_
      refine lv_aload_n hx hb dX11_unitsTogether_7 rfl (lv_at hl 2 rfl) ?_
      refine z_get (T := TX11) (N := 13) (ci := 11) (i := 0) (v := .ref (ad 1)) hx hb hts zj_X11_unitsTogether_X11 hown hK hW rfl rfl 2 (by decide) (hts (.fieldLink RX11 16 "PetrolBoard" "holders" "LPetrolBoard$Holders;") (me_s (me_l (me_l (me_l (me_l (me_l (me_l (List.mem_of_getElem? (i := 0) rfl))))))))) (fun _ h => h) rfl dX11_unitsTogether_8 ?_
      have r5 : 0 ≤ (I4 1 5).toInt ∧ (I4 1 5).toInt ≤ 30 := lp1H.1
      refine z_get (T := TX2) (N := 12) (ci := 2) (i := 1) (v := .int (I4 1 5)) hx hb hts zj_X11_unitsTogether_X2 hown hK hW rfl rfl 5 (by decide) (hts (.fieldLink RX11 373 "PetrolBoard$Holders" "number" "I") (me_s (me_l (me_l (me_l (me_l (me_l (me_l (List.mem_of_getElem? (i := 1) rfl))))))))) (fun _ h => h) rfl dX11_unitsTogether_11 ?_
      refine lv_icmp_ge (tgt := 68) hx hb dX11_unitsTogether_14 (by decide) (fun c6 => ?_) (fun c6 => ?_)
      · have g7 := z_f_ge rfl rfl c6
        have b8 := Int32.toInt_lt y2
        refine lv_iload_n hx hb dX11_unitsTogether_68 rfl (lv_at hl 1 rfl) ?_
        exact z_iret hx hb hr hK hS (Nat.le_of_ble_eq_true rfl) (Nat.le_of_ble_eq_true rfl) hlocks dX11_unitsTogether_69 (shC c, ad, I4, JX, PC c ad) hW ⟨I4, rfl, ⟨(by show 0 ≤ (I4 1 5).toInt ∧ (I4 1 5).toInt ≤ 30; exact lp1H.1), (by show 0 ≤ (I4 1 11).toInt ∧ (I4 1 11).toInt ≤ 200; exact lp1H.2)⟩, (by show 0 ≤ (I4 21 2).toInt ∧ (I4 21 2).toInt ≤ 12; exact lp1O), ⟨(by show 0 ≤ (I4 0 0).toInt ∧ (I4 0 0).toInt ≤ 719; exact lp1B.1), (by show 0 ≤ (I4 0 8).toInt ∧ (I4 0 8).toInt ≤ 10; exact lp1B.2)⟩, lp1fr⟩
      · have g9 := z_f_nge rfl rfl c6
        have b10 := Int32.toInt_lt y2
        refine lv_iload_n hx hb dX11_unitsTogether_17 rfl (lv_at hl 4 rfl) ?_
        refine lv_if_ne (tgt := 41) hx hb dX11_unitsTogether_18 (by decide) (fun c11 => ?_) (fun c11 => ?_)
        · have g12 := z_f_ne rfl z_l0 c11
          have b13 := Int32.toInt_lt a2
          refine lv_iload_n hx hb dX11_unitsTogether_41 rfl (lv_at hl 1 rfl) ?_
          refine lv_aload_n hx hb dX11_unitsTogether_42 rfl (lv_at hl 2 rfl) ?_
          refine z_get (T := TX11) (N := 13) (ci := 11) (i := 0) (v := .ref (ad 21)) hx hb hts zj_X11_unitsTogether_X11 hown hK hW rfl rfl 4 (by decide) (hts (.fieldLink RX11 30 "PetrolBoard" "orderBook" "LPetrolBoard$OrderBook;") (me_s (me_l (me_l (me_l (me_l (me_l (me_l (List.mem_of_getElem? (i := 3) rfl))))))))) (fun _ h => h) rfl dX11_unitsTogether_43 ?_
          refine lv_aload_n hx hb dX11_unitsTogether_46 rfl (lv_at hl 2 rfl) ?_
          refine z_get (T := TX11) (N := 13) (ci := 11) (i := 0) (v := .ref (ad 1)) hx hb hts zj_X11_unitsTogether_X11 hown hK hW rfl rfl 2 (by decide) (hts (.fieldLink RX11 16 "PetrolBoard" "holders" "LPetrolBoard$Holders;") (me_s (me_l (me_l (me_l (me_l (me_l (me_l (List.mem_of_getElem? (i := 0) rfl))))))))) (fun _ h => h) rfl dX11_unitsTogether_47 ?_
          refine lv_iload hx hb dX11_unitsTogether_50 (lv_at hl 0 rfl) ?_
          refine lv_iload_n hx hb dX11_unitsTogether_52 rfl (lv_at hl 3 rfl) ?_
          refine lv_aload_n hx hb dX11_unitsTogether_53 rfl (lv_at hl 2 rfl) ?_
          have r14 : 0 ≤ (I4 0 0).toInt ∧ (I4 0 0).toInt ≤ 719 := lp1B.1
          refine z_get (T := TX11) (N := 13) (ci := 11) (i := 0) (v := .int (I4 0 0)) hx hb hts zj_X11_unitsTogether_X11 hown hK hW rfl rfl 0 (by decide) (hts (.fieldLink RX11 85 "PetrolBoard" "today" "I") (me_s (me_l (me_l (me_l (me_l (me_l (me_l (List.mem_of_getElem? (i := 2) rfl))))))))) (fun _ h => h) rfl dX11_unitsTogether_54 ?_
          refine z_ci hW hS hA (va_runV (As := [.ref (ad 1), .int y2, .int a1, .int (I4 0 0)]) (rest := [.int y3]) ⟨hx, hb, hml, hown, hts⟩ (sx_X6_unitsOf l G ad c I4 (by show 0 ≤ (I4 21 2).toInt ∧ (I4 21 2).toInt ≤ 12; exact lp1O) ⟨(by show 0 ≤ (I4 1 5).toInt ∧ (I4 1 5).toInt ≤ 30; exact lp1H.1), (by show 0 ≤ (I4 1 11).toInt ∧ (I4 1 11).toInt ≤ 200; exact lp1H.2)⟩ y2 a1 (I4 0 0) hc _) (cwV 4 hts gX11_unitsTogether_X6_unitsOf rfl rfl rfl hy_X6_unitsOf ⟨Nat.le_of_ble_eq_true rfl, Nat.le_of_ble_eq_true rfl⟩) (z_preV (i := 21) hK hW rfl rfl) rfl rfl hl.1 rfl (lv_room (Nat.le_of_ble_eq_true rfl)) dX11_unitsTogether_57 ⟨Nat.le_of_ble_eq_true rfl, Nat.le_of_ble_eq_true rfl⟩) (fun r u1 H locs hp hW hS => ?_)
          obtain ⟨I15, e9, hI15O, hI15H, fI15⟩ := hp
          rw [e9] at hW
          have f16 := z_fr_sub (L := L_X11_unitsTogether) lp1fr fI15 (by decide)
          have k17 : 0 ≤ (I15 0 0).toInt ∧ (I15 0 0).toInt ≤ 719 := by rw [fI15 0 0 (by decide)]; exact (by show 0 ≤ (I4 0 0).toInt ∧ (I4 0 0).toInt ≤ 719; exact lp1B.1)
          have k18 : 0 ≤ (I15 0 8).toInt ∧ (I15 0 8).toInt ≤ 10 := by rw [fI15 0 8 (by decide)]; exact (by show 0 ≤ (I4 0 8).toInt ∧ (I4 0 8).toInt ≤ 10; exact lp1B.2)
          refine lv_topi (fun x19 ex19 => ?_)
          refine lv_iadd hx hb dX11_unitsTogether_60 ?_
          refine lv_topi (fun x20 ex20 => ?_)
          refine lv_istore_n (lv' := [(3, .int x20), (4, .int y2), (0, .ref (ad 0)), (1, .int a1), (2, .int a2)]) hx hb dX11_unitsTogether_61 rfl hl (by decide) rfl (fun ls hl => ?_)
          obtain ⟨x21, ex21⟩ : ∃ y : Int32, y = y2 + 1 := ⟨_, rfl⟩
          have tx21 : x21.toInt = y2.toInt + 1 := z_tadd ex21 rfl z_l1 (by omega) (by omega)
          refine lv_iinc (v := x21) (lv' := [(4, .int x21), (3, .int x20), (0, .ref (ad 0)), (1, .int a1), (2, .int a2)]) hx hb dX11_unitsTogether_62 hl (k := 1) rfl (by rw [ex21]; rfl) (by decide) rfl (fun ls hl => ?_)
          refine lv_goto (tgt := 5) hx hb dX11_unitsTogether_65 (by decide) ?_
          exact lp1ih x21 x20 I15  _ _ _ (by omega) (by omega) ⟨(by show 0 ≤ (I15 1 5).toInt ∧ (I15 1 5).toInt ≤ 30; exact hI15H.1), (by show 0 ≤ (I15 1 11).toInt ∧ (I15 1 11).toInt ≤ 200; exact hI15H.2)⟩ (by show 0 ≤ (I15 21 2).toInt ∧ (I15 21 2).toInt ≤ 12; exact hI15O) ⟨(by show 0 ≤ (I15 0 0).toInt ∧ (I15 0 0).toInt ≤ 719; exact k17), (by show 0 ≤ (I15 0 8).toInt ∧ (I15 0 8).toInt ≤ 10; exact k18)⟩ f16 hW hS (lv_sub hl [0, 1, 2, 3, 4] rfl)
        · have g22 := z_f_eq rfl z_l0 c11
          have b23 := Int32.toInt_lt a2
          refine lv_aload_n hx hb dX11_unitsTogether_21 rfl (lv_at hl 2 rfl) ?_
          refine z_get (T := TX11) (N := 13) (ci := 11) (i := 0) (v := .ref (ad 1)) hx hb hts zj_X11_unitsTogether_X11 hown hK hW rfl rfl 2 (by decide) (hts (.fieldLink RX11 16 "PetrolBoard" "holders" "LPetrolBoard$Holders;") (me_s (me_l (me_l (me_l (me_l (me_l (me_l (List.mem_of_getElem? (i := 0) rfl))))))))) (fun _ h => h) rfl dX11_unitsTogether_22 ?_
          refine lv_iload hx hb dX11_unitsTogether_25 (lv_at hl 0 rfl) ?_
          refine lv_iload_n hx hb dX11_unitsTogether_27 rfl (lv_at hl 3 rfl) ?_
          refine lv_bipush (v := 30) hx hb dX11_unitsTogether_28 (by decide) ?_
          refine lv_imul hx hb dX11_unitsTogether_30 ?_
          refine lv_topi (fun x24 ex24 => ?_)
          refine lv_aload_n hx hb dX11_unitsTogether_31 rfl (lv_at hl 2 rfl) ?_
          have r25 : 0 ≤ (I4 0 0).toInt ∧ (I4 0 0).toInt ≤ 719 := lp1B.1
          refine z_get (T := TX11) (N := 13) (ci := 11) (i := 0) (v := .int (I4 0 0)) hx hb hts zj_X11_unitsTogether_X11 hown hK hW rfl rfl 0 (by decide) (hts (.fieldLink RX11 85 "PetrolBoard" "today" "I") (me_s (me_l (me_l (me_l (me_l (me_l (me_l (List.mem_of_getElem? (i := 2) rfl))))))))) (fun _ h => h) rfl dX11_unitsTogether_32 ?_
          refine z_ci hW hS hA (va_runV (As := [.int y2, .int x24, .int (I4 0 0)]) (rest := []) ⟨hx, hb, hml, hown, hts⟩ (sx_X2_kindOn l G ad c I4 ⟨(by show 0 ≤ (I4 1 5).toInt ∧ (I4 1 5).toInt ≤ 30; exact lp1H.1), (by show 0 ≤ (I4 1 11).toInt ∧ (I4 1 11).toInt ≤ 200; exact lp1H.2)⟩ y2 x24 (I4 0 0) _) (cwV 3 hts gX11_unitsTogether_X2_kindOn rfl rfl rfl hy_X2_kindOn ⟨Nat.le_of_ble_eq_true rfl, Nat.le_of_ble_eq_true rfl⟩) (z_preV (i := 1) hK hW rfl rfl) rfl rfl hl.1 rfl (lv_room (Nat.le_of_ble_eq_true rfl)) dX11_unitsTogether_35 ⟨Nat.le_of_ble_eq_true rfl, Nat.le_of_ble_eq_true rfl⟩) (fun r u1 H locs hp hW hS => ?_)
          rw [hp] at hW
          refine lv_topi (fun x26 ex26 => ?_)
          refine lv_if_eq (tgt := 62) hx hb dX11_unitsTogether_38 (by decide) (fun c27 => ?_) (fun c27 => ?_)
          · have g28 := z_f_eq rfl z_l0 c27
            have b29 := Int32.toInt_lt x26
            obtain ⟨x30, ex30⟩ : ∃ y : Int32, y = y2 + 1 := ⟨_, rfl⟩
            have tx30 : x30.toInt = y2.toInt + 1 := z_tadd ex30 rfl z_l1 (by omega) (by omega)
            refine lv_iinc (v := x30) (lv' := [(4, .int x30), (3, .int y3), (0, .ref (ad 0)), (1, .int a1), (2, .int a2)]) hx hb dX11_unitsTogether_62 hl (k := 0) rfl (by rw [ex30]; rfl) (by decide) rfl (fun ls hl => ?_)
            refine lv_goto (tgt := 5) hx hb dX11_unitsTogether_65 (by decide) ?_
            exact lp1ih x30 y3 I4  _ _ _ (by omega) (by omega) ⟨(by show 0 ≤ (I4 1 5).toInt ∧ (I4 1 5).toInt ≤ 30; exact lp1H.1), (by show 0 ≤ (I4 1 11).toInt ∧ (I4 1 11).toInt ≤ 200; exact lp1H.2)⟩ (by show 0 ≤ (I4 21 2).toInt ∧ (I4 21 2).toInt ≤ 12; exact lp1O) ⟨(by show 0 ≤ (I4 0 0).toInt ∧ (I4 0 0).toInt ≤ 719; exact lp1B.1), (by show 0 ≤ (I4 0 8).toInt ∧ (I4 0 8).toInt ≤ 10; exact lp1B.2)⟩ lp1fr hW hS (lv_sub hl [0, 1, 2, 3, 4] rfl)
          · have g31 := z_f_ne rfl z_l0 c27
            have b32 := Int32.toInt_lt x26
            refine lv_iload_n hx hb dX11_unitsTogether_41 rfl (lv_at hl 1 rfl) ?_
            refine lv_aload_n hx hb dX11_unitsTogether_42 rfl (lv_at hl 2 rfl) ?_
            refine z_get (T := TX11) (N := 13) (ci := 11) (i := 0) (v := .ref (ad 21)) hx hb hts zj_X11_unitsTogether_X11 hown hK hW rfl rfl 4 (by decide) (hts (.fieldLink RX11 30 "PetrolBoard" "orderBook" "LPetrolBoard$OrderBook;") (me_s (me_l (me_l (me_l (me_l (me_l (me_l (List.mem_of_getElem? (i := 3) rfl))))))))) (fun _ h => h) rfl dX11_unitsTogether_43 ?_
            refine lv_aload_n hx hb dX11_unitsTogether_46 rfl (lv_at hl 2 rfl) ?_
            refine z_get (T := TX11) (N := 13) (ci := 11) (i := 0) (v := .ref (ad 1)) hx hb hts zj_X11_unitsTogether_X11 hown hK hW rfl rfl 2 (by decide) (hts (.fieldLink RX11 16 "PetrolBoard" "holders" "LPetrolBoard$Holders;") (me_s (me_l (me_l (me_l (me_l (me_l (me_l (List.mem_of_getElem? (i := 0) rfl))))))))) (fun _ h => h) rfl dX11_unitsTogether_47 ?_
            refine lv_iload hx hb dX11_unitsTogether_50 (lv_at hl 0 rfl) ?_
            refine lv_iload_n hx hb dX11_unitsTogether_52 rfl (lv_at hl 3 rfl) ?_
            refine lv_aload_n hx hb dX11_unitsTogether_53 rfl (lv_at hl 2 rfl) ?_
            refine z_get (T := TX11) (N := 13) (ci := 11) (i := 0) (v := .int (I4 0 0)) hx hb hts zj_X11_unitsTogether_X11 hown hK hW rfl rfl 0 (by decide) (hts (.fieldLink RX11 85 "PetrolBoard" "today" "I") (me_s (me_l (me_l (me_l (me_l (me_l (me_l (List.mem_of_getElem? (i := 2) rfl))))))))) (fun _ h => h) rfl dX11_unitsTogether_54 ?_
            refine z_ci hW hS hA (va_runV (As := [.ref (ad 1), .int y2, .int a1, .int (I4 0 0)]) (rest := [.int y3]) ⟨hx, hb, hml, hown, hts⟩ (sx_X6_unitsOf l G ad c I4 (by show 0 ≤ (I4 21 2).toInt ∧ (I4 21 2).toInt ≤ 12; exact lp1O) ⟨(by show 0 ≤ (I4 1 5).toInt ∧ (I4 1 5).toInt ≤ 30; exact lp1H.1), (by show 0 ≤ (I4 1 11).toInt ∧ (I4 1 11).toInt ≤ 200; exact lp1H.2)⟩ y2 a1 (I4 0 0) hc _) (cwV 4 hts gX11_unitsTogether_X6_unitsOf rfl rfl rfl hy_X6_unitsOf ⟨Nat.le_of_ble_eq_true rfl, Nat.le_of_ble_eq_true rfl⟩) (z_preV (i := 21) hK hW rfl rfl) rfl rfl hl.1 rfl (lv_room (Nat.le_of_ble_eq_true rfl)) dX11_unitsTogether_57 ⟨Nat.le_of_ble_eq_true rfl, Nat.le_of_ble_eq_true rfl⟩) (fun r u1 H locs hp hW hS => ?_)
            obtain ⟨I33, e9, hI33O, hI33H, fI33⟩ := hp
            rw [e9] at hW
            have f34 := z_fr_sub (L := L_X11_unitsTogether) lp1fr fI33 (by decide)
            have k35 : 0 ≤ (I33 0 0).toInt ∧ (I33 0 0).toInt ≤ 719 := by rw [fI33 0 0 (by decide)]; exact (by show 0 ≤ (I4 0 0).toInt ∧ (I4 0 0).toInt ≤ 719; exact lp1B.1)
            have k36 : 0 ≤ (I33 0 8).toInt ∧ (I33 0 8).toInt ≤ 10 := by rw [fI33 0 8 (by decide)]; exact (by show 0 ≤ (I4 0 8).toInt ∧ (I4 0 8).toInt ≤ 10; exact lp1B.2)
            refine lv_topi (fun x37 ex37 => ?_)
            refine lv_iadd hx hb dX11_unitsTogether_60 ?_
            refine lv_topi (fun x38 ex38 => ?_)
            refine lv_istore_n (lv' := [(3, .int x38), (4, .int y2), (0, .ref (ad 0)), (1, .int a1), (2, .int a2)]) hx hb dX11_unitsTogether_61 rfl hl (by decide) rfl (fun ls hl => ?_)
            obtain ⟨x39, ex39⟩ : ∃ y : Int32, y = y2 + 1 := ⟨_, rfl⟩
            have tx39 : x39.toInt = y2.toInt + 1 := z_tadd ex39 rfl z_l1 (by omega) (by omega)
            refine lv_iinc (v := x39) (lv' := [(4, .int x39), (3, .int x38), (0, .ref (ad 0)), (1, .int a1), (2, .int a2)]) hx hb dX11_unitsTogether_62 hl (k := 1) rfl (by rw [ex39]; rfl) (by decide) rfl (fun ls hl => ?_)
            refine lv_goto (tgt := 5) hx hb dX11_unitsTogether_65 (by decide) ?_
            exact lp1ih x39 x38 I33  _ _ _ (by omega) (by omega) ⟨(by show 0 ≤ (I33 1 5).toInt ∧ (I33 1 5).toInt ≤ 30; exact hI33H.1), (by show 0 ≤ (I33 1 11).toInt ∧ (I33 1 11).toInt ≤ 200; exact hI33H.2)⟩ (by show 0 ≤ (I33 21 2).toInt ∧ (I33 21 2).toInt ≤ 12; exact hI33O) ⟨(by show 0 ≤ (I33 0 0).toInt ∧ (I33 0 0).toInt ≤ 719; exact k35), (by show 0 ≤ (I33 0 8).toInt ∧ (I33 0 8).toInt ≤ 10; exact k36)⟩ f34 hW hS (lv_sub hl [0, 1, 2, 3, 4] rfl)
  exact lp1 4294967296 (0) (0) I  _ _ _ (z_m0u _) (by rw [z_l0]; omega) ⟨(by show 0 ≤ (I 1 5).toInt ∧ (I 1 5).toInt ≤ 30; exact hH.1), (by show 0 ≤ (I 1 11).toInt ∧ (I 1 11).toInt ≤ 200; exact hH.2)⟩ (by show 0 ≤ (I 21 2).toInt ∧ (I 21 2).toInt ≤ 12; exact hO) ⟨(by show 0 ≤ (I 0 0).toInt ∧ (I 0 0).toInt ≤ 719; exact hB.1), (by show 0 ≤ (I 0 8).toInt ∧ (I 0 8).toInt ≤ 10; exact hB.2)⟩ z_fr_0 hW hS (lv_sub hl [0, 1, 2, 3, 4] rfl)
noncomputable def L_X11_foretold : z_L := [(24, 999), (25, 999)]
theorem zj_X11_foretold_X11 : ∀ w ∈ wsX110, w ∈ wsX11_foretold := fun w h => (List.mem_cons_of_mem _ (List.mem_append_left _ (List.mem_append_left _ (List.mem_append_left _ (List.mem_append_left _ (List.mem_append_left _ (List.mem_append_right _ h)))))))
set_option maxHeartbeats 8000000 in
set_option maxRecDepth 100000 in
theorem sx_X11_foretold (l : Launch) (G : z_G) (ad : Nat → Nat) (c : z_C) (I : z_I) (hH : z_iH I) (hO : z_iO I) (hB : z_iB I) (hL : z_iL I) (a1 : Int32) (a2 : Int32) (hc : z_okc c) (h10 : c.1 ≤ 10) : z_MS l yX11_foretold wsX11_foretold { frames := 7, cells := 0, slots := 0, locals := 184 } [.ref (ad 0), .int a1, .int a2] G (shC c, ad, I, JX, PC c ad) (fun r u1 => ∃ I1 : z_I, u1 = (shC c, ad, I1, JX, PC c ad) ∧ z_iH I1 ∧ z_iO I1 ∧ z_iB I1 ∧ z_iL I1 ∧ z_fr L_X11_foretold I1 I) 0 0 := by
  intro sz
  refine z_headS (cc := cX11_foretold) (maxL := 8) (ret := (some .int)) (by decide) rfl (Nat.le_of_ble_eq_true rfl) ?_
  intro p e s m below meth c0 ls hIn hK hsz hW hl hSt
  obtain ⟨hx, hb, hr, hml, hown, hts, hlocks, hname⟩ := hIn
  subst hsz
  have hown : s.vm.findClass RX11 = some m.cls := hown
  have hA : ∀ q : Nat, s.heap.size ≤ q → z_A (shC c, ad, I, JX, PC c ad) s.heap.size q := fun q h => Or.inr h
  generalize hAe : z_A (shC c, ad, I, JX, PC c ad) s.heap.size = A at *
  have hS : va_S A s.heap s.heap [] := va_S.rf
  have hl : lv_has ls 8 [(0, .ref (ad 0)), (1, .int a1), (2, .int a2)] := hl
  refine lv_aload_n hx hb dX11_foretold_0 rfl (lv_at hl 0 rfl) ?_
  have r1 : 0 ≤ (I 0 0).toInt ∧ (I 0 0).toInt ≤ 719 := hB.1
  refine z_get (T := TX11) (N := 13) (ci := 11) (i := 0) (v := .int (I 0 0)) hx hb hts zj_X11_foretold_X11 hown hK hW rfl rfl 0 (by decide) (hts (.fieldLink RX11 85 "PetrolBoard" "today" "I") (me_s (me_l (me_l (me_l (me_l (me_l (me_l (me_l (List.mem_of_getElem? (i := 0) rfl)))))))))) (fun _ h => h) rfl dX11_foretold_1 ?_
  refine lv_bipush (v := 30) hx hb dX11_foretold_4 (by decide) ?_
  refine lv_idiv hx hb dX11_foretold_6 (by decide) ?_
  refine lv_topi (fun x2 ex2 => ?_)
  have tx2 := z_tdiv ex2 rfl z_l30 (by decide)
  refine lv_istore_n (lv' := [(3, .int x2), (0, .ref (ad 0)), (1, .int a1), (2, .int a2)]) hx hb dX11_foretold_7 rfl hl (by decide) rfl (fun ls hl => ?_)
  refine lv_iload_n hx hb dX11_foretold_8 rfl (lv_at hl 2 rfl) ?_
  refine lv_iconst (v := 1) hx hb dX11_foretold_9 (by decide) ?_
  refine lv_bipush (v := 12) hx hb dX11_foretold_10 (by decide) ?_
  refine z_ci hW hS hA (va_runS (As := [.int a1, .int 1, .int 12]) (rest := []) ⟨hx, hb, hml, hown, hts⟩ (sx_X11_within l G ad c I  a1 1 12 _) (va_cwS 3 hts gX11_foretold_X11_within rfl rfl rfl hy_X11_within.2 ⟨Nat.le_of_ble_eq_true rfl, Nat.le_of_ble_eq_true rfl⟩) (z_preS hK hW) rfl rfl hl.1 rfl (lv_room (Nat.le_of_ble_eq_true rfl)) dX11_foretold_12 ⟨Nat.le_of_ble_eq_true rfl, Nat.le_of_ble_eq_true rfl⟩) (fun r u1 H locs hp hW hS => ?_)
  obtain ⟨e9, hp⟩ := hp
  rw [e9] at hW
  rcases hp with ⟨rfl, h3, h4⟩ | rfl
  · have h3 := z_t_le z_l1 rfl h3
    have h4 := z_t_le rfl z_l12 h4
    refine lv_if_eq (tgt := 26) hx hb dX11_foretold_15 (by decide) (fun c5 => absurd c5 (by decide)) (fun c5 => ?_)
    refine lv_iload_n hx hb dX11_foretold_18 rfl (lv_at hl 0 rfl) ?_
    refine lv_iload_n hx hb dX11_foretold_19 rfl (lv_at hl 2 rfl) ?_
    refine lv_iadd hx hb dX11_foretold_20 ?_
    refine lv_topi (fun x6 ex6 => ?_)
    have tx6 : x6.toInt = x2.toInt + a1.toInt := z_tadd ex6 rfl rfl (by omega) (by omega)
    refine lv_bipush (v := 24) hx hb dX11_foretold_21 (by decide) ?_
    refine lv_icmp_le (tgt := 29) hx hb dX11_foretold_23 (by decide) (fun c7 => ?_) (fun c7 => ?_)
    · have g8 := z_f_le rfl z_l24 c7
      refine lv_lconst (v := 0) hx hb dX11_foretold_29 (by decide) ?_
      refine lv_lstore (lv' := [(4, .long 0), (3, .int x2), (0, .ref (ad 0)), (1, .int a1), (2, .int a2)]) hx hb dX11_foretold_30 hl (by decide) rfl (fun ls hl => ?_)
      refine lv_iload_n hx hb dX11_foretold_32 rfl (lv_at hl 1 rfl) ?_
      refine lv_istore (lv' := [(6, .int x2), (4, .long 0), (3, .int x2), (0, .ref (ad 0)), (1, .int a1), (2, .int a2)]) hx hb dX11_foretold_33 hl (by decide) rfl (fun ls hl => ?_)
      have lp9 : ∀ (f : Nat) (y10 : Int32) (w11 : Int64) (I12 : z_I) (H : Heap) (locs : List Loc) (ls : Array Slot), (2147483647 < y10.toInt + (f : Int)) → (0 ≤ y10.toInt) → (z_iH I12) → (z_iO I12) → (z_iB I12) → (z_iL I12) → (x2.toInt ≤ y10.toInt) → (z_fr L_X11_foretold I12 I) → z_W G A (shC c, ad, I12, JX, PC c ad) H → va_S A s.heap H locs → lv_has ls 8 [(6, .int y10), (4, .long w11), (3, .int x2), (0, .ref (ad 0)), (1, .int a1), (2, .int a2)] → W p l e (headSpec wsX11_foretold { frames := 7, cells := 0, slots := 0, locals := 184 }).room s m ([.ref (ad 0), .int a1, .int a2] : List Value).toArray below meth c0 H locs 0 0 (MQ below (va_Qi (fun (r : Int32) (u1 : z_U) => ∃ I1 : z_I, u1 = (shC c, ad, I1, JX, PC c ad) ∧ z_iH I1 ∧ z_iO I1 ∧ z_iB I1 ∧ z_iL I1 ∧ z_fr L_X11_foretold I1 I) (z_B G A) A) ([.ref (ad 0), .int a1, .int a2] : List Value).toArray s 0 0 A) (F0 m 35 ls []) := by
        intro f
        induction f with
        | zero => intro y10 w11 I12  H locs ls lp9m lp9l6 lp9H lp9O lp9B lp9L lp9z lp9fr hW hS hl; exact absurd lp9m (by have := Int32.toInt_lt y10; have := Int32.le_toInt y10; omega)
        | succ f lp9ih =>
          intro y10 w11 I12  H locs ls lp9m lp9l6 lp9H lp9O lp9B lp9L lp9z lp9fr hW hS hl
          refine lv_iload hx hb dX11_foretold_35 (lv_at hl 0 rfl) ?_
          refine lv_iload_n hx hb dX11_foretold_37 rfl (lv_at hl 2 rfl) ?_
          refine lv_iload_n hx hb dX11_foretold_38 rfl (lv_at hl 4 rfl) ?_
          refine lv_iadd hx hb dX11_foretold_39 ?_
          refine lv_topi (fun x13 ex13 => ?_)
          have tx13 : x13.toInt = x2.toInt + a1.toInt := z_tadd ex13 rfl rfl (by omega) (by omega)
          refine lv_icmp_ge (tgt := 78) hx hb dX11_foretold_40 (by decide) (fun c14 => ?_) (fun c14 => ?_)
          · have g15 := z_f_ge rfl rfl c14
            have b16 := Int32.toInt_lt y10
            refine lv_ldc2 (v := 100) hx hb hown (hts (.constantLong RX11 392 (100)) (me_s (me_l (me_l (me_l (me_l (me_l (me_l (me_l (List.mem_of_getElem? (i := 3) rfl)))))))))) dX11_foretold_78 ?_
            refine lv_aload_n hx hb dX11_foretold_81 rfl (lv_at hl 3 rfl) ?_
            refine z_get (T := TX11) (N := 13) (ci := 11) (i := 0) (v := .ref (ad 41)) hx hb hts zj_X11_foretold_X11 hown hK hW rfl rfl 10 (by decide) (hts (.fieldLink RX11 61 "PetrolBoard" "loads" "LPetrolBoard$Loads;") (me_s (me_l (me_l (me_l (me_l (me_l (me_l (me_l (List.mem_of_getElem? (i := 4) rfl)))))))))) (fun _ h => h) rfl dX11_foretold_82 ?_
            refine z_ci hW hS hA (va_runV (As := []) (rest := [.long 100]) ⟨hx, hb, hml, hown, hts⟩ (sx_X4_inPorts l G ad c I12 (by show 0 ≤ (I12 41 10).toInt ∧ (I12 41 10).toInt ≤ 4; exact lp9L)  _) (cwV 0 hts gX11_foretold_X4_inPorts rfl rfl rfl hy_X4_inPorts ⟨Nat.le_of_ble_eq_true rfl, Nat.le_of_ble_eq_true rfl⟩) (z_preV (i := 41) hK hW rfl rfl) rfl rfl hl.1 rfl (lv_room (Nat.le_of_ble_eq_true rfl)) dX11_foretold_85 ⟨Nat.le_of_ble_eq_true rfl, Nat.le_of_ble_eq_true rfl⟩) (fun r u1 H locs hp hW hS => ?_)
            rw [hp] at hW
            refine lv_topi (fun x17 ex17 => ?_)
            refine lv_i2l (v := x17.toInt64) hx hb dX11_foretold_88 rfl ?_
            refine lv_topl (fun w18 ew18 => ?_)
            refine lv_lmul hx hb dX11_foretold_89 ?_
            refine lv_topl (fun w19 ew19 => ?_)
            refine lv_lload hx hb dX11_foretold_90 (lv_at hl 1 rfl) ?_
            refine lv_ldc2 (v := 9) hx hb hown (hts (.constantLong RX11 398 (9)) (me_s (me_l (me_l (me_l (me_l (me_l (me_l (me_l (List.mem_of_getElem? (i := 5) rfl)))))))))) dX11_foretold_92 ?_
            refine lv_ladd hx hb dX11_foretold_95 ?_
            refine lv_topl (fun w20 ew20 => ?_)
            refine lv_ldc2 (v := 10) hx hb hown (hts (.constantLong RX11 400 (10)) (me_s (me_l (me_l (me_l (me_l (me_l (me_l (me_l (List.mem_of_getElem? (i := 6) rfl)))))))))) dX11_foretold_96 ?_
            refine lv_ldiv hx hb dX11_foretold_99 (by decide) ?_
            refine lv_topl (fun w21 ew21 => ?_)
            refine lv_lsub hx hb dX11_foretold_100 ?_
            refine lv_topl (fun w22 ew22 => ?_)
            refine lv_lstore (lv' := [(6, .long w22), (4, .long w11), (3, .int x2), (0, .ref (ad 0)), (1, .int a1), (2, .int a2)]) hx hb dX11_foretold_101 hl (by decide) rfl (fun ls hl => ?_)
            refine lv_ldc2 (v := (-1999999999)) hx hb hown (hts (.constantLong RX11 402 (-1999999999)) (me_s (me_l (me_l (me_l (me_l (me_l (me_l (me_l (List.mem_of_getElem? (i := 7) rfl)))))))))) dX11_foretold_103 ?_
            refine lv_lload hx hb dX11_foretold_106 (lv_at hl 0 rfl) ?_
            refine va_mmax_long (x := (-1999999999)) (y := w22) hx hb (hml.trans hl.1.symm) hown (hts (.methodLink RX11 404 Lib.MathLoose.max_long.x) (me_s (me_l (me_l (me_l (me_l (me_l (me_l (me_l (List.mem_of_getElem? (i := 8) rfl)))))))))) (hts (.static Lib.MathLoose.max_long.x) (me_s (me_l (me_l (me_l (me_l (me_l (me_l (me_l (List.mem_of_getElem? (i := 9) rfl)))))))))) (hts (.initialized "java/lang/Math") (me_s (me_l (me_l (me_l (me_l (me_l (me_l (me_l (List.mem_of_getElem? (i := 10) rfl)))))))))) (hts (.code Lib.MathLoose.max_long.x Lib.MathLoose.max_long.code 4 (some .long)) (me_s (me_l (me_l (me_l (me_l (me_l (me_l (me_l (List.mem_of_getElem? (i := 11) rfl)))))))))) (Nat.le_of_ble_eq_true rfl) (Nat.le_of_ble_eq_true rfl) (Nat.le_of_ble_eq_true rfl) (Nat.le_of_ble_eq_true rfl) dX11_foretold_108 ?_
            refine lv_topl (fun w23 ew23 => ?_)
            refine lv_l2i (v := w23.toInt32) hx hb dX11_foretold_111 rfl ?_
            refine lv_topi (fun x24 ex24 => ?_)
            exact z_iret hx hb hr hK hS (Nat.le_of_ble_eq_true rfl) (Nat.le_of_ble_eq_true rfl) hlocks dX11_foretold_112 (shC c, ad, I12, JX, PC c ad) hW ⟨I12, rfl, ⟨(by show 0 ≤ (I12 1 5).toInt ∧ (I12 1 5).toInt ≤ 30; exact lp9H.1), (by show 0 ≤ (I12 1 11).toInt ∧ (I12 1 11).toInt ≤ 200; exact lp9H.2)⟩, (by show 0 ≤ (I12 21 2).toInt ∧ (I12 21 2).toInt ≤ 12; exact lp9O), ⟨(by show 0 ≤ (I12 0 0).toInt ∧ (I12 0 0).toInt ≤ 719; exact lp9B.1), (by show 0 ≤ (I12 0 8).toInt ∧ (I12 0 8).toInt ≤ 10; exact lp9B.2)⟩, (by show 0 ≤ (I12 41 10).toInt ∧ (I12 41 10).toInt ≤ 4; exact lp9L), lp9fr⟩
          · have g25 := z_f_nge rfl rfl c14
            have b26 := Int32.toInt_lt y10
            refine lv_lload hx hb dX11_foretold_43 (lv_at hl 1 rfl) ?_
            refine lv_aload_n hx hb dX11_foretold_45 rfl (lv_at hl 3 rfl) ?_
            refine z_get (T := TX11) (N := 13) (ci := 11) (i := 0) (v := .ref (ad 21)) hx hb hts zj_X11_foretold_X11 hown hK hW rfl rfl 4 (by decide) (hts (.fieldLink RX11 30 "PetrolBoard" "orderBook" "LPetrolBoard$OrderBook;") (me_s (me_l (me_l (me_l (me_l (me_l (me_l (me_l (List.mem_of_getElem? (i := 2) rfl)))))))))) (fun _ h => h) rfl dX11_foretold_46 ?_
            refine lv_iconst (v := 0) hx hb dX11_foretold_49 (by decide) ?_
            refine lv_iload hx hb dX11_foretold_50 (lv_at hl 0 rfl) ?_
            refine lv_aload_n hx hb dX11_foretold_52 rfl (lv_at hl 3 rfl) ?_
            have r27 : 0 ≤ (I12 0 0).toInt ∧ (I12 0 0).toInt ≤ 719 := lp9B.1
            refine z_get (T := TX11) (N := 13) (ci := 11) (i := 0) (v := .int (I12 0 0)) hx hb hts zj_X11_foretold_X11 hown hK hW rfl rfl 0 (by decide) (hts (.fieldLink RX11 85 "PetrolBoard" "today" "I") (me_s (me_l (me_l (me_l (me_l (me_l (me_l (me_l (List.mem_of_getElem? (i := 0) rfl)))))))))) (fun _ h => h) rfl dX11_foretold_53 ?_
            refine z_ci hW hS hA (va_runV (As := [.int 0, .int y10, .int (I12 0 0)]) (rest := [.long w11]) ⟨hx, hb, hml, hown, hts⟩ (sx_X6_amount l G ad c I12 (by show 0 ≤ (I12 21 2).toInt ∧ (I12 21 2).toInt ≤ 12; exact lp9O) 0 y10 (I12 0 0) hc _) (cwV 3 hts gX11_foretold_X6_amount rfl rfl rfl hy_X6_amount ⟨Nat.le_of_ble_eq_true rfl, Nat.le_of_ble_eq_true rfl⟩) (z_preVS (i := 21) hK hW hS hA hSt rfl rfl) rfl rfl hl.1 rfl (lv_room (Nat.le_of_ble_eq_true rfl)) dX11_foretold_56 ⟨Nat.le_of_ble_eq_true rfl, Nat.le_of_ble_eq_true rfl⟩) (fun r u1 H locs hp hW hS => ?_)
            rw [hp] at hW
            refine lv_topi (fun x28 ex28 => ?_)
            refine lv_i2l (v := x28.toInt64) hx hb dX11_foretold_59 rfl ?_
            refine lv_topl (fun w29 ew29 => ?_)
            refine lv_aload_n hx hb dX11_foretold_60 rfl (lv_at hl 3 rfl) ?_
            refine lv_iload hx hb dX11_foretold_61 (lv_at hl 0 rfl) ?_
            refine lv_iload_n hx hb dX11_foretold_63 rfl (lv_at hl 5 rfl) ?_
            refine z_ci hW hS hA (va_runV (As := [.int y10, .int a2]) (rest := [.long w29, .long w11]) ⟨hx, hb, hml, hown, hts⟩ (sx_X11_unitsTogether l G ad c I12 ⟨(by show 0 ≤ (I12 1 5).toInt ∧ (I12 1 5).toInt ≤ 30; exact lp9H.1), (by show 0 ≤ (I12 1 11).toInt ∧ (I12 1 11).toInt ≤ 200; exact lp9H.2)⟩ (by show 0 ≤ (I12 21 2).toInt ∧ (I12 21 2).toInt ≤ 12; exact lp9O) ⟨(by show 0 ≤ (I12 0 0).toInt ∧ (I12 0 0).toInt ≤ 719; exact lp9B.1), (by show 0 ≤ (I12 0 8).toInt ∧ (I12 0 8).toInt ≤ 10; exact lp9B.2)⟩ y10 a2 hc h10 _) (cwV 2 hts gX11_foretold_X11_unitsTogether rfl rfl rfl hy_X11_unitsTogether ⟨Nat.le_of_ble_eq_true rfl, Nat.le_of_ble_eq_true rfl⟩) (z_preV (i := 0) hK hW rfl rfl) rfl rfl hl.1 rfl (lv_room (Nat.le_of_ble_eq_true rfl)) dX11_foretold_64 ⟨Nat.le_of_ble_eq_true rfl, Nat.le_of_ble_eq_true rfl⟩) (fun r u1 H locs hp hW hS => ?_)
            obtain ⟨I30, e9, hI30H, hI30O, hI30B, fI30⟩ := hp
            rw [e9] at hW
            have f31 := z_fr_sub (L := L_X11_foretold) lp9fr fI30 (by decide)
            have k32 : 0 ≤ (I30 41 10).toInt ∧ (I30 41 10).toInt ≤ 4 := by rw [fI30 41 10 (by decide)]; exact (by show 0 ≤ (I12 41 10).toInt ∧ (I12 41 10).toInt ≤ 4; exact lp9L)
            refine lv_topi (fun x33 ex33 => ?_)
            refine lv_i2l (v := x33.toInt64) hx hb dX11_foretold_67 rfl ?_
            refine lv_topl (fun w34 ew34 => ?_)
            refine lv_lmul hx hb dX11_foretold_68 ?_
            refine lv_topl (fun w35 ew35 => ?_)
            refine lv_ladd hx hb dX11_foretold_69 ?_
            refine lv_topl (fun w36 ew36 => ?_)
            refine lv_lstore (lv' := [(4, .long w36), (6, .int y10), (3, .int x2), (0, .ref (ad 0)), (1, .int a1), (2, .int a2)]) hx hb dX11_foretold_70 hl (by decide) rfl (fun ls hl => ?_)
            obtain ⟨x37, ex37⟩ : ∃ y : Int32, y = y10 + 1 := ⟨_, rfl⟩
            have tx37 : x37.toInt = y10.toInt + 1 := z_tadd ex37 rfl z_l1 (by omega) (by omega)
            refine lv_iinc (v := x37) (lv' := [(6, .int x37), (4, .long w36), (3, .int x2), (0, .ref (ad 0)), (1, .int a1), (2, .int a2)]) hx hb dX11_foretold_72 hl (k := 1) rfl (by rw [ex37]; rfl) (by decide) rfl (fun ls hl => ?_)
            refine lv_goto (tgt := 35) hx hb dX11_foretold_75 (by decide) ?_
            exact lp9ih x37 w36 I30  _ _ _ (by omega) (by omega) ⟨(by show 0 ≤ (I30 1 5).toInt ∧ (I30 1 5).toInt ≤ 30; exact hI30H.1), (by show 0 ≤ (I30 1 11).toInt ∧ (I30 1 11).toInt ≤ 200; exact hI30H.2)⟩ (by show 0 ≤ (I30 21 2).toInt ∧ (I30 21 2).toInt ≤ 12; exact hI30O) ⟨(by show 0 ≤ (I30 0 0).toInt ∧ (I30 0 0).toInt ≤ 719; exact hI30B.1), (by show 0 ≤ (I30 0 8).toInt ∧ (I30 0 8).toInt ≤ 10; exact hI30B.2)⟩ (by show 0 ≤ (I30 41 10).toInt ∧ (I30 41 10).toInt ≤ 4; exact k32) (by omega) f31 hW hS (lv_sub hl [0, 1, 2, 3, 4, 5] rfl)
      exact lp9 4294967296 x2 0 I  _ _ _ (z_m0u _) (by omega) ⟨(by show 0 ≤ (I 1 5).toInt ∧ (I 1 5).toInt ≤ 30; exact hH.1), (by show 0 ≤ (I 1 11).toInt ∧ (I 1 11).toInt ≤ 200; exact hH.2)⟩ (by show 0 ≤ (I 21 2).toInt ∧ (I 21 2).toInt ≤ 12; exact hO) ⟨(by show 0 ≤ (I 0 0).toInt ∧ (I 0 0).toInt ≤ 719; exact hB.1), (by show 0 ≤ (I 0 8).toInt ∧ (I 0 8).toInt ≤ 10; exact hB.2)⟩ (by show 0 ≤ (I 41 10).toInt ∧ (I 41 10).toInt ≤ 4; exact hL) (by omega) z_fr_0 hW hS (lv_sub hl [0, 1, 2, 3, 4, 5] rfl)
    · have g38 := z_f_nle rfl z_l24 c7
      refine lv_ldc (v := (-2000000000)) hx hb hown (hts (.constant RX11 241 (-2000000000)) (me_s (me_l (me_l (me_l (me_l (me_l (me_l (me_l (List.mem_of_getElem? (i := 1) rfl)))))))))) dX11_foretold_26 ?_
      exact z_iret hx hb hr hK hS (Nat.le_of_ble_eq_true rfl) (Nat.le_of_ble_eq_true rfl) hlocks dX11_foretold_28 (shC c, ad, I, JX, PC c ad) hW ⟨I, rfl, ⟨(by show 0 ≤ (I 1 5).toInt ∧ (I 1 5).toInt ≤ 30; exact hH.1), (by show 0 ≤ (I 1 11).toInt ∧ (I 1 11).toInt ≤ 200; exact hH.2)⟩, (by show 0 ≤ (I 21 2).toInt ∧ (I 21 2).toInt ≤ 12; exact hO), ⟨(by show 0 ≤ (I 0 0).toInt ∧ (I 0 0).toInt ≤ 719; exact hB.1), (by show 0 ≤ (I 0 8).toInt ∧ (I 0 8).toInt ≤ 10; exact hB.2)⟩, (by show 0 ≤ (I 41 10).toInt ∧ (I 41 10).toInt ≤ 4; exact hL), z_fr_0⟩
  · refine lv_if_eq (tgt := 26) hx hb dX11_foretold_15 (by decide) (fun c39 => ?_) (fun c39 => absurd (by decide) c39)
    refine lv_ldc (v := (-2000000000)) hx hb hown (hts (.constant RX11 241 (-2000000000)) (me_s (me_l (me_l (me_l (me_l (me_l (me_l (me_l (List.mem_of_getElem? (i := 1) rfl)))))))))) dX11_foretold_26 ?_
    exact z_iret hx hb hr hK hS (Nat.le_of_ble_eq_true rfl) (Nat.le_of_ble_eq_true rfl) hlocks dX11_foretold_28 (shC c, ad, I, JX, PC c ad) hW ⟨I, rfl, ⟨(by show 0 ≤ (I 1 5).toInt ∧ (I 1 5).toInt ≤ 30; exact hH.1), (by show 0 ≤ (I 1 11).toInt ∧ (I 1 11).toInt ≤ 200; exact hH.2)⟩, (by show 0 ≤ (I 21 2).toInt ∧ (I 21 2).toInt ≤ 12; exact hO), ⟨(by show 0 ≤ (I 0 0).toInt ∧ (I 0 0).toInt ≤ 719; exact hB.1), (by show 0 ≤ (I 0 8).toInt ∧ (I 0 8).toInt ≤ 10; exact hB.2)⟩, (by show 0 ≤ (I 41 10).toInt ∧ (I 41 10).toInt ≤ 4; exact hL), z_fr_0⟩
theorem zj_X11_count_X0 : ∀ w ∈ wsX00, w ∈ wsX11_count := fun w h => (List.mem_cons_of_mem _ (List.mem_append_left _ (List.mem_append_left _ (List.mem_append_left _ (List.mem_append_left _ (List.mem_append_right _ h))))))
theorem zj_X11_count_X2 : ∀ w ∈ wsX20, w ∈ wsX11_count := fun w h => (List.mem_cons_of_mem _ (List.mem_append_left _ (List.mem_append_left _ (List.mem_append_left _ (List.mem_append_left _ (List.mem_append_left _ (List.mem_append_left _ (List.mem_append_right _ h))))))))
theorem zj_X11_count_X3 : ∀ w ∈ wsX30, w ∈ wsX11_count := fun w h => (List.mem_cons_of_mem _ (List.mem_append_left _ (List.mem_append_right _ h)))
theorem zj_X11_count_X4 : ∀ w ∈ wsX40, w ∈ wsX11_count := fun w h => (List.mem_cons_of_mem _ (List.mem_append_left _ (List.mem_append_left _ (List.mem_append_right _ h))))
theorem zj_X11_count_X6 : ∀ w ∈ wsX60, w ∈ wsX11_count := fun w h => (List.mem_cons_of_mem _ (List.mem_append_left _ (List.mem_append_left _ (List.mem_append_left _ (List.mem_append_left _ (List.mem_append_left _ (List.mem_append_right _ h)))))))
theorem zj_X11_count_X8 : ∀ w ∈ wsX80, w ∈ wsX11_count := fun w h => (List.mem_cons_of_mem _ (List.mem_append_left _ (List.mem_append_left _ (List.mem_append_left _ (List.mem_append_right _ h)))))
theorem zj_X11_count_X9 : ∀ w ∈ wsX90, w ∈ wsX11_count := fun w h => (List.mem_cons_of_mem _ (List.mem_append_right _ h))
theorem zj_X11_count_X11 : ∀ w ∈ wsX110, w ∈ wsX11_count := fun w h => (List.mem_cons_of_mem _ (List.mem_append_left _ (List.mem_append_left _ (List.mem_append_left _ (List.mem_append_left _ (List.mem_append_left _ (List.mem_append_left _ (List.mem_append_left _ (List.mem_append_right _ h)))))))))
set_option maxHeartbeats 8000000 in
set_option maxRecDepth 100000 in
theorem sx_X11_count (l : Launch) (G : z_G) (ad : Nat → Nat) (c : z_C) (I : z_I) (hH : z_iH I) (hR : z_iR I) (hO : z_iO I) (hP : z_iP I) (hC : z_iC I) (hL : z_iL I) (hJ : z_iJ I) (hB : z_iB I) (a1 : Int32) (hc : z_okc c) (h10 : c.1 ≤ 10) : z_M l yX11_count wsX11_count { frames := 2, cells := 0, slots := 0, locals := 34 } [.ref (ad 0), .int a1] G (shC c, ad, I, JX, PC c ad) (fun r u1 => u1 = (shC c, ad, I, JX, PC c ad)) 0 0 := by
  intro sz
  refine z_headQ (cc := cX11_count) (maxL := 2) (ret := (some .int)) (by decide) rfl (Nat.le_of_ble_eq_true rfl) ?_
  intro p e s m below meth c0 ls hIn hK hsz hW hl
  obtain ⟨hx, hb, hr, hml, hown, hts, hlocks, hname⟩ := hIn
  subst hsz
  have hown : s.vm.findClass RX11 = some m.cls := hown
  have hA : ∀ q : Nat, s.heap.size ≤ q → z_A (shC c, ad, I, JX, PC c ad) s.heap.size q := fun q h => Or.inr h
  generalize hAe : z_A (shC c, ad, I, JX, PC c ad) s.heap.size = A at *
  have hS : va_S A s.heap s.heap [] := va_S.rf
  have hl : lv_has ls 2 [(0, .ref (ad 0)), (1, .int a1)] := hl
  refine lv_iload_n hx hb dX11_count_0 rfl (lv_at hl 1 rfl) ?_
  by_cases q1 : a1 = 0
  · refine lv_tableIn (tgt := 68) hx hb dX11_count_1 (by rw [q1]; decide) (by rw [q1]; decide) (by rw [q1]; rfl) (by decide) ?_
    refine lv_aload_n hx hb dX11_count_68 rfl (lv_at hl 0 rfl) ?_
    have r2 : 0 ≤ (I 0 0).toInt ∧ (I 0 0).toInt ≤ 719 := hB.1
    refine z_get (T := TX11) (N := 13) (ci := 11) (i := 0) (v := .int (I 0 0)) hx hb hts zj_X11_count_X11 hown hK hW rfl rfl 0 (by decide) (hts (.fieldLink RX11 85 "PetrolBoard" "today" "I") (me_s (me_l (me_l (me_l (me_l (me_l (me_l (me_l (me_l (me_l (List.mem_of_getElem? (i := 0) rfl)))))))))))) (fun _ h => h) rfl dX11_count_69 ?_
    exact z_iret hx hb hr hK hS (Nat.le_of_ble_eq_true rfl) (Nat.le_of_ble_eq_true rfl) hlocks dX11_count_72 (shC c, ad, I, JX, PC c ad) hW rfl
  by_cases q3 : a1 = 1
  · refine lv_tableIn (tgt := 73) hx hb dX11_count_1 (by rw [q3]; decide) (by rw [q3]; decide) (by rw [q3]; rfl) (by decide) ?_
    refine lv_aload_n hx hb dX11_count_73 rfl (lv_at hl 0 rfl) ?_
    refine z_get (T := TX11) (N := 13) (ci := 11) (i := 0) (v := .ref (ad 1)) hx hb hts zj_X11_count_X11 hown hK hW rfl rfl 2 (by decide) (hts (.fieldLink RX11 16 "PetrolBoard" "holders" "LPetrolBoard$Holders;") (me_s (me_l (me_l (me_l (me_l (me_l (me_l (me_l (me_l (me_l (List.mem_of_getElem? (i := 1) rfl)))))))))))) (fun _ h => h) rfl dX11_count_74 ?_
    have r4 : 0 ≤ (I 1 5).toInt ∧ (I 1 5).toInt ≤ 30 := hH.1
    refine z_get (T := TX2) (N := 12) (ci := 2) (i := 1) (v := .int (I 1 5)) hx hb hts zj_X11_count_X2 hown hK hW rfl rfl 5 (by decide) (hts (.fieldLink RX11 373 "PetrolBoard$Holders" "number" "I") (me_s (me_l (me_l (me_l (me_l (me_l (me_l (me_l (me_l (me_l (List.mem_of_getElem? (i := 2) rfl)))))))))))) (fun _ h => h) rfl dX11_count_77 ?_
    exact z_iret hx hb hr hK hS (Nat.le_of_ble_eq_true rfl) (Nat.le_of_ble_eq_true rfl) hlocks dX11_count_80 (shC c, ad, I, JX, PC c ad) hW rfl
  by_cases q5 : a1 = 2
  · refine lv_tableIn (tgt := 81) hx hb dX11_count_1 (by rw [q5]; decide) (by rw [q5]; decide) (by rw [q5]; rfl) (by decide) ?_
    refine lv_aload_n hx hb dX11_count_81 rfl (lv_at hl 0 rfl) ?_
    refine z_get (T := TX11) (N := 13) (ci := 11) (i := 0) (v := .ref (ad 1)) hx hb hts zj_X11_count_X11 hown hK hW rfl rfl 2 (by decide) (hts (.fieldLink RX11 16 "PetrolBoard" "holders" "LPetrolBoard$Holders;") (me_s (me_l (me_l (me_l (me_l (me_l (me_l (me_l (me_l (me_l (List.mem_of_getElem? (i := 1) rfl)))))))))))) (fun _ h => h) rfl dX11_count_82 ?_
    have r6 : 0 ≤ (I 1 11).toInt ∧ (I 1 11).toInt ≤ 200 := hH.2
    refine z_get (T := TX2) (N := 12) (ci := 2) (i := 1) (v := .int (I 1 11)) hx hb hts zj_X11_count_X2 hown hK hW rfl rfl 11 (by decide) (hts (.fieldLink RX11 407 "PetrolBoard$Holders" "notes" "I") (me_s (me_l (me_l (me_l (me_l (me_l (me_l (me_l (me_l (me_l (List.mem_of_getElem? (i := 3) rfl)))))))))))) (fun _ h => h) rfl dX11_count_85 ?_
    exact z_iret hx hb hr hK hS (Nat.le_of_ble_eq_true rfl) (Nat.le_of_ble_eq_true rfl) hlocks dX11_count_88 (shC c, ad, I, JX, PC c ad) hW rfl
  by_cases q7 : a1 = 3
  · refine lv_tableIn (tgt := 89) hx hb dX11_count_1 (by rw [q7]; decide) (by rw [q7]; decide) (by rw [q7]; rfl) (by decide) ?_
    refine lv_aload_n hx hb dX11_count_89 rfl (lv_at hl 0 rfl) ?_
    refine z_get (T := TX11) (N := 13) (ci := 11) (i := 0) (v := .ref (ad 21)) hx hb hts zj_X11_count_X11 hown hK hW rfl rfl 4 (by decide) (hts (.fieldLink RX11 30 "PetrolBoard" "orderBook" "LPetrolBoard$OrderBook;") (me_s (me_l (me_l (me_l (me_l (me_l (me_l (me_l (me_l (me_l (List.mem_of_getElem? (i := 4) rfl)))))))))))) (fun _ h => h) rfl dX11_count_90 ?_
    have r8 : 0 ≤ (I 21 2).toInt ∧ (I 21 2).toInt ≤ 12 := hO
    refine z_get (T := TX6) (N := 3) (ci := 6) (i := 21) (v := .int (I 21 2)) hx hb hts zj_X11_count_X6 hown hK hW rfl rfl 2 (by decide) (hts (.fieldLink RX11 125 "PetrolBoard$OrderBook" "number" "I") (me_s (me_l (me_l (me_l (me_l (me_l (me_l (me_l (me_l (me_l (List.mem_of_getElem? (i := 5) rfl)))))))))))) (fun _ h => h) rfl dX11_count_93 ?_
    exact z_iret hx hb hr hK hS (Nat.le_of_ble_eq_true rfl) (Nat.le_of_ble_eq_true rfl) hlocks dX11_count_96 (shC c, ad, I, JX, PC c ad) hW rfl
  by_cases q9 : a1 = 4
  · refine lv_tableIn (tgt := 97) hx hb dX11_count_1 (by rw [q9]; decide) (by rw [q9]; decide) (by rw [q9]; rfl) (by decide) ?_
    refine lv_aload_n hx hb dX11_count_97 rfl (lv_at hl 0 rfl) ?_
    refine z_get (T := TX11) (N := 13) (ci := 11) (i := 0) (v := .ref (ad 26)) hx hb hts zj_X11_count_X11 hown hK hW rfl rfl 5 (by decide) (hts (.fieldLink RX11 37 "PetrolBoard" "coupons" "LPetrolBoard$Coupons;") (me_s (me_l (me_l (me_l (me_l (me_l (me_l (me_l (me_l (me_l (List.mem_of_getElem? (i := 6) rfl)))))))))))) (fun _ h => h) rfl dX11_count_98 ?_
    refine z_get (T := TX0) (N := 5) (ci := 0) (i := 26) (v := .int (I 26 3)) hx hb hts zj_X11_count_X0 hown hK hW rfl rfl 3 (by decide) (hts (.fieldLink RX11 410 "PetrolBoard$Coupons" "books" "I") (me_s (me_l (me_l (me_l (me_l (me_l (me_l (me_l (me_l (me_l (List.mem_of_getElem? (i := 7) rfl)))))))))))) (fun _ h => h) rfl dX11_count_101 ?_
    exact z_iret hx hb hr hK hS (Nat.le_of_ble_eq_true rfl) (Nat.le_of_ble_eq_true rfl) hlocks dX11_count_104 (shC c, ad, I, JX, PC c ad) hW rfl
  by_cases q10 : a1 = 5
  · refine lv_tableIn (tgt := 105) hx hb dX11_count_1 (by rw [q10]; decide) (by rw [q10]; decide) (by rw [q10]; rfl) (by decide) ?_
    refine lv_aload_n hx hb dX11_count_105 rfl (lv_at hl 0 rfl) ?_
    have r11 : 0 ≤ (I 0 8).toInt ∧ (I 0 8).toInt ≤ 10 := hB.2
    refine z_get (T := TX11) (N := 13) (ci := 11) (i := 0) (v := .int (I 0 8)) hx hb hts zj_X11_count_X11 hown hK hW rfl rfl 8 (by decide) (hts (.fieldLink RX11 178 "PetrolBoard" "stationNumber" "I") (me_s (me_l (me_l (me_l (me_l (me_l (me_l (me_l (me_l (me_l (List.mem_of_getElem? (i := 8) rfl)))))))))))) (fun _ h => h) rfl dX11_count_106 ?_
    exact z_iret hx hb hr hK hS (Nat.le_of_ble_eq_true rfl) (Nat.le_of_ble_eq_true rfl) hlocks dX11_count_109 (shC c, ad, I, JX, PC c ad) hW rfl
  by_cases q12 : a1 = 6
  · refine lv_tableIn (tgt := 110) hx hb dX11_count_1 (by rw [q12]; decide) (by rw [q12]; decide) (by rw [q12]; rfl) (by decide) ?_
    refine lv_aload_n hx hb dX11_count_110 rfl (lv_at hl 0 rfl) ?_
    refine z_get (T := TX11) (N := 13) (ci := 11) (i := 0) (v := .ref (ad 30)) hx hb hts zj_X11_count_X11 hown hK hW rfl rfl 6 (by decide) (hts (.fieldLink RX11 44 "PetrolBoard" "pours" "LPetrolBoard$Pours;") (me_s (me_l (me_l (me_l (me_l (me_l (me_l (me_l (me_l (me_l (List.mem_of_getElem? (i := 9) rfl)))))))))))) (fun _ h => h) rfl dX11_count_111 ?_
    have r13 : 0 ≤ (I 30 8).toInt ∧ (I 30 8).toInt ≤ 300 := hP
    refine z_get (T := TX8) (N := 9) (ci := 8) (i := 30) (v := .int (I 30 8)) hx hb hts zj_X11_count_X8 hown hK hW rfl rfl 8 (by decide) (hts (.fieldLink RX11 201 "PetrolBoard$Pours" "number" "I") (me_s (me_l (me_l (me_l (me_l (me_l (me_l (me_l (me_l (me_l (List.mem_of_getElem? (i := 10) rfl)))))))))))) (fun _ h => h) rfl dX11_count_114 ?_
    exact z_iret hx hb hr hK hS (Nat.le_of_ble_eq_true rfl) (Nat.le_of_ble_eq_true rfl) hlocks dX11_count_117 (shC c, ad, I, JX, PC c ad) hW rfl
  by_cases q14 : a1 = 7
  · refine lv_tableIn (tgt := 118) hx hb dX11_count_1 (by rw [q14]; decide) (by rw [q14]; decide) (by rw [q14]; rfl) (by decide) ?_
    refine lv_aload_n hx hb dX11_count_118 rfl (lv_at hl 0 rfl) ?_
    refine z_get (T := TX11) (N := 13) (ci := 11) (i := 0) (v := .ref (ad 30)) hx hb hts zj_X11_count_X11 hown hK hW rfl rfl 6 (by decide) (hts (.fieldLink RX11 44 "PetrolBoard" "pours" "LPetrolBoard$Pours;") (me_s (me_l (me_l (me_l (me_l (me_l (me_l (me_l (me_l (me_l (List.mem_of_getElem? (i := 9) rfl)))))))))))) (fun _ h => h) rfl dX11_count_119 ?_
    refine z_ci hW hS hA (va_runV (As := []) (rest := []) ⟨hx, hb, hml, hown, hts⟩ (sx_X8_judgedGood l G ad c I (by show 0 ≤ (I 30 8).toInt ∧ (I 30 8).toInt ≤ 300; exact hP)  _) (cwV 0 hts gX11_count_X8_judgedGood rfl rfl rfl hy_X8_judgedGood ⟨Nat.le_of_ble_eq_true rfl, Nat.le_of_ble_eq_true rfl⟩) (z_preV (i := 30) hK hW rfl rfl) rfl rfl hl.1 rfl (lv_room (Nat.le_of_ble_eq_true rfl)) dX11_count_122 ⟨Nat.le_of_ble_eq_true rfl, Nat.le_of_ble_eq_true rfl⟩) (fun r u1 H locs hp hW hS => ?_)
    rw [hp] at hW
    refine lv_topi (fun x15 ex15 => ?_)
    exact z_iret hx hb hr hK hS (Nat.le_of_ble_eq_true rfl) (Nat.le_of_ble_eq_true rfl) hlocks dX11_count_125 (shC c, ad, I, JX, PC c ad) hW rfl
  by_cases q16 : a1 = 8
  · refine lv_tableIn (tgt := 126) hx hb dX11_count_1 (by rw [q16]; decide) (by rw [q16]; decide) (by rw [q16]; rfl) (by decide) ?_
    refine lv_aload_n hx hb dX11_count_126 rfl (lv_at hl 0 rfl) ?_
    refine z_get (T := TX11) (N := 13) (ci := 11) (i := 0) (v := .ref (ad 30)) hx hb hts zj_X11_count_X11 hown hK hW rfl rfl 6 (by decide) (hts (.fieldLink RX11 44 "PetrolBoard" "pours" "LPetrolBoard$Pours;") (me_s (me_l (me_l (me_l (me_l (me_l (me_l (me_l (me_l (me_l (List.mem_of_getElem? (i := 9) rfl)))))))))))) (fun _ h => h) rfl dX11_count_127 ?_
    refine z_ci hW hS hA (va_runV (As := []) (rest := []) ⟨hx, hb, hml, hown, hts⟩ (sx_X8_judgedOtherwise l G ad c I (by show 0 ≤ (I 30 8).toInt ∧ (I 30 8).toInt ≤ 300; exact hP)  _) (cwV 0 hts gX11_count_X8_judgedOtherwise rfl rfl rfl hy_X8_judgedOtherwise ⟨Nat.le_of_ble_eq_true rfl, Nat.le_of_ble_eq_true rfl⟩) (z_preV (i := 30) hK hW rfl rfl) rfl rfl hl.1 rfl (lv_room (Nat.le_of_ble_eq_true rfl)) dX11_count_130 ⟨Nat.le_of_ble_eq_true rfl, Nat.le_of_ble_eq_true rfl⟩) (fun r u1 H locs hp hW hS => ?_)
    rw [hp] at hW
    refine lv_topi (fun x17 ex17 => ?_)
    exact z_iret hx hb hr hK hS (Nat.le_of_ble_eq_true rfl) (Nat.le_of_ble_eq_true rfl) hlocks dX11_count_133 (shC c, ad, I, JX, PC c ad) hW rfl
  by_cases q18 : a1 = 9
  · refine lv_tableIn (tgt := 134) hx hb dX11_count_1 (by rw [q18]; decide) (by rw [q18]; decide) (by rw [q18]; rfl) (by decide) ?_
    refine lv_aload_n hx hb dX11_count_134 rfl (lv_at hl 0 rfl) ?_
    refine z_get (T := TX11) (N := 13) (ci := 11) (i := 0) (v := .ref (ad 26)) hx hb hts zj_X11_count_X11 hown hK hW rfl rfl 5 (by decide) (hts (.fieldLink RX11 37 "PetrolBoard" "coupons" "LPetrolBoard$Coupons;") (me_s (me_l (me_l (me_l (me_l (me_l (me_l (me_l (me_l (me_l (List.mem_of_getElem? (i := 6) rfl)))))))))))) (fun _ h => h) rfl dX11_count_135 ?_
    have r19 : 0 ≤ (I 26 4).toInt ∧ (I 26 4).toInt ≤ 512 := hC
    refine z_get (T := TX0) (N := 5) (ci := 0) (i := 26) (v := .int (I 26 4)) hx hb hts zj_X11_count_X0 hown hK hW rfl rfl 4 (by decide) (hts (.fieldLink RX11 419 "PetrolBoard$Coupons" "lentNumber" "I") (me_s (me_l (me_l (me_l (me_l (me_l (me_l (me_l (me_l (me_l (List.mem_of_getElem? (i := 11) rfl)))))))))))) (fun _ h => h) rfl dX11_count_138 ?_
    exact z_iret hx hb hr hK hS (Nat.le_of_ble_eq_true rfl) (Nat.le_of_ble_eq_true rfl) hlocks dX11_count_141 (shC c, ad, I, JX, PC c ad) hW rfl
  by_cases q20 : a1 = 10
  · refine lv_tableIn (tgt := 142) hx hb dX11_count_1 (by rw [q20]; decide) (by rw [q20]; decide) (by rw [q20]; rfl) (by decide) ?_
    refine lv_aload_n hx hb dX11_count_142 rfl (lv_at hl 0 rfl) ?_
    refine z_get (T := TX11) (N := 13) (ci := 11) (i := 0) (v := .ref (ad 41)) hx hb hts zj_X11_count_X11 hown hK hW rfl rfl 10 (by decide) (hts (.fieldLink RX11 61 "PetrolBoard" "loads" "LPetrolBoard$Loads;") (me_s (me_l (me_l (me_l (me_l (me_l (me_l (me_l (me_l (me_l (List.mem_of_getElem? (i := 12) rfl)))))))))))) (fun _ h => h) rfl dX11_count_143 ?_
    have r21 : 0 ≤ (I 41 10).toInt ∧ (I 41 10).toInt ≤ 4 := hL
    refine z_get (T := TX4) (N := 13) (ci := 4) (i := 41) (v := .int (I 41 10)) hx hb hts zj_X11_count_X4 hown hK hW rfl rfl 10 (by decide) (hts (.fieldLink RX11 422 "PetrolBoard$Loads" "ports" "I") (me_s (me_l (me_l (me_l (me_l (me_l (me_l (me_l (me_l (me_l (List.mem_of_getElem? (i := 13) rfl)))))))))))) (fun _ h => h) rfl dX11_count_146 ?_
    exact z_iret hx hb hr hK hS (Nat.le_of_ble_eq_true rfl) (Nat.le_of_ble_eq_true rfl) hlocks dX11_count_149 (shC c, ad, I, JX, PC c ad) hW rfl
  by_cases q22 : a1 = 11
  · refine lv_tableIn (tgt := 150) hx hb dX11_count_1 (by rw [q22]; decide) (by rw [q22]; decide) (by rw [q22]; rfl) (by decide) ?_
    refine lv_aload_n hx hb dX11_count_150 rfl (lv_at hl 0 rfl) ?_
    refine z_get (T := TX11) (N := 13) (ci := 11) (i := 0) (v := .ref (ad 60)) hx hb hts zj_X11_count_X11 hown hK hW rfl rfl 11 (by decide) (hts (.fieldLink RX11 68 "PetrolBoard" "journeys" "LPetrolBoard$Journeys;") (me_s (me_l (me_l (me_l (me_l (me_l (me_l (me_l (me_l (me_l (List.mem_of_getElem? (i := 14) rfl)))))))))))) (fun _ h => h) rfl dX11_count_151 ?_
    have r23 : 0 ≤ (I 60 9).toInt ∧ (I 60 9).toInt ≤ 60 := hJ.1
    refine z_get (T := TX3) (N := 17) (ci := 3) (i := 60) (v := .int (I 60 9)) hx hb hts zj_X11_count_X3 hown hK hW rfl rfl 9 (by decide) (hts (.fieldLink RX11 425 "PetrolBoard$Journeys" "number" "I") (me_s (me_l (me_l (me_l (me_l (me_l (me_l (me_l (me_l (me_l (List.mem_of_getElem? (i := 15) rfl)))))))))))) (fun _ h => h) rfl dX11_count_154 ?_
    exact z_iret hx hb hr hK hS (Nat.le_of_ble_eq_true rfl) (Nat.le_of_ble_eq_true rfl) hlocks dX11_count_157 (shC c, ad, I, JX, PC c ad) hW rfl
  by_cases q24 : a1 = 12
  · refine lv_tableIn (tgt := 158) hx hb dX11_count_1 (by rw [q24]; decide) (by rw [q24]; decide) (by rw [q24]; rfl) (by decide) ?_
    refine lv_aload_n hx hb dX11_count_158 rfl (lv_at hl 0 rfl) ?_
    refine z_get (T := TX11) (N := 13) (ci := 11) (i := 0) (v := .ref (ad 12)) hx hb hts zj_X11_count_X11 hown hK hW rfl rfl 3 (by decide) (hts (.fieldLink RX11 23 "PetrolBoard" "reader" "LPetrolBoard$Reader;") (me_s (me_l (me_l (me_l (me_l (me_l (me_l (me_l (me_l (me_l (List.mem_of_getElem? (i := 16) rfl)))))))))))) (fun _ h => h) rfl dX11_count_159 ?_
    have r25 : 0 ≤ (I 12 1).toInt ∧ (I 12 1).toInt ≤ 500 := hR.1
    refine z_get (T := TX9) (N := 14) (ci := 9) (i := 12) (v := .int (I 12 1)) hx hb hts zj_X11_count_X9 hown hK hW rfl rfl 1 (by decide) (hts (.fieldLink RX11 115 "PetrolBoard$Reader" "taped" "I") (me_s (me_l (me_l (me_l (me_l (me_l (me_l (me_l (me_l (me_l (List.mem_of_getElem? (i := 17) rfl)))))))))))) (fun _ h => h) rfl dX11_count_162 ?_
    exact z_iret hx hb hr hK hS (Nat.le_of_ble_eq_true rfl) (Nat.le_of_ble_eq_true rfl) hlocks dX11_count_165 (shC c, ad, I, JX, PC c ad) hW rfl
  have q1 := z_f_ne rfl z_l0 q1
  have q3 := z_f_ne rfl z_l1 q3
  have q5 := z_f_ne rfl z_l2 q5
  have q7 := z_f_ne rfl z_l3 q7
  have q9 := z_f_ne rfl z_l4 q9
  have q10 := z_f_ne rfl z_l5 q10
  have q12 := z_f_ne rfl z_l6 q12
  have q14 := z_f_ne rfl z_l7 q14
  have q16 := z_f_ne rfl z_l8 q16
  have q18 := z_f_ne rfl z_l9 q18
  have q20 := z_f_ne rfl z_l10 q20
  have q22 := z_f_ne rfl z_l11 q22
  have q24 := z_f_ne rfl z_l12 q24
  refine lv_tableOut (tgt := 166) hx hb dX11_count_1 (by omega) (by decide) ?_
  refine lv_iconst (v := (-1)) hx hb dX11_count_166 (by decide) ?_
  exact z_iret hx hb hr hK hS (Nat.le_of_ble_eq_true rfl) (Nat.le_of_ble_eq_true rfl) hlocks dX11_count_167 (shC c, ad, I, JX, PC c ad) hW rfl
