theorem dJ7_copyOf_59c91_0 : decode cJ7_copyOf_59c91 0 = .ok (.iload_n 1, 1) := z_dd_27 (by decide +kernel)
theorem dJ7_copyOf_59c91_1 : decode cJ7_copyOf_59c91 1 = .ok (.aload_n 0, 1) := z_dd_42 (by decide +kernel)
theorem dJ7_copyOf_59c91_2 : decode cJ7_copyOf_59c91 2 = .ok (.arraylength, 1) := z_dd_190 (by decide +kernel)
theorem dJ7_copyOf_59c91_3 : decode cJ7_copyOf_59c91 3 = .ok (.if_icmp .ne 11, 3) := z_dd_160 (by decide +kernel)
theorem dJ7_copyOf_59c91_14 : decode cJ7_copyOf_59c91 14 = .ok (.iload_n 1, 1) := z_dd_27 (by decide +kernel)
theorem dJ7_copyOf_59c91_15 : decode cJ7_copyOf_59c91 15 = .ok (.newarray .int, 2) := z_dd_188_int (by decide +kernel)
theorem dJ7_copyOf_59c91_17 : decode cJ7_copyOf_59c91 17 = .ok (.astore_n 2, 1) := z_dd_77 (by decide +kernel)
theorem dJ7_copyOf_59c91_18 : decode cJ7_copyOf_59c91 18 = .ok (.aload_n 0, 1) := z_dd_42 (by decide +kernel)
theorem dJ7_copyOf_59c91_19 : decode cJ7_copyOf_59c91 19 = .ok (.iconst 0, 1) := z_dd_3 (by decide +kernel)
theorem dJ7_copyOf_59c91_20 : decode cJ7_copyOf_59c91 20 = .ok (.aload_n 2, 1) := z_dd_44 (by decide +kernel)
theorem dJ7_copyOf_59c91_21 : decode cJ7_copyOf_59c91 21 = .ok (.iconst 0, 1) := z_dd_3 (by decide +kernel)
theorem dJ7_copyOf_59c91_22 : decode cJ7_copyOf_59c91 22 = .ok (.aload_n 0, 1) := z_dd_42 (by decide +kernel)
theorem dJ7_copyOf_59c91_23 : decode cJ7_copyOf_59c91 23 = .ok (.arraylength, 1) := z_dd_190 (by decide +kernel)
theorem dJ7_copyOf_59c91_24 : decode cJ7_copyOf_59c91 24 = .ok (.iload_n 1, 1) := z_dd_27 (by decide +kernel)
theorem dJ7_copyOf_59c91_25 : decode cJ7_copyOf_59c91 25 = .ok (.invokestatic 304, 3) := z_dd_184 (by decide +kernel)
theorem dJ7_copyOf_59c91_28 : decode cJ7_copyOf_59c91 28 = .ok (.invokestatic 150, 3) := z_dd_184 (by decide +kernel)
theorem dJ7_copyOf_59c91_31 : decode cJ7_copyOf_59c91 31 = .ok (.aload_n 2, 1) := z_dd_44 (by decide +kernel)
theorem dJ7_copyOf_59c91_32 : decode cJ7_copyOf_59c91 32 = .ok (.areturn, 1) := z_dd_176 (by decide +kernel)
theorem dJ7_copyOf_59c91_6 : decode cJ7_copyOf_59c91 6 = .ok (.aload_n 0, 1) := z_dd_42 (by decide +kernel)
theorem dJ7_copyOf_59c91_7 : decode cJ7_copyOf_59c91 7 = .ok (.invokevirtual 316, 3) := z_dd_182 (by decide +kernel)
theorem dJ7_copyOf_59c91_10 : decode cJ7_copyOf_59c91 10 = .ok (.checkcast 317, 3) := z_dd_192 (by decide +kernel)
theorem dJ7_copyOf_59c91_13 : decode cJ7_copyOf_59c91 13 = .ok (.areturn, 1) := z_dd_176 (by decide +kernel)
theorem dX7_init_0 : decode cX7_init 0 = .ok (.aload_n 0, 1) := z_dd_42 (by decide +kernel)
theorem dX7_init_1 : decode cX7_init 1 = .ok (.invokespecial 3, 3) := z_dd_183 (by decide +kernel)
theorem dX7_init_4 : decode cX7_init 4 = .ok (.aload_n 0, 1) := z_dd_42 (by decide +kernel)
theorem dX7_init_5 : decode cX7_init 5 = .ok (.iload_n 2, 1) := z_dd_28 (by decide +kernel)
theorem dX7_init_6 : decode cX7_init 6 = .ok (.putfield 9, 3) := z_dd_181 (by decide +kernel)
theorem dX7_init_9 : decode cX7_init 9 = .ok (.aload_n 0, 1) := z_dd_42 (by decide +kernel)
theorem dX7_init_10 : decode cX7_init 10 = .ok (.iload_n 3, 1) := z_dd_29 (by decide +kernel)
theorem dX7_init_11 : decode cX7_init 11 = .ok (.putfield 15, 3) := z_dd_181 (by decide +kernel)
theorem dX7_init_14 : decode cX7_init 14 = .ok (.aload_n 1, 1) := z_dd_43 (by decide +kernel)
theorem dX7_init_15 : decode cX7_init 15 = .ok (.getfield 18, 3) := z_dd_180 (by decide +kernel)
theorem dX7_init_18 : decode cX7_init 18 = .ok (.iconst 0, 1) := z_dd_3 (by decide +kernel)
theorem dX7_init_19 : decode cX7_init 19 = .ok (.bipush 24, 2) := z_dd_16 (by decide +kernel)
set_option maxRecDepth 20000 in
theorem ggX7_init_X11_within : GoodIn wsX7_init wsX11_within := goodIn_sub (fa_c (me_s (me_l (me_l (me_l (List.mem_of_getElem? (i := 17) rfl))))) fa_n) (by decide +kernel)
set_option maxRecDepth 20000 in
theorem gX7_init_X11_within_n23 : GoodIn wsX7_init (wsX11_within) := ggX7_init_X11_within
theorem dX7_init_21 : decode cX7_init 21 = .ok (.invokestatic 23, 3) := z_dd_184 (by decide +kernel)
theorem dX7_init_24 : decode cX7_init 24 = .ok (.ifCond .eq 10, 3) := z_dd_153 (by decide +kernel)
theorem dX7_init_27 : decode cX7_init 27 = .ok (.aload_n 1, 1) := z_dd_43 (by decide +kernel)
theorem dX7_init_28 : decode cX7_init 28 = .ok (.getfield 18, 3) := z_dd_180 (by decide +kernel)
theorem dX7_init_31 : decode cX7_init 31 = .ok (.goto 4, 3) := z_dd_167 (by decide +kernel)
theorem dX7_init_35 : decode cX7_init 35 = .ok (.istore 4, 2) := z_dd_54 (by decide +kernel)
theorem dX7_init_37 : decode cX7_init 37 = .ok (.aload_n 1, 1) := z_dd_43 (by decide +kernel)
theorem dX7_init_38 : decode cX7_init 38 = .ok (.getfield 27, 3) := z_dd_180 (by decide +kernel)
theorem dX7_init_41 : decode cX7_init 41 = .ok (.iconst 0, 1) := z_dd_3 (by decide +kernel)
theorem dX7_init_42 : decode cX7_init 42 = .ok (.sipush 500, 3) := z_dd_17 (by decide +kernel)
theorem dX7_init_45 : decode cX7_init 45 = .ok (.invokestatic 23, 3) := z_dd_184 (by decide +kernel)
theorem dX7_init_48 : decode cX7_init 48 = .ok (.ifCond .eq 10, 3) := z_dd_153 (by decide +kernel)
theorem dX7_init_51 : decode cX7_init 51 = .ok (.aload_n 1, 1) := z_dd_43 (by decide +kernel)
theorem dX7_init_52 : decode cX7_init 52 = .ok (.getfield 27, 3) := z_dd_180 (by decide +kernel)
theorem dX7_init_55 : decode cX7_init 55 = .ok (.goto 4, 3) := z_dd_167 (by decide +kernel)
theorem dX7_init_59 : decode cX7_init 59 = .ok (.istore 5, 2) := z_dd_54 (by decide +kernel)
theorem dX7_init_61 : decode cX7_init 61 = .ok (.aload_n 0, 1) := z_dd_42 (by decide +kernel)
theorem dX7_init_62 : decode cX7_init 62 = .ok (.aload_n 1, 1) := z_dd_43 (by decide +kernel)
theorem dX7_init_63 : decode cX7_init 63 = .ok (.getfield 30, 3) := z_dd_180 (by decide +kernel)
theorem dX7_init_66 : decode cX7_init 66 = .ok (.iload 4, 2) := z_dd_21 (by decide +kernel)
set_option maxRecDepth 20000 in
theorem ggX7_init_J7_copyOf_59c91 : GoodIn wsX7_init wsJ7_copyOf_59c91 := goodIn_sub (fa_c (me_s (me_l (me_l (me_l (List.mem_of_getElem? (i := 21) rfl))))) (fa_c (me_s (me_l (me_l (me_l (List.mem_of_getElem? (i := 22) rfl))))) (fa_c (me_s (me_l (me_l (me_l (List.mem_of_getElem? (i := 23) rfl))))) (fa_c (me_s (me_l (me_l (me_r (List.mem_of_getElem? (i := 0) rfl))))) (fa_c (me_s (me_l (me_l (me_r (List.mem_of_getElem? (i := 1) rfl))))) (fa_c (me_s (me_l (me_l (me_r (List.mem_of_getElem? (i := 2) rfl))))) (fa_c (me_s (me_l (me_l (me_r (List.mem_of_getElem? (i := 3) rfl))))) (fa_c (me_s (me_l (me_l (me_r (List.mem_of_getElem? (i := 4) rfl))))) (fa_c (me_s (me_l (me_l (me_r (List.mem_of_getElem? (i := 5) rfl))))) (fa_c (me_s (me_l (me_l (me_r (List.mem_of_getElem? (i := 6) rfl))))) (fa_c (me_s (me_l (me_l (me_r (List.mem_of_getElem? (i := 7) rfl))))) (fa_c (me_s (me_l (me_l (me_r (List.mem_of_getElem? (i := 8) rfl))))) (fa_c (me_s (me_l (me_l (me_r (List.mem_of_getElem? (i := 9) rfl))))) (fa_c (me_s (me_l (me_l (me_r (List.mem_of_getElem? (i := 10) rfl))))) (fa_c (me_s (me_l (me_l (me_r (List.mem_of_getElem? (i := 11) rfl))))) (fa_c (me_s (me_l (me_l (me_r (List.mem_of_getElem? (i := 12) rfl))))) fa_n)))))))))))))))) (by decide +kernel)
set_option maxRecDepth 20000 in
theorem gX7_init_J7_copyOf_59c91 : GoodIn wsX7_init (va_wsS RX7 34 yJ7_copyOf_59c91 wsJ7_copyOf_59c91) := goodIn_app (goodIn_sub (fa_c (me_s (me_l (me_l (me_l (List.mem_of_getElem? (i := 18) rfl))))) (fa_c (me_s (me_l (me_l (me_l (List.mem_of_getElem? (i := 19) rfl))))) (fa_c (me_s (me_l (me_l (me_l (List.mem_of_getElem? (i := 20) rfl))))) fa_n))) (by decide +kernel)) ggX7_init_J7_copyOf_59c91
theorem dX7_init_68 : decode cX7_init 68 = .ok (.invokestatic 34, 3) := z_dd_184 (by decide +kernel)
theorem dX7_init_71 : decode cX7_init 71 = .ok (.putfield 40, 3) := z_dd_181 (by decide +kernel)
theorem dX7_init_74 : decode cX7_init 74 = .ok (.aload_n 0, 1) := z_dd_42 (by decide +kernel)
theorem dX7_init_75 : decode cX7_init 75 = .ok (.aload_n 1, 1) := z_dd_43 (by decide +kernel)
theorem dX7_init_76 : decode cX7_init 76 = .ok (.getfield 41, 3) := z_dd_180 (by decide +kernel)
theorem dX7_init_79 : decode cX7_init 79 = .ok (.iload 4, 2) := z_dd_21 (by decide +kernel)
theorem dX7_init_81 : decode cX7_init 81 = .ok (.invokestatic 34, 3) := z_dd_184 (by decide +kernel)
theorem dX7_init_84 : decode cX7_init 84 = .ok (.putfield 44, 3) := z_dd_181 (by decide +kernel)
theorem dX7_init_87 : decode cX7_init 87 = .ok (.aload_n 0, 1) := z_dd_42 (by decide +kernel)
theorem dX7_init_88 : decode cX7_init 88 = .ok (.aload_n 1, 1) := z_dd_43 (by decide +kernel)
theorem dX7_init_89 : decode cX7_init 89 = .ok (.getfield 45, 3) := z_dd_180 (by decide +kernel)
theorem dX7_init_92 : decode cX7_init 92 = .ok (.iload 4, 2) := z_dd_21 (by decide +kernel)
theorem dX7_init_94 : decode cX7_init 94 = .ok (.invokestatic 34, 3) := z_dd_184 (by decide +kernel)
theorem dX7_init_97 : decode cX7_init 97 = .ok (.putfield 48, 3) := z_dd_181 (by decide +kernel)
theorem dX7_init_100 : decode cX7_init 100 = .ok (.aload_n 0, 1) := z_dd_42 (by decide +kernel)
theorem dX7_init_101 : decode cX7_init 101 = .ok (.aload_n 1, 1) := z_dd_43 (by decide +kernel)
theorem dX7_init_102 : decode cX7_init 102 = .ok (.getfield 49, 3) := z_dd_180 (by decide +kernel)
theorem dX7_init_105 : decode cX7_init 105 = .ok (.iload 5, 2) := z_dd_21 (by decide +kernel)
theorem dX7_init_107 : decode cX7_init 107 = .ok (.invokestatic 34, 3) := z_dd_184 (by decide +kernel)
theorem dX7_init_110 : decode cX7_init 110 = .ok (.putfield 52, 3) := z_dd_181 (by decide +kernel)
theorem dX7_init_113 : decode cX7_init 113 = .ok (.return_, 1) := z_dd_177 (by decide +kernel)
theorem dX6_add_0 : decode cX6_add 0 = .ok (.aload_n 0, 1) := z_dd_42 (by decide +kernel)
theorem dX6_add_1 : decode cX6_add 1 = .ok (.getfield 24, 3) := z_dd_180 (by decide +kernel)
theorem dX6_add_4 : decode cX6_add 4 = .ok (.aload_n 0, 1) := z_dd_42 (by decide +kernel)
theorem dX6_add_5 : decode cX6_add 5 = .ok (.getfield 11, 3) := z_dd_180 (by decide +kernel)
theorem dX6_add_8 : decode cX6_add 8 = .ok (.arraylength, 1) := z_dd_190 (by decide +kernel)
theorem dX6_add_9 : decode cX6_add 9 = .ok (.if_icmp .lt 5, 3) := z_dd_161 (by decide +kernel)
theorem dX6_add_14 : decode cX6_add 14 = .ok (.aload_n 0, 1) := z_dd_42 (by decide +kernel)
theorem dX6_add_15 : decode cX6_add 15 = .ok (.getfield 11, 3) := z_dd_180 (by decide +kernel)
theorem dX6_add_18 : decode cX6_add 18 = .ok (.aload_n 0, 1) := z_dd_42 (by decide +kernel)
theorem dX6_add_19 : decode cX6_add 19 = .ok (.getfield 24, 3) := z_dd_180 (by decide +kernel)
theorem dX6_add_22 : decode cX6_add 22 = .ok (.aload_n 1, 1) := z_dd_43 (by decide +kernel)
theorem dX6_add_23 : decode cX6_add 23 = .ok (.aastore, 1) := z_dd_83 (by decide +kernel)
theorem dX6_add_24 : decode cX6_add 24 = .ok (.aload_n 0, 1) := z_dd_42 (by decide +kernel)
theorem dX6_add_25 : decode cX6_add 25 = .ok (.dup, 1) := z_dd_89 (by decide +kernel)
theorem dX6_add_26 : decode cX6_add 26 = .ok (.getfield 24, 3) := z_dd_180 (by decide +kernel)
theorem dX6_add_29 : decode cX6_add 29 = .ok (.iconst 1, 1) := z_dd_4 (by decide +kernel)
theorem dX6_add_30 : decode cX6_add 30 = .ok (.iadd, 1) := z_dd_96 (by decide +kernel)
theorem dX6_add_31 : decode cX6_add 31 = .ok (.putfield 24, 3) := z_dd_181 (by decide +kernel)
theorem dX6_add_34 : decode cX6_add 34 = .ok (.aload_n 0, 1) := z_dd_42 (by decide +kernel)
theorem dX6_add_35 : decode cX6_add 35 = .ok (.getfield 24, 3) := z_dd_180 (by decide +kernel)
theorem dX6_add_38 : decode cX6_add 38 = .ok (.iconst 1, 1) := z_dd_4 (by decide +kernel)
theorem dX6_add_39 : decode cX6_add 39 = .ok (.isub, 1) := z_dd_100 (by decide +kernel)
theorem dX6_add_40 : decode cX6_add 40 = .ok (.ireturn, 1) := z_dd_172 (by decide +kernel)
theorem dX11_orders_0 : decode cX11_orders 0 = .ok (.iload_n 1, 1) := z_dd_27 (by decide +kernel)
theorem dX11_orders_1 : decode cX11_orders 1 = .ok (.ifCond .lt 21, 3) := z_dd_155 (by decide +kernel)
theorem dX11_orders_22 : decode cX11_orders 22 = .ok (.bipush (-2), 2) := z_dd_16 (by decide +kernel)
theorem dX11_orders_24 : decode cX11_orders 24 = .ok (.ireturn, 1) := z_dd_172 (by decide +kernel)
theorem dX11_orders_4 : decode cX11_orders 4 = .ok (.iload_n 1, 1) := z_dd_27 (by decide +kernel)
theorem dX11_orders_5 : decode cX11_orders 5 = .ok (.aload_n 0, 1) := z_dd_42 (by decide +kernel)
theorem dX11_orders_6 : decode cX11_orders 6 = .ok (.getfield 23, 3) := z_dd_180 (by decide +kernel)
theorem dX11_orders_9 : decode cX11_orders 9 = .ok (.getfield 115, 3) := z_dd_180 (by decide +kernel)
theorem dX11_orders_12 : decode cX11_orders 12 = .ok (.if_icmp .gt 10, 3) := z_dd_163 (by decide +kernel)
theorem dX11_orders_15 : decode cX11_orders 15 = .ok (.iload_n 2, 1) := z_dd_28 (by decide +kernel)
set_option maxRecDepth 20000 in
theorem ggX11_orders_X11_isMonth : GoodIn wsX11_orders wsX11_isMonth := goodIn_sub (fa_c (me_s (me_l (me_l (me_l (me_l (me_l (List.mem_of_getElem? (i := 12) rfl))))))) (fa_c (me_s (me_l (me_l (me_l (me_l (me_l (List.mem_of_getElem? (i := 13) rfl))))))) (fa_c (me_s (me_l (me_l (me_l (me_l (me_l (List.mem_of_getElem? (i := 14) rfl))))))) (fa_c (me_s (me_l (me_l (me_l (me_l (me_l (List.mem_of_getElem? (i := 11) rfl))))))) (fa_c (me_s (me_l (me_l (me_l (me_l (me_l (List.mem_of_getElem? (i := 15) rfl))))))) fa_n))))) (by decide +kernel)
set_option maxRecDepth 20000 in
theorem gX11_orders_X11_isMonth : GoodIn wsX11_orders (va_wsS RX11 122 yX11_isMonth wsX11_isMonth) := goodIn_app (goodIn_sub (fa_c (me_s (me_l (me_l (me_l (me_l (me_l (List.mem_of_getElem? (i := 9) rfl))))))) (fa_c (me_s (me_l (me_l (me_l (me_l (me_l (List.mem_of_getElem? (i := 10) rfl))))))) (fa_c (me_s (me_l (me_l (me_l (me_l (me_l (List.mem_of_getElem? (i := 11) rfl))))))) fa_n))) (by decide +kernel)) ggX11_orders_X11_isMonth
theorem dX11_orders_16 : decode cX11_orders 16 = .ok (.invokestatic 122, 3) := z_dd_184 (by decide +kernel)
theorem dX11_orders_19 : decode cX11_orders 19 = .ok (.ifCond .ne 6, 3) := z_dd_154 (by decide +kernel)
theorem dX11_orders_25 : decode cX11_orders 25 = .ok (.aload_n 0, 1) := z_dd_42 (by decide +kernel)
theorem dX11_orders_26 : decode cX11_orders 26 = .ok (.getfield 30, 3) := z_dd_180 (by decide +kernel)
theorem dX11_orders_29 : decode cX11_orders 29 = .ok (.getfield 125, 3) := z_dd_180 (by decide +kernel)
theorem dX11_orders_32 : decode cX11_orders 32 = .ok (.bipush 12, 2) := z_dd_16 (by decide +kernel)
theorem dX11_orders_34 : decode cX11_orders 34 = .ok (.if_icmp .lt 6, 3) := z_dd_161 (by decide +kernel)
theorem dX11_orders_40 : decode cX11_orders 40 = .ok (.aload_n 0, 1) := z_dd_42 (by decide +kernel)
theorem dX11_orders_41 : decode cX11_orders 41 = .ok (.aload_n 0, 1) := z_dd_42 (by decide +kernel)
theorem dX11_orders_42 : decode cX11_orders 42 = .ok (.getfield 23, 3) := z_dd_180 (by decide +kernel)
theorem dX11_orders_45 : decode cX11_orders 45 = .ok (.iload_n 1, 1) := z_dd_27 (by decide +kernel)
set_option maxRecDepth 20000 in
theorem ggX11_orders_X9_read : GoodIn wsX11_orders wsX9_read := goodIn_sub (fa_c (me_s (me_l (me_l (me_l (me_l (me_l (List.mem_of_getElem? (i := 20) rfl))))))) (fa_a (fa_a (fa_c (me_s (me_l (me_l (me_l (me_l (me_l (List.mem_of_getElem? (i := 21) rfl))))))) (fa_c (me_s (me_l (me_l (me_l (me_l (me_l (List.mem_of_getElem? (i := 22) rfl))))))) (fa_c (me_s (me_l (me_l (me_l (me_l (me_l (List.mem_of_getElem? (i := 23) rfl))))))) (fa_c (me_s (me_l (me_l (me_l (me_l (me_r (me_l (List.mem_of_getElem? (i := 0) rfl)))))))) (fa_c (me_s (me_l (me_l (me_l (me_l (me_r (me_l (List.mem_of_getElem? (i := 1) rfl)))))))) (fa_c (me_s (me_l (me_l (me_l (me_l (me_r (me_l (List.mem_of_getElem? (i := 2) rfl)))))))) (fa_c (me_s (me_l (me_l (me_l (me_l (me_r (me_l (List.mem_of_getElem? (i := 3) rfl)))))))) (fa_c (me_s (me_l (me_l (me_l (me_l (me_r (me_l (List.mem_of_getElem? (i := 4) rfl)))))))) (fa_c (me_s (me_l (me_l (me_l (me_l (me_r (me_l (List.mem_of_getElem? (i := 5) rfl)))))))) (fa_c (me_s (me_l (me_l (me_l (me_l (me_r (me_l (List.mem_of_getElem? (i := 6) rfl)))))))) (fa_c (me_s (me_l (me_l (me_l (me_l (me_r (me_l (List.mem_of_getElem? (i := 7) rfl)))))))) (fa_c (me_s (me_l (me_l (me_l (me_l (me_r (me_l (List.mem_of_getElem? (i := 8) rfl)))))))) (fa_c (me_s (me_l (me_l (me_l (me_l (me_l (List.mem_of_getElem? (i := 19) rfl))))))) (fa_c (me_s (me_l (me_l (me_l (me_l (me_r (me_l (List.mem_of_getElem? (i := 9) rfl)))))))) (fa_c (me_s (me_l (me_l (me_l (me_l (me_r (me_l (List.mem_of_getElem? (i := 10) rfl)))))))) (fa_c (me_s (me_l (me_l (me_l (me_l (me_r (me_l (List.mem_of_getElem? (i := 11) rfl)))))))) (fa_c (me_s (me_l (me_l (me_l (me_l (me_r (me_l (List.mem_of_getElem? (i := 12) rfl)))))))) (fa_c (me_s (me_l (me_l (me_l (me_l (me_r (me_l (List.mem_of_getElem? (i := 13) rfl)))))))) (fa_c (me_s (me_l (me_l (me_l (me_l (me_r (me_l (List.mem_of_getElem? (i := 14) rfl)))))))) (fa_c (me_s (me_l (me_l (me_l (me_l (me_r (me_l (List.mem_of_getElem? (i := 15) rfl)))))))) (fa_c (me_s (me_l (me_l (me_l (me_l (me_r (me_l (List.mem_of_getElem? (i := 16) rfl)))))))) (fa_c (me_s (me_l (me_l (me_l (me_l (me_r (me_l (List.mem_of_getElem? (i := 17) rfl)))))))) (fa_c (me_s (me_l (me_l (me_l (me_l (me_r (me_l (List.mem_of_getElem? (i := 18) rfl)))))))) (fa_c (me_s (me_l (me_l (me_l (me_l (me_r (me_l (List.mem_of_getElem? (i := 19) rfl)))))))) fa_n)))))))))))))))))))))))) (fa_a (fa_c (me_s (me_l (me_l (me_l (me_l (me_r (me_l (List.mem_of_getElem? (i := 20) rfl)))))))) (fa_c (me_s (me_l (me_l (me_l (me_l (me_r (me_l (List.mem_of_getElem? (i := 21) rfl)))))))) (fa_c (me_s (me_l (me_l (me_l (me_l (me_r (me_l (List.mem_of_getElem? (i := 22) rfl)))))))) (fa_c (me_s (me_l (me_l (me_l (me_l (me_r (me_l (List.mem_of_getElem? (i := 23) rfl)))))))) (fa_c (me_s (me_l (me_l (me_l (me_l (me_r (me_r (me_l (List.mem_of_getElem? (i := 0) rfl))))))))) (fa_c (me_s (me_l (me_l (me_l (me_l (me_r (me_r (me_l (List.mem_of_getElem? (i := 1) rfl))))))))) (fa_c (me_s (me_l (me_l (me_l (me_l (me_r (me_r (me_l (List.mem_of_getElem? (i := 2) rfl))))))))) (fa_c (me_s (me_l (me_l (me_l (me_l (me_r (me_r (me_l (List.mem_of_getElem? (i := 3) rfl))))))))) (fa_c (me_s (me_l (me_l (me_l (me_l (me_r (me_r (me_l (List.mem_of_getElem? (i := 4) rfl))))))))) (fa_c (me_s (me_l (me_l (me_l (me_l (me_r (me_r (me_l (List.mem_of_getElem? (i := 5) rfl))))))))) (fa_c (me_s (me_l (me_l (me_l (me_l (me_r (me_r (me_l (List.mem_of_getElem? (i := 6) rfl))))))))) (fa_c (me_s (me_l (me_l (me_l (me_l (me_r (me_r (me_l (List.mem_of_getElem? (i := 7) rfl))))))))) (fa_c (me_s (me_l (me_l (me_l (me_l (me_r (me_r (me_l (List.mem_of_getElem? (i := 8) rfl))))))))) (fa_c (me_s (me_l (me_l (me_l (me_l (me_r (me_r (me_l (List.mem_of_getElem? (i := 9) rfl))))))))) (fa_c (me_s (me_l (me_l (me_l (me_l (me_r (me_r (me_l (List.mem_of_getElem? (i := 10) rfl))))))))) (fa_c (me_s (me_l (me_l (me_l (me_l (me_r (me_r (me_l (List.mem_of_getElem? (i := 11) rfl))))))))) (fa_c (me_s (me_l (me_l (me_l (me_l (me_r (me_r (me_l (List.mem_of_getElem? (i := 12) rfl))))))))) (fa_c (me_s (me_l (me_l (me_l (me_l (me_r (me_r (me_l (List.mem_of_getElem? (i := 13) rfl))))))))) (fa_c (me_s (me_l (me_l (me_l (me_l (me_r (me_r (me_l (List.mem_of_getElem? (i := 14) rfl))))))))) (fa_c (me_s (me_l (me_l (me_l (me_l (me_r (me_r (me_l (List.mem_of_getElem? (i := 15) rfl))))))))) (fa_c (me_s (me_l (me_l (me_l (me_l (me_r (me_r (me_l (List.mem_of_getElem? (i := 16) rfl))))))))) (fa_c (me_s (me_l (me_l (me_l (me_l (me_r (me_r (me_l (List.mem_of_getElem? (i := 17) rfl))))))))) (fa_c (me_s (me_l (me_l (me_l (me_l (me_r (me_r (me_l (List.mem_of_getElem? (i := 18) rfl))))))))) (fa_c (me_s (me_l (me_l (me_l (me_l (me_r (me_r (me_l (List.mem_of_getElem? (i := 19) rfl))))))))) fa_n)))))))))))))))))))))))) (fa_a (fa_c (me_s (me_l (me_l (me_l (me_l (me_r (me_r (me_l (List.mem_of_getElem? (i := 20) rfl))))))))) (fa_c (me_s (me_l (me_l (me_l (me_l (me_r (me_r (me_l (List.mem_of_getElem? (i := 21) rfl))))))))) (fa_c (me_s (me_l (me_l (me_l (me_l (me_r (me_r (me_l (List.mem_of_getElem? (i := 22) rfl))))))))) (fa_c (me_s (me_l (me_l (me_l (me_l (me_r (me_r (me_l (List.mem_of_getElem? (i := 23) rfl))))))))) (fa_c (me_s (me_l (me_l (me_l (me_l (me_r (me_r (me_r (me_l (List.mem_of_getElem? (i := 0) rfl)))))))))) (fa_c (me_s (me_l (me_l (me_l (me_l (me_r (me_r (me_r (me_l (List.mem_of_getElem? (i := 1) rfl)))))))))) (fa_c (me_s (me_l (me_l (me_l (me_l (me_r (me_r (me_r (me_l (List.mem_of_getElem? (i := 2) rfl)))))))))) (fa_c (me_s (me_l (me_l (me_l (me_l (me_r (me_r (me_r (me_l (List.mem_of_getElem? (i := 3) rfl)))))))))) (fa_c (me_s (me_l (me_l (me_l (me_l (me_r (me_r (me_r (me_l (List.mem_of_getElem? (i := 4) rfl)))))))))) (fa_c (me_s (me_l (me_l (me_l (me_l (me_r (me_r (me_r (me_l (List.mem_of_getElem? (i := 5) rfl)))))))))) (fa_c (me_s (me_l (me_l (me_l (me_l (me_r (me_r (me_r (me_l (List.mem_of_getElem? (i := 6) rfl)))))))))) (fa_c (me_s (me_l (me_l (me_l (me_l (me_r (me_r (me_r (me_l (List.mem_of_getElem? (i := 7) rfl)))))))))) (fa_c (me_s (me_l (me_l (me_l (me_l (me_r (me_r (me_r (me_l (List.mem_of_getElem? (i := 8) rfl)))))))))) (fa_c (me_s (me_l (me_l (me_l (me_l (me_r (me_r (me_r (me_l (List.mem_of_getElem? (i := 9) rfl)))))))))) (fa_c (me_s (me_l (me_l (me_l (me_l (me_r (me_r (me_r (me_l (List.mem_of_getElem? (i := 10) rfl)))))))))) (fa_c (me_s (me_l (me_l (me_l (me_l (me_r (me_r (me_r (me_l (List.mem_of_getElem? (i := 11) rfl)))))))))) (fa_c (me_s (me_l (me_l (me_l (me_l (me_r (me_r (me_r (me_l (List.mem_of_getElem? (i := 12) rfl)))))))))) (fa_c (me_s (me_l (me_l (me_l (me_l (me_r (me_r (me_r (me_l (List.mem_of_getElem? (i := 13) rfl)))))))))) (fa_c (me_s (me_l (me_l (me_l (me_l (me_r (me_r (me_r (me_l (List.mem_of_getElem? (i := 14) rfl)))))))))) (fa_c (me_s (me_l (me_l (me_l (me_l (me_r (me_r (me_r (me_l (List.mem_of_getElem? (i := 15) rfl)))))))))) (fa_c (me_s (me_l (me_l (me_l (me_l (me_r (me_r (me_r (me_l (List.mem_of_getElem? (i := 16) rfl)))))))))) (fa_c (me_s (me_l (me_l (me_l (me_l (me_r (me_r (me_r (me_l (List.mem_of_getElem? (i := 17) rfl)))))))))) (fa_c (me_s (me_l (me_l (me_l (me_l (me_r (me_r (me_r (me_l (List.mem_of_getElem? (i := 18) rfl)))))))))) (fa_c (me_s (me_l (me_l (me_l (me_l (me_r (me_r (me_r (me_l (List.mem_of_getElem? (i := 19) rfl)))))))))) fa_n)))))))))))))))))))))))) (fa_a (fa_c (me_s (me_l (me_l (me_l (me_l (me_r (me_r (me_r (me_l (List.mem_of_getElem? (i := 20) rfl)))))))))) (fa_c (me_s (me_l (me_l (me_l (me_l (me_r (me_r (me_r (me_l (List.mem_of_getElem? (i := 21) rfl)))))))))) (fa_c (me_s (me_l (me_l (me_l (me_l (me_r (me_r (me_r (me_l (List.mem_of_getElem? (i := 22) rfl)))))))))) (fa_c (me_s (me_l (me_l (me_l (me_l (me_r (me_r (me_r (me_l (List.mem_of_getElem? (i := 23) rfl)))))))))) (fa_c (me_s (me_l (me_l (me_l (me_l (me_r (me_r (me_r (me_r (me_l (List.mem_of_getElem? (i := 0) rfl))))))))))) (fa_c (me_s (me_l (me_l (me_l (me_l (me_r (me_r (me_r (me_r (me_l (List.mem_of_getElem? (i := 1) rfl))))))))))) (fa_c (me_s (me_l (me_l (me_l (me_l (me_r (me_r (me_r (me_r (me_l (List.mem_of_getElem? (i := 2) rfl))))))))))) (fa_c (me_s (me_l (me_l (me_l (me_l (me_r (me_r (me_r (me_r (me_l (List.mem_of_getElem? (i := 3) rfl))))))))))) (fa_c (me_s (me_l (me_l (me_l (me_l (me_r (me_r (me_r (me_r (me_l (List.mem_of_getElem? (i := 4) rfl))))))))))) (fa_c (me_s (me_l (me_l (me_l (me_l (me_r (me_r (me_r (me_r (me_l (List.mem_of_getElem? (i := 5) rfl))))))))))) (fa_c (me_s (me_l (me_l (me_l (me_l (me_r (me_r (me_r (me_r (me_l (List.mem_of_getElem? (i := 6) rfl))))))))))) (fa_c (me_s (me_l (me_l (me_l (me_l (me_r (me_r (me_r (me_r (me_l (List.mem_of_getElem? (i := 7) rfl))))))))))) (fa_c (me_s (me_l (me_l (me_l (me_l (me_r (me_r (me_r (me_r (me_l (List.mem_of_getElem? (i := 8) rfl))))))))))) (fa_c (me_s (me_l (me_l (me_l (me_l (me_r (me_r (me_r (me_r (me_l (List.mem_of_getElem? (i := 9) rfl))))))))))) (fa_c (me_s (me_l (me_l (me_l (me_l (me_r (me_r (me_r (me_r (me_l (List.mem_of_getElem? (i := 10) rfl))))))))))) (fa_c (me_s (me_l (me_l (me_l (me_l (me_r (me_r (me_r (me_r (me_l (List.mem_of_getElem? (i := 11) rfl))))))))))) (fa_c (me_s (me_l (me_l (me_l (me_l (me_r (me_r (me_r (me_r (me_l (List.mem_of_getElem? (i := 12) rfl))))))))))) (fa_c (me_s (me_l (me_l (me_l (me_l (me_r (me_r (me_r (me_r (me_l (List.mem_of_getElem? (i := 13) rfl))))))))))) (fa_c (me_s (me_l (me_l (me_l (me_l (me_r (me_r (me_r (me_r (me_l (List.mem_of_getElem? (i := 14) rfl))))))))))) (fa_c (me_s (me_l (me_l (me_l (me_l (me_r (me_r (me_r (me_r (me_l (List.mem_of_getElem? (i := 15) rfl))))))))))) (fa_c (me_s (me_l (me_l (me_l (me_l (me_r (me_r (me_r (me_r (me_l (List.mem_of_getElem? (i := 16) rfl))))))))))) (fa_c (me_s (me_l (me_l (me_l (me_l (me_r (me_r (me_r (me_r (me_l (List.mem_of_getElem? (i := 17) rfl))))))))))) (fa_c (me_s (me_l (me_l (me_l (me_l (me_r (me_r (me_r (me_r (me_l (List.mem_of_getElem? (i := 18) rfl))))))))))) (fa_c (me_s (me_l (me_l (me_l (me_l (me_r (me_r (me_r (me_r (me_l (List.mem_of_getElem? (i := 19) rfl))))))))))) fa_n)))))))))))))))))))))))) (fa_a (fa_c (me_s (me_l (me_l (me_l (me_l (me_r (me_r (me_r (me_r (me_l (List.mem_of_getElem? (i := 20) rfl))))))))))) (fa_c (me_s (me_l (me_l (me_l (me_l (me_r (me_r (me_r (me_r (me_l (List.mem_of_getElem? (i := 21) rfl))))))))))) (fa_c (me_s (me_l (me_l (me_l (me_l (me_r (me_r (me_r (me_r (me_l (List.mem_of_getElem? (i := 22) rfl))))))))))) (fa_c (me_s (me_l (me_l (me_l (me_l (me_r (me_r (me_r (me_r (me_l (List.mem_of_getElem? (i := 23) rfl))))))))))) (fa_c (me_s (me_l (me_l (me_l (me_l (me_r (me_r (me_r (me_r (me_r (me_l (List.mem_of_getElem? (i := 0) rfl)))))))))))) (fa_c (me_s (me_l (me_l (me_l (me_l (me_r (me_r (me_r (me_r (me_r (me_l (List.mem_of_getElem? (i := 1) rfl)))))))))))) (fa_c (me_s (me_l (me_l (me_l (me_l (me_r (me_r (me_r (me_r (me_r (me_l (List.mem_of_getElem? (i := 2) rfl)))))))))))) (fa_c (me_s (me_l (me_l (me_l (me_l (me_r (me_r (me_r (me_r (me_r (me_l (List.mem_of_getElem? (i := 3) rfl)))))))))))) (fa_c (me_s (me_l (me_l (me_l (me_l (me_r (me_r (me_r (me_r (me_r (me_l (List.mem_of_getElem? (i := 4) rfl)))))))))))) (fa_c (me_s (me_l (me_l (me_l (me_l (me_r (me_r (me_r (me_r (me_r (me_l (List.mem_of_getElem? (i := 5) rfl)))))))))))) (fa_c (me_s (me_l (me_l (me_l (me_l (me_r (me_r (me_r (me_r (me_r (me_l (List.mem_of_getElem? (i := 6) rfl)))))))))))) (fa_c (me_s (me_l (me_l (me_l (me_l (me_r (me_r (me_r (me_r (me_r (me_l (List.mem_of_getElem? (i := 7) rfl)))))))))))) (fa_c (me_s (me_l (me_l (me_l (me_l (me_r (me_r (me_r (me_r (me_r (me_l (List.mem_of_getElem? (i := 8) rfl)))))))))))) (fa_c (me_s (me_l (me_l (me_l (me_l (me_r (me_r (me_r (me_r (me_r (me_l (List.mem_of_getElem? (i := 9) rfl)))))))))))) (fa_c (me_s (me_l (me_l (me_l (me_l (me_r (me_r (me_r (me_r (me_r (me_l (List.mem_of_getElem? (i := 10) rfl)))))))))))) (fa_c (me_s (me_l (me_l (me_l (me_l (me_r (me_r (me_r (me_r (me_r (me_l (List.mem_of_getElem? (i := 11) rfl)))))))))))) (fa_c (me_s (me_l (me_l (me_l (me_l (me_r (me_r (me_r (me_r (me_r (me_l (List.mem_of_getElem? (i := 12) rfl)))))))))))) (fa_c (me_s (me_l (me_l (me_l (me_l (me_r (me_r (me_r (me_r (me_r (me_l (List.mem_of_getElem? (i := 13) rfl)))))))))))) (fa_c (me_s (me_l (me_l (me_l (me_l (me_r (me_r (me_r (me_r (me_r (me_l (List.mem_of_getElem? (i := 14) rfl)))))))))))) (fa_c (me_s (me_l (me_l (me_l (me_l (me_r (me_r (me_r (me_r (me_r (me_l (List.mem_of_getElem? (i := 15) rfl)))))))))))) (fa_c (me_s (me_l (me_l (me_l (me_l (me_r (me_r (me_r (me_r (me_r (me_l (List.mem_of_getElem? (i := 16) rfl)))))))))))) (fa_c (me_s (me_l (me_l (me_l (me_l (me_r (me_r (me_r (me_r (me_r (me_l (List.mem_of_getElem? (i := 17) rfl)))))))))))) (fa_c (me_s (me_l (me_l (me_l (me_l (me_r (me_r (me_r (me_r (me_r (me_l (List.mem_of_getElem? (i := 18) rfl)))))))))))) (fa_c (me_s (me_l (me_l (me_l (me_l (me_r (me_r (me_r (me_r (me_r (me_l (List.mem_of_getElem? (i := 19) rfl)))))))))))) fa_n)))))))))))))))))))))))) (fa_a (fa_c (me_s (me_l (me_l (me_l (me_l (me_r (me_r (me_r (me_r (me_r (me_l (List.mem_of_getElem? (i := 20) rfl)))))))))))) (fa_c (me_s (me_l (me_l (me_l (me_l (me_r (me_r (me_r (me_r (me_r (me_l (List.mem_of_getElem? (i := 21) rfl)))))))))))) (fa_c (me_s (me_l (me_l (me_l (me_l (me_r (me_r (me_r (me_r (me_r (me_l (List.mem_of_getElem? (i := 22) rfl)))))))))))) (fa_c (me_s (me_l (me_l (me_l (me_l (me_r (me_r (me_r (me_r (me_r (me_l (List.mem_of_getElem? (i := 23) rfl)))))))))))) (fa_c (me_s (me_l (me_l (me_l (me_l (me_r (me_r (me_r (me_r (me_r (me_r (me_l (List.mem_of_getElem? (i := 0) rfl))))))))))))) (fa_c (me_s (me_l (me_l (me_l (me_l (me_r (me_r (me_r (me_r (me_r (me_r (me_l (List.mem_of_getElem? (i := 1) rfl))))))))))))) (fa_c (me_s (me_l (me_l (me_l (me_l (me_r (me_r (me_r (me_r (me_r (me_r (me_l (List.mem_of_getElem? (i := 2) rfl))))))))))))) (fa_c (me_s (me_l (me_l (me_l (me_l (me_r (me_r (me_r (me_r (me_r (me_r (me_l (List.mem_of_getElem? (i := 3) rfl))))))))))))) (fa_c (me_s (me_l (me_l (me_l (me_l (me_r (me_r (me_r (me_r (me_r (me_r (me_l (List.mem_of_getElem? (i := 4) rfl))))))))))))) (fa_c (me_s (me_l (me_l (me_l (me_l (me_r (me_r (me_r (me_r (me_r (me_r (me_l (List.mem_of_getElem? (i := 5) rfl))))))))))))) (fa_c (me_s (me_l (me_l (me_l (me_l (me_r (me_r (me_r (me_r (me_r (me_r (me_l (List.mem_of_getElem? (i := 6) rfl))))))))))))) (fa_c (me_s (me_l (me_l (me_l (me_l (me_r (me_r (me_r (me_r (me_r (me_r (me_l (List.mem_of_getElem? (i := 7) rfl))))))))))))) (fa_c (me_s (me_l (me_l (me_l (me_l (me_r (me_r (me_r (me_r (me_r (me_r (me_l (List.mem_of_getElem? (i := 8) rfl))))))))))))) (fa_c (me_s (me_l (me_l (me_l (me_l (me_r (me_r (me_r (me_r (me_r (me_r (me_l (List.mem_of_getElem? (i := 9) rfl))))))))))))) (fa_c (me_s (me_l (me_l (me_l (me_l (me_r (me_r (me_r (me_r (me_r (me_r (me_l (List.mem_of_getElem? (i := 10) rfl))))))))))))) (fa_c (me_s (me_l (me_l (me_l (me_l (me_r (me_r (me_r (me_r (me_r (me_r (me_l (List.mem_of_getElem? (i := 11) rfl))))))))))))) (fa_c (me_s (me_l (me_l (me_l (me_l (me_r (me_r (me_r (me_r (me_r (me_r (me_l (List.mem_of_getElem? (i := 12) rfl))))))))))))) (fa_c (me_s (me_l (me_l (me_l (me_l (me_r (me_r (me_r (me_r (me_r (me_r (me_l (List.mem_of_getElem? (i := 13) rfl))))))))))))) (fa_c (me_s (me_l (me_l (me_l (me_l (me_r (me_r (me_r (me_r (me_r (me_r (me_l (List.mem_of_getElem? (i := 14) rfl))))))))))))) (fa_c (me_s (me_l (me_l (me_l (me_l (me_r (me_r (me_r (me_r (me_r (me_r (me_l (List.mem_of_getElem? (i := 15) rfl))))))))))))) (fa_c (me_s (me_l (me_l (me_l (me_l (me_r (me_r (me_r (me_r (me_r (me_r (me_l (List.mem_of_getElem? (i := 16) rfl))))))))))))) (fa_c (me_s (me_l (me_l (me_l (me_l (me_r (me_r (me_r (me_r (me_r (me_r (me_l (List.mem_of_getElem? (i := 17) rfl))))))))))))) (fa_c (me_s (me_l (me_l (me_l (me_l (me_r (me_r (me_r (me_r (me_r (me_r (me_l (List.mem_of_getElem? (i := 18) rfl))))))))))))) (fa_c (me_s (me_l (me_l (me_l (me_l (me_r (me_r (me_r (me_r (me_r (me_r (me_l (List.mem_of_getElem? (i := 19) rfl))))))))))))) fa_n)))))))))))))))))))))))) (fa_a (fa_c (me_s (me_l (me_l (me_l (me_l (me_r (me_r (me_r (me_r (me_r (me_r (me_l (List.mem_of_getElem? (i := 20) rfl))))))))))))) (fa_c (me_s (me_l (me_l (me_l (me_l (me_r (me_r (me_r (me_r (me_r (me_r (me_l (List.mem_of_getElem? (i := 21) rfl))))))))))))) (fa_c (me_s (me_l (me_l (me_l (me_l (me_r (me_r (me_r (me_r (me_r (me_r (me_l (List.mem_of_getElem? (i := 22) rfl))))))))))))) (fa_c (me_s (me_l (me_l (me_l (me_l (me_r (me_r (me_r (me_r (me_r (me_r (me_l (List.mem_of_getElem? (i := 23) rfl))))))))))))) (fa_c (me_s (me_l (me_l (me_l (me_l (me_r (me_r (me_r (me_r (me_r (me_r (me_r (me_l (List.mem_of_getElem? (i := 0) rfl)))))))))))))) (fa_c (me_s (me_l (me_l (me_l (me_l (me_r (me_r (me_r (me_r (me_r (me_r (me_r (me_l (List.mem_of_getElem? (i := 1) rfl)))))))))))))) (fa_c (me_s (me_l (me_l (me_l (me_l (me_r (me_r (me_r (me_r (me_r (me_r (me_r (me_l (List.mem_of_getElem? (i := 2) rfl)))))))))))))) (fa_c (me_s (me_l (me_l (me_l (me_l (me_r (me_r (me_r (me_r (me_r (me_r (me_r (me_l (List.mem_of_getElem? (i := 3) rfl)))))))))))))) (fa_c (me_s (me_l (me_l (me_l (me_l (me_r (me_r (me_r (me_r (me_r (me_r (me_r (me_l (List.mem_of_getElem? (i := 4) rfl)))))))))))))) (fa_c (me_s (me_l (me_l (me_l (me_l (me_r (me_r (me_r (me_r (me_r (me_r (me_r (me_l (List.mem_of_getElem? (i := 5) rfl)))))))))))))) (fa_c (me_s (me_l (me_l (me_l (me_l (me_r (me_r (me_r (me_r (me_r (me_r (me_r (me_l (List.mem_of_getElem? (i := 6) rfl)))))))))))))) (fa_c (me_s (me_l (me_l (me_l (me_l (me_r (me_r (me_r (me_r (me_r (me_r (me_r (me_l (List.mem_of_getElem? (i := 7) rfl)))))))))))))) (fa_c (me_s (me_l (me_l (me_l (me_l (me_r (me_r (me_r (me_r (me_r (me_r (me_r (me_l (List.mem_of_getElem? (i := 8) rfl)))))))))))))) (fa_c (me_s (me_l (me_l (me_l (me_l (me_r (me_r (me_r (me_r (me_r (me_r (me_r (me_l (List.mem_of_getElem? (i := 9) rfl)))))))))))))) (fa_c (me_s (me_l (me_l (me_l (me_l (me_r (me_r (me_r (me_r (me_r (me_r (me_r (me_l (List.mem_of_getElem? (i := 10) rfl)))))))))))))) (fa_c (me_s (me_l (me_l (me_l (me_l (me_r (me_r (me_r (me_r (me_r (me_r (me_r (me_l (List.mem_of_getElem? (i := 11) rfl)))))))))))))) (fa_c (me_s (me_l (me_l (me_l (me_l (me_r (me_r (me_r (me_r (me_r (me_r (me_r (me_l (List.mem_of_getElem? (i := 12) rfl)))))))))))))) (fa_c (me_s (me_l (me_l (me_l (me_l (me_r (me_r (me_r (me_r (me_r (me_r (me_r (me_l (List.mem_of_getElem? (i := 13) rfl)))))))))))))) (fa_c (me_s (me_l (me_l (me_l (me_l (me_r (me_r (me_r (me_r (me_r (me_r (me_r (me_l (List.mem_of_getElem? (i := 14) rfl)))))))))))))) (fa_c (me_s (me_l (me_l (me_l (me_l (me_r (me_r (me_r (me_r (me_r (me_r (me_r (me_l (List.mem_of_getElem? (i := 15) rfl)))))))))))))) (fa_c (me_s (me_l (me_l (me_l (me_l (me_r (me_r (me_r (me_r (me_r (me_r (me_r (me_l (List.mem_of_getElem? (i := 16) rfl)))))))))))))) (fa_c (me_s (me_l (me_l (me_l (me_l (me_r (me_r (me_r (me_r (me_r (me_r (me_r (me_l (List.mem_of_getElem? (i := 17) rfl)))))))))))))) (fa_c (me_s (me_l (me_l (me_l (me_l (me_r (me_r (me_r (me_r (me_r (me_r (me_r (me_l (List.mem_of_getElem? (i := 18) rfl)))))))))))))) (fa_c (me_s (me_l (me_l (me_l (me_l (me_r (me_r (me_r (me_r (me_r (me_r (me_r (me_l (List.mem_of_getElem? (i := 19) rfl)))))))))))))) fa_n)))))))))))))))))))))))) (fa_c (me_s (me_l (me_l (me_l (me_l (me_r (me_r (me_r (me_r (me_r (me_r (me_r (me_l (List.mem_of_getElem? (i := 20) rfl)))))))))))))) (fa_c (me_s (me_l (me_l (me_l (me_l (me_r (me_r (me_r (me_r (me_r (me_r (me_r (me_l (List.mem_of_getElem? (i := 21) rfl)))))))))))))) (fa_c (me_s (me_l (me_l (me_l (me_l (me_r (me_r (me_r (me_r (me_r (me_r (me_r (me_l (List.mem_of_getElem? (i := 22) rfl)))))))))))))) (fa_c (me_s (me_l (me_l (me_l (me_l (me_r (me_r (me_r (me_r (me_r (me_r (me_r (me_l (List.mem_of_getElem? (i := 23) rfl)))))))))))))) (fa_c (me_s (me_l (me_l (me_l (me_l (me_r (me_r (me_r (me_r (me_r (me_r (me_r (me_r (me_l (List.mem_of_getElem? (i := 0) rfl))))))))))))))) (fa_c (me_s (me_l (me_l (me_l (me_l (me_r (me_r (me_r (me_r (me_r (me_r (me_r (me_r (me_l (List.mem_of_getElem? (i := 1) rfl))))))))))))))) fa_n))))))))))))) (fun w h => (me_s (me_l (me_l (me_r h))))))) (by decide +kernel)
set_option maxRecDepth 20000 in
theorem gX11_orders_X9_read : GoodIn wsX11_orders (wsV RX11 128 RX9 yX9_read wsX9_read) := goodIn_app (goodIn_sub (fa_c (me_s (me_l (me_l (me_l (me_l (me_l (List.mem_of_getElem? (i := 16) rfl))))))) (fa_c (me_s (me_l (me_l (me_l (me_l (me_l (List.mem_of_getElem? (i := 17) rfl))))))) (fa_c (me_s (me_l (me_l (me_l (me_l (me_l (List.mem_of_getElem? (i := 18) rfl))))))) (fa_c (me_s (me_l (me_l (me_l (me_l (me_l (List.mem_of_getElem? (i := 19) rfl))))))) fa_n)))) (by decide +kernel)) ggX11_orders_X9_read
theorem dX11_orders_46 : decode cX11_orders 46 = .ok (.invokevirtual 128, 3) := z_dd_182 (by decide +kernel)
theorem dX11_orders_49 : decode cX11_orders 49 = .ok (.putfield 9, 3) := z_dd_181 (by decide +kernel)
theorem dX11_orders_52 : decode cX11_orders 52 = .ok (.aload_n 0, 1) := z_dd_42 (by decide +kernel)
theorem dX11_orders_53 : decode cX11_orders 53 = .ok (.getfield 9, 3) := z_dd_180 (by decide +kernel)
theorem dX11_orders_56 : decode cX11_orders 56 = .ok (.iconst (-1), 1) := z_dd_2 (by decide +kernel)
theorem dX11_orders_57 : decode cX11_orders 57 = .ok (.if_icmp .eq 5, 3) := z_dd_159 (by decide +kernel)
theorem dX11_orders_62 : decode cX11_orders 62 = .ok (.aload_n 0, 1) := z_dd_42 (by decide +kernel)
theorem dX11_orders_63 : decode cX11_orders 63 = .ok (.getfield 30, 3) := z_dd_180 (by decide +kernel)
theorem dX11_orders_66 : decode cX11_orders 66 = .ok (.new 132, 3) := z_dd_187 (by decide +kernel)
theorem dX11_orders_69 : decode cX11_orders 69 = .ok (.dup, 1) := z_dd_89 (by decide +kernel)
theorem dX11_orders_70 : decode cX11_orders 70 = .ok (.aload_n 0, 1) := z_dd_42 (by decide +kernel)
theorem dX11_orders_71 : decode cX11_orders 71 = .ok (.getfield 23, 3) := z_dd_180 (by decide +kernel)
theorem dX11_orders_74 : decode cX11_orders 74 = .ok (.iload_n 2, 1) := z_dd_28 (by decide +kernel)
theorem dX11_orders_75 : decode cX11_orders 75 = .ok (.aload_n 0, 1) := z_dd_42 (by decide +kernel)
theorem dX11_orders_76 : decode cX11_orders 76 = .ok (.getfield 85, 3) := z_dd_180 (by decide +kernel)
set_option maxRecDepth 20000 in
theorem ggX11_orders_X7_init : GoodIn wsX11_orders wsX7_init := goodIn_sub (fa_c (me_s (me_l (me_l (me_l (me_l (me_r (me_r (me_r (me_r (me_r (me_r (me_r (me_r (me_l (List.mem_of_getElem? (i := 4) rfl))))))))))))))) (fa_a (fa_a (fa_a (fa_c (me_s (me_l (me_l (me_l (me_l (me_r (me_r (me_r (me_r (me_r (me_r (me_r (me_r (me_l (List.mem_of_getElem? (i := 5) rfl))))))))))))))) (fa_c (me_s (me_l (me_l (me_l (me_l (me_r (me_r (me_r (me_r (me_r (me_r (me_r (me_r (me_l (List.mem_of_getElem? (i := 6) rfl))))))))))))))) (fa_c (me_s (me_l (me_l (me_l (me_l (me_r (me_r (me_r (me_r (me_r (me_r (me_r (me_r (me_l (List.mem_of_getElem? (i := 7) rfl))))))))))))))) (fa_c (me_s (me_l (me_l (me_l (me_l (me_r (me_r (me_r (me_r (me_r (me_r (me_r (me_r (me_l (List.mem_of_getElem? (i := 8) rfl))))))))))))))) (fa_c (me_s (me_l (me_l (me_l (me_l (me_r (me_r (me_r (me_r (me_r (me_r (me_r (me_r (me_l (List.mem_of_getElem? (i := 9) rfl))))))))))))))) (fa_c (me_s (me_l (me_l (me_l (me_l (me_r (me_r (me_r (me_r (me_r (me_r (me_r (me_r (me_l (List.mem_of_getElem? (i := 10) rfl))))))))))))))) (fa_c (me_s (me_l (me_l (me_l (me_l (me_r (me_r (me_r (me_r (me_r (me_r (me_r (me_r (me_l (List.mem_of_getElem? (i := 11) rfl))))))))))))))) (fa_c (me_s (me_l (me_l (me_l (me_l (me_r (me_r (me_r (me_r (me_r (me_r (me_r (me_r (me_l (List.mem_of_getElem? (i := 12) rfl))))))))))))))) (fa_c (me_s (me_l (me_l (me_l (me_l (me_r (me_r (me_r (me_r (me_r (me_r (me_r (me_r (me_l (List.mem_of_getElem? (i := 13) rfl))))))))))))))) (fa_c (me_s (me_l (me_l (me_l (me_l (me_r (me_r (me_r (me_r (me_r (me_r (me_r (me_r (me_l (List.mem_of_getElem? (i := 14) rfl))))))))))))))) (fa_c (me_s (me_l (me_l (me_l (me_l (me_r (me_r (me_r (me_r (me_r (me_r (me_r (me_r (me_l (List.mem_of_getElem? (i := 15) rfl))))))))))))))) (fa_c (me_s (me_l (me_l (me_l (me_l (me_r (me_r (me_r (me_r (me_r (me_r (me_r (me_r (me_l (List.mem_of_getElem? (i := 16) rfl))))))))))))))) (fa_c (me_s (me_l (me_l (me_l (me_l (me_r (me_r (me_r (me_r (me_r (me_r (me_r (me_r (me_l (List.mem_of_getElem? (i := 17) rfl))))))))))))))) (fa_c (me_s (me_l (me_l (me_l (me_l (me_r (me_r (me_r (me_r (me_r (me_r (me_r (me_r (me_l (List.mem_of_getElem? (i := 18) rfl))))))))))))))) (fa_c (me_s (me_l (me_l (me_l (me_l (me_r (me_r (me_r (me_r (me_r (me_r (me_r (me_r (me_l (List.mem_of_getElem? (i := 19) rfl))))))))))))))) (fa_c (me_s (me_l (me_l (me_l (me_l (me_l (List.mem_of_getElem? (i := 14) rfl))))))) (fa_c (me_s (me_l (me_l (me_l (me_l (me_l (List.mem_of_getElem? (i := 11) rfl))))))) (fa_c (me_s (me_l (me_l (me_l (me_l (me_l (List.mem_of_getElem? (i := 15) rfl))))))) (fa_c (me_s (me_l (me_l (me_l (me_l (me_r (me_r (me_r (me_r (me_r (me_r (me_r (me_r (me_l (List.mem_of_getElem? (i := 20) rfl))))))))))))))) (fa_c (me_s (me_l (me_l (me_l (me_l (me_r (me_r (me_r (me_r (me_r (me_r (me_r (me_r (me_l (List.mem_of_getElem? (i := 21) rfl))))))))))))))) (fa_c (me_s (me_l (me_l (me_l (me_l (me_r (me_r (me_r (me_r (me_r (me_r (me_r (me_r (me_l (List.mem_of_getElem? (i := 22) rfl))))))))))))))) (fa_c (me_s (me_l (me_l (me_l (me_l (me_r (me_r (me_r (me_r (me_r (me_r (me_r (me_r (me_l (List.mem_of_getElem? (i := 23) rfl))))))))))))))) (fa_c (me_s (me_l (me_l (me_l (me_l (me_r (me_r (me_r (me_r (me_r (me_r (me_r (me_r (me_r (List.mem_of_getElem? (i := 0) rfl))))))))))))))) (fa_c (me_s (me_l (me_l (me_l (me_l (me_r (me_r (me_r (me_r (me_r (me_r (me_r (me_r (me_r (List.mem_of_getElem? (i := 1) rfl))))))))))))))) fa_n)))))))))))))))))))))))) (fa_c (me_s (me_l (me_l (me_l (me_l (me_r (me_r (me_r (me_r (me_r (me_r (me_r (me_r (me_r (List.mem_of_getElem? (i := 2) rfl))))))))))))))) (fa_c (me_s (me_l (me_l (me_l (me_l (me_r (me_r (me_r (me_r (me_r (me_r (me_r (me_r (me_r (List.mem_of_getElem? (i := 3) rfl))))))))))))))) (fa_c (me_s (me_l (me_l (me_l (me_l (me_r (me_r (me_r (me_r (me_r (me_r (me_r (me_r (me_r (List.mem_of_getElem? (i := 4) rfl))))))))))))))) (fa_c (me_s (me_l (me_l (me_l (me_l (me_r (me_r (me_r (me_r (me_r (me_r (me_r (me_r (me_r (List.mem_of_getElem? (i := 5) rfl))))))))))))))) (fa_c (me_s (me_l (me_l (me_l (me_l (me_r (me_r (me_r (me_r (me_r (me_r (me_r (me_r (me_r (List.mem_of_getElem? (i := 6) rfl))))))))))))))) (fa_c (me_s (me_l (me_l (me_l (me_l (me_r (me_r (me_r (me_r (me_r (me_r (me_r (me_r (me_r (List.mem_of_getElem? (i := 7) rfl))))))))))))))) (fa_c (me_s (me_l (me_l (me_l (me_l (me_l (List.mem_of_getElem? (i := 23) rfl))))))) (fa_c (me_s (me_l (me_l (me_l (me_l (me_r (me_l (List.mem_of_getElem? (i := 0) rfl)))))))) (fa_c (me_s (me_l (me_l (me_l (me_l (me_r (me_l (List.mem_of_getElem? (i := 1) rfl)))))))) (fa_c (me_s (me_l (me_l (me_l (me_l (me_r (me_r (me_r (me_r (me_r (me_r (me_r (me_r (me_r (List.mem_of_getElem? (i := 8) rfl))))))))))))))) (fa_c (me_s (me_l (me_l (me_l (me_l (me_r (me_r (me_r (me_r (me_r (me_r (me_r (me_r (me_r (List.mem_of_getElem? (i := 9) rfl))))))))))))))) (fa_c (me_s (me_l (me_l (me_l (me_l (me_r (me_r (me_r (me_r (me_r (me_r (me_r (me_r (me_r (List.mem_of_getElem? (i := 10) rfl))))))))))))))) (fa_c (me_s (me_l (me_l (me_l (me_l (me_r (me_r (me_r (me_r (me_r (me_r (me_r (me_r (me_r (List.mem_of_getElem? (i := 11) rfl))))))))))))))) fa_n)))))))))))))) (fun w h => (me_s (me_r h)))) (fun w h => (me_s (me_l (me_l (me_r h))))))) (by decide +kernel)
set_option maxRecDepth 20000 in
theorem gX11_orders_X7_init : GoodIn wsX11_orders (wsX7_init) := ggX11_orders_X7_init
theorem dX11_orders_79 : decode cX11_orders 79 = .ok (.invokespecial 134, 3) := z_dd_183 (by decide +kernel)
set_option maxRecDepth 20000 in
theorem ggX11_orders_X6_add : GoodIn wsX11_orders wsX6_add := goodIn_sub (fa_c (me_s (me_l (me_l (me_l (me_l (me_r (me_r (me_r (me_r (me_r (me_r (me_r (me_r (me_r (List.mem_of_getElem? (i := 16) rfl))))))))))))))) (fa_a (fa_c (me_s (me_l (me_l (me_l (me_l (me_r (me_r (me_r (me_r (me_r (me_r (me_r (me_r (me_r (List.mem_of_getElem? (i := 17) rfl))))))))))))))) (fa_c (me_s (me_l (me_l (me_l (me_l (me_r (me_r (me_r (me_r (me_r (me_r (me_r (me_r (me_r (List.mem_of_getElem? (i := 18) rfl))))))))))))))) fa_n)) (fun w h => (me_s (me_l (me_r h)))))) (by decide +kernel)
set_option maxRecDepth 20000 in
theorem gX11_orders_X6_add : GoodIn wsX11_orders (wsV RX11 137 RX6 yX6_add wsX6_add) := goodIn_app (goodIn_sub (fa_c (me_s (me_l (me_l (me_l (me_l (me_r (me_r (me_r (me_r (me_r (me_r (me_r (me_r (me_r (List.mem_of_getElem? (i := 12) rfl))))))))))))))) (fa_c (me_s (me_l (me_l (me_l (me_l (me_r (me_r (me_r (me_r (me_r (me_r (me_r (me_r (me_r (List.mem_of_getElem? (i := 13) rfl))))))))))))))) (fa_c (me_s (me_l (me_l (me_l (me_l (me_r (me_r (me_r (me_r (me_r (me_r (me_r (me_r (me_r (List.mem_of_getElem? (i := 14) rfl))))))))))))))) (fa_c (me_s (me_l (me_l (me_l (me_l (me_r (me_r (me_r (me_r (me_r (me_r (me_r (me_r (me_r (List.mem_of_getElem? (i := 15) rfl))))))))))))))) fa_n)))) (by decide +kernel)) ggX11_orders_X6_add
theorem dX11_orders_82 : decode cX11_orders 82 = .ok (.invokevirtual 137, 3) := z_dd_182 (by decide +kernel)
theorem dX11_orders_85 : decode cX11_orders 85 = .ok (.ireturn, 1) := z_dd_172 (by decide +kernel)
theorem dX11_orders_60 : decode cX11_orders 60 = .ok (.iconst (-1), 1) := z_dd_2 (by decide +kernel)
theorem dX11_orders_61 : decode cX11_orders 61 = .ok (.ireturn, 1) := z_dd_172 (by decide +kernel)
theorem dX11_orders_37 : decode cX11_orders 37 = .ok (.bipush (-3), 2) := z_dd_16 (by decide +kernel)
theorem dX11_orders_39 : decode cX11_orders 39 = .ok (.ireturn, 1) := z_dd_172 (by decide +kernel)
theorem dX11_feed_0 : decode cX11_feed 0 = .ok (.aload_n 0, 1) := z_dd_42 (by decide +kernel)
theorem dX11_feed_1 : decode cX11_feed 1 = .ok (.getfield 23, 3) := z_dd_180 (by decide +kernel)
theorem dX11_feed_4 : decode cX11_feed 4 = .ok (.getfield 115, 3) := z_dd_180 (by decide +kernel)
theorem dX11_feed_7 : decode cX11_feed 7 = .ok (.bipush 20, 2) := z_dd_16 (by decide +kernel)
theorem dX11_feed_9 : decode cX11_feed 9 = .ok (.iadd, 1) := z_dd_96 (by decide +kernel)
theorem dX11_feed_10 : decode cX11_feed 10 = .ok (.sipush 500, 3) := z_dd_17 (by decide +kernel)
theorem dX11_feed_13 : decode cX11_feed 13 = .ok (.if_icmp .le 5, 3) := z_dd_164 (by decide +kernel)
theorem dX11_feed_18 : decode cX11_feed 18 = .ok (.aload_n 0, 1) := z_dd_42 (by decide +kernel)
theorem dX11_feed_19 : decode cX11_feed 19 = .ok (.getfield 23, 3) := z_dd_180 (by decide +kernel)
theorem dX11_feed_22 : decode cX11_feed 22 = .ok (.iload_n 1, 1) := z_dd_27 (by decide +kernel)
set_option maxRecDepth 20000 in
theorem ggX11_feed_X9_put : GoodIn wsX11_feed wsX9_put := goodIn_sub (fa_c (me_s (me_l (me_l (List.mem_of_getElem? (i := 6) rfl)))) (fa_a (fa_c (me_s (me_l (me_l (List.mem_of_getElem? (i := 7) rfl)))) (fa_c (me_s (me_l (me_l (List.mem_of_getElem? (i := 8) rfl)))) fa_n)) (fun w h => (me_s (me_r h))))) (by decide +kernel)
set_option maxRecDepth 20000 in
theorem gX11_feed_X9_put : GoodIn wsX11_feed (wsV RX11 118 RX9 yX9_put wsX9_put) := goodIn_app (goodIn_sub (fa_c (me_s (me_l (me_l (List.mem_of_getElem? (i := 2) rfl)))) (fa_c (me_s (me_l (me_l (List.mem_of_getElem? (i := 3) rfl)))) (fa_c (me_s (me_l (me_l (List.mem_of_getElem? (i := 4) rfl)))) (fa_c (me_s (me_l (me_l (List.mem_of_getElem? (i := 5) rfl)))) fa_n)))) (by decide +kernel)) ggX11_feed_X9_put
theorem dX11_feed_23 : decode cX11_feed 23 = .ok (.invokevirtual 118, 3) := z_dd_182 (by decide +kernel)
theorem dX11_feed_26 : decode cX11_feed 26 = .ok (.aload_n 0, 1) := z_dd_42 (by decide +kernel)
theorem dX11_feed_27 : decode cX11_feed 27 = .ok (.getfield 23, 3) := z_dd_180 (by decide +kernel)
theorem dX11_feed_30 : decode cX11_feed 30 = .ok (.iload_n 2, 1) := z_dd_28 (by decide +kernel)
theorem dX11_feed_31 : decode cX11_feed 31 = .ok (.invokevirtual 118, 3) := z_dd_182 (by decide +kernel)
theorem dX11_feed_34 : decode cX11_feed 34 = .ok (.aload_n 0, 1) := z_dd_42 (by decide +kernel)
theorem dX11_feed_35 : decode cX11_feed 35 = .ok (.getfield 23, 3) := z_dd_180 (by decide +kernel)
theorem dX11_feed_38 : decode cX11_feed 38 = .ok (.iload_n 3, 1) := z_dd_29 (by decide +kernel)
theorem dX11_feed_39 : decode cX11_feed 39 = .ok (.invokevirtual 118, 3) := z_dd_182 (by decide +kernel)
theorem dX11_feed_42 : decode cX11_feed 42 = .ok (.aload_n 0, 1) := z_dd_42 (by decide +kernel)
theorem dX11_feed_43 : decode cX11_feed 43 = .ok (.getfield 23, 3) := z_dd_180 (by decide +kernel)
theorem dX11_feed_46 : decode cX11_feed 46 = .ok (.iload 4, 2) := z_dd_21 (by decide +kernel)
theorem dX11_feed_48 : decode cX11_feed 48 = .ok (.invokevirtual 118, 3) := z_dd_182 (by decide +kernel)
theorem dX11_feed_51 : decode cX11_feed 51 = .ok (.aload_n 0, 1) := z_dd_42 (by decide +kernel)
theorem dX11_feed_52 : decode cX11_feed 52 = .ok (.getfield 23, 3) := z_dd_180 (by decide +kernel)
theorem dX11_feed_55 : decode cX11_feed 55 = .ok (.iload 5, 2) := z_dd_21 (by decide +kernel)
theorem dX11_feed_57 : decode cX11_feed 57 = .ok (.invokevirtual 118, 3) := z_dd_182 (by decide +kernel)
theorem dX11_feed_60 : decode cX11_feed 60 = .ok (.aload_n 0, 1) := z_dd_42 (by decide +kernel)
theorem dX11_feed_61 : decode cX11_feed 61 = .ok (.getfield 23, 3) := z_dd_180 (by decide +kernel)
theorem dX11_feed_64 : decode cX11_feed 64 = .ok (.getfield 115, 3) := z_dd_180 (by decide +kernel)
theorem dX11_feed_67 : decode cX11_feed 67 = .ok (.ireturn, 1) := z_dd_172 (by decide +kernel)
theorem dX11_feed_16 : decode cX11_feed 16 = .ok (.iconst (-1), 1) := z_dd_2 (by decide +kernel)
theorem dX11_feed_17 : decode cX11_feed 17 = .ok (.ireturn, 1) := z_dd_172 (by decide +kernel)

/-! ORDERS are made: rows are copied -/
noncomputable def z_Cq (adK adV : Nat → Nat) (A : Nat → Prop) (s : State) (H : Heap) : Prop := z_Ck adK adV A s H ∧ va_Nw (.castable "[I" "java/lang/Cloneable") s
theorem z_Cq.nice (adK adV : Nat → Nat) : z_Nice (z_Cq adK adV) := by
  obtain ⟨h1, h2, h3, h4⟩ := z_Ck.nice adK adV
  exact ⟨fun A u U H e h => ⟨h1 A u U H e h.1, h.2.same rfl e.symm⟩, fun A s U H e h => ⟨h2 A s U H e h.1, h.2.warmC e⟩, fun A U H H1 h q => ⟨h3 A U H H1 h.1 q, h.2⟩, fun A B U H h q => ⟨h4 A B U H h.1 q, h.2⟩⟩
noncomputable def z_McqN (K : (Nat → Prop) → State → Heap → Prop) (l : Launch) (y : MethodName) (ws : List Cond) (rm : Room) (av : List Value) (G : z_G) (u u1 : z_U) (a n mc ms sz : Nat) : Prop := Met l y ws rm (z_PcN K G u av sz) (va_Qq (fun (r : Option Nat) (u2 : z_U) => r = some a ∧ u2 = u1) (fun u2 t => z_B G (z_A u sz) u2 t ∧ t.heap.size = sz + n) (z_A u sz)) mc ms (z_A u sz)
noncomputable def z_cpI (I : z_I) (i j : Nat) : z_I := fun a b => if a = j then I i b else I a b
theorem z_cpI_n {I : z_I} {i j a : Nat} (h : a ≠ j) : z_cpI I i j a = I a := by
  funext b
  exact if_neg h
theorem z_ofn {c : ClassId} {n : Nat} {f g : Nat → Value} (h : ∀ b, b < n → f b = g b) : arrV c n f = arrV c n g := by
  unfold arrV
  congr 2
  funext b
  exact h b.val b.isLt
section ZOR
variable {p : Program} {l : Launch} {e : Env} {R : Room} {s : State} {m : MethodId} {args : Array Value} {below : List Frame} {meth : Method} {c : Code} {H : Heap} {locs : List Loc} {cells slots : Nat} {Q : State → Prop}
variable {cc : ByteArray} {pc : Nat} {ls : Array Slot} {rest st0 : List Value} {G : z_G} {A : Nat → Prop} {H0 : Heap} {sh : Nat → Option z_S} {ad : Nat → Nat} {I : z_I} {J : z_J} {P : z_P} {u u1 : z_U}
theorem z_ccq {a n mc ms : Nat} {av : Array Value} (hW : z_W G A u H) (hS : va_S A H0 H locs) (hA : ∀ q : Nat, H0.size ≤ q → A q) (hr : va_Run p l e R s m args below meth c H locs cells slots mc ms (F0 m pc ls st0) rest (va_Qq (fun (r : Option Nat) (u2 : z_U) => r = some a ∧ u2 = u1) (fun u2 t => z_B G (z_A u H.size) u2 t ∧ t.heap.size = H.size + n) (z_A u H.size) av) (z_A u H.size))
    (kk : ∀ (H1 : Heap) (locs1 : List Loc), H1.size = H.size + n → z_W G A u1 H1 → va_S A H0 H1 locs1 → W p l e R s m args below meth c H1 locs1 (cells + mc) (slots + ms) Q (F0 m (pc + 3) ls (.ref a :: rest))) : W p l e R s m args below meth c H locs cells slots Q (F0 m pc ls st0) :=
  va_callq hr hS (fun q _ h => hW.free hS hA q h) (hW.free hS hA) (fun r u2 t H1 locs1 ht hvm hw hB hz1 hk1 hS1 => by
    obtain ⟨hr1, hw⟩ := hw
    rw [hr1]
    exact kk H1 locs1 (by rw [← ht]; exact hB.2) (by rw [← ht, ← hw]; exact hB.1.2.weaken (hW.free hS hA)) hS1)
theorem z_cqret {a n mc ms sz : Nat} {rt : FieldType} (hexec : p.tables.exec = Jvm.exec) (hb : c.code = cc) (hr : meth.sig.returnType = some (.array rt)) (hK : z_K G s) (hS : va_S A s.heap H locs) (hc : cells ≤ mc) (hs : slots ≤ ms) (hlocks : meth.locks = false) (hdg : decode cc pc = .ok (.areturn, 1)) (hz : H.size = sz + n) (hW : z_W G A u1 H) : W p l e R s m args below meth c H locs cells slots (MQ below (va_Qq (fun (r : Option Nat) (u2 : z_U) => r = some a ∧ u2 = u1) (fun u2 t => z_B G A u2 t ∧ t.heap.size = sz + n) A) args s mc ms A) (F0 m pc ls [.ref a]) :=
  W.widen hc hs (W.aret hexec hb hr (Or.inr ⟨_, rfl⟩) (Or.inr ⟨_, rfl⟩) (fun t ht hWm => ⟨⟨some a, u1, rfl, ⟨rfl, rfl⟩, ⟨hK.warm hWm, by rw [ht]; exact hW⟩, by rw [ht]; exact hz⟩, hS.F ht⟩) hS.2.2 hdg hlocks)
theorem z_nmI (hK : z_K G s) : s.vm.findClass "[I" = some (G.2 .int) := (hK.2.1 .int (by simp [z_tys])).2
theorem z_castI (hexec : p.tables.exec = Jvm.exec) (hb : c.code = cc) {own : String} {index a n : Nat} {f : Nat → Value} (hown : s.vm.findClass own = some m.cls) (hlink : (Cond.classLink own index "[I").before args s = true) (hK : z_K G s) (ha : H[a]? = some (arrV (G.2 .int) n f)) (hdg : decode cc pc = .ok (.checkcast index, 3))
    (k : W p l e R s m args below meth c H locs cells slots Q (F0 m (pc + 3) ls (.ref a :: rest))) : W p l e R s m args below meth c H locs cells slots Q (F0 m pc ls (.ref a :: rest)) := by
  intro T hT X
  obtain ⟨vm', X', st⟩ := X.checkcastYes hexec hown hlink (by rw [hT]; exact ha) rfl (z_nmI hK) (va_asg _ _) (g := F0 m pc ls (.ref a :: rest)) rfl rfl (by rw [hb]; exact hdg)
  obtain ⟨t, a1, b1⟩ := k (T.setVm vm') hT X'
  exact ⟨t, st t a1, b1⟩
/-- a copy of a row is made: cell j -/
theorem z_clone (hexec : p.tables.exec = Jvm.exec) (hb : c.code = cc) (hml : c.maxLocals = ls.size) {own : String} {index : Nat} (hown : s.vm.findClass own = some m.cls)
    (hlink : (Cond.methodLink own index ⟨"[I", "clone", "()Ljava/lang/Object;"⟩).before args s = true) (hsame : (Cond.sameMethod "[I" "java/lang/Object" "clone" "()Ljava/lang/Object;").before args s = true)
    (hnat : (Cond.native ⟨"java/lang/Object", "clone", "()Ljava/lang/Object;"⟩).before args s = true) (hinst : (Cond.instanceMethod ⟨"java/lang/Object", "clone", "()Ljava/lang/Object;"⟩).before args s = true)
    (hsel : (Cond.selects "[I" ⟨"[I", "clone", "()Ljava/lang/Object;"⟩ ⟨"java/lang/Object", "clone", "()Ljava/lang/Object;"⟩).before args s = true) (hcl : va_Nw (.castable "[I" "java/lang/Cloneable") s)
    (hK : z_K G s) (hW : z_W G A (sh, ad, I, J, P) H) (hS : va_S A H0 H locs) (hA : ∀ q : Nat, H0.size ≤ q → A q) {i n j : Nat} (hi : sh i = some (.inl (.int, n))) (hj : sh j = none) (hz : ad j = H.size)
    (hframes : 1 ≤ R.frames) (hlocals : (rest.map fun v => v.category).sum + 14 ≤ R.locals) (hcells : cells + 1 ≤ R.cells) (hslots : slots + n ≤ R.slots) (hdg : decode cc pc = .ok (.invokevirtual index, 3))
    (kk : ∀ (H1 : Heap), H1.size = H.size + 1 → z_W G A (z_sh sh j (.inl (.int, n)), ad, z_cpI I i j, J, P) H1 → va_S A H0 H1 locs → W p l e R s m args below meth c H1 locs (cells + 1) (slots + n) Q (F0 m (pc + 3) ls (.ref (ad j) :: rest))) : W p l e R s m args below meth c H locs cells slots Q (F0 m pc ls (.ref (ad i) :: rest)) := by
  obtain ⟨c0, t0', f1, f2, f3⟩ := Cond.castable_spec (va_Nw.use (A := args) rfl hcl)
  have hnm := z_nmI hK
  cases hnm.symm.trans f1
  intro T hT X
  have hcell0 : H[ad i]? = some (vp_cell (G.2 .int) (n, .inl (I i))) := hW.1 i _ hi
  have hcellT : T.heap[ad i]? = some (vp_cell (G.2 .int) (n, .inl (I i))) := by rw [hT]; exact hcell0
  obtain ⟨-, kA, hkA, comp, hkind⟩ := State.isArrayOf_alike X.warmed.alike ((hK.2.1 .int (by simp [z_tys])).1 0 (fun _ => .null))
  obtain ⟨-, kS, hkS, compS, hkindS⟩ := (hK.2.1 .int (by simp [z_tys])).1 0 (fun _ => .null)
  have hszc : (vp_cell (G.2 .int) (n, .inl (I i))).slots.size = n := arrV_size _ _ _
  obtain ⟨vm', X', st⟩ := X.cloneArray hexec hown hlink hsame hnat hinst hsel (a := ad i) (cell := vp_cell (G.2 .int) (n, .inl (I i))) hcellT (fun k h => by cases h) (fun h => by cases h) hnm f2 f3
    (fun q v hv => by
      have hk' : T.vm.classes[(G.2 .int)]? = some kA := hkA
      have hv' : (arrV (G.2 .int) n (fun b => Value.int (I i b))).slots[q]? = some v := hv
      by_cases hq : q < n
      · rw [arrV_read _ _ hq] at hv'
        cases hv'
        have hf : fits .int (.int (I i q)) = true := rfl
        rw [show (vp_cell (G.2 .int) (n, .inl (I i))).cls = G.2 .int from rfl]
        simpa [State.fitsSlot, State.slotType?, hk', hkind] using hf
      · rw [Array.getElem?_eq_none (by rw [arrV_size]; omega)] at hv'
        cases hv')
    (g := F0 m pc ls (.ref (ad i) :: rest)) rfl (by rw [hml]) rfl (by rw [hb]; exact hdg) hframes (by show 2 * 0 + _ + 14 ≤ _; omega) hcells (by rw [hszc]; exact hslots) (hloader := Vm.clonesLoader_of_array hkS hkindS)
  rw [hszc] at X'
  generalize hH1 : H.push (vp_cell (G.2 .int) (n, .inl (I i))) = H1
  have z1 : H1.size = H.size + 1 := by rw [← hH1, Array.size_push]
  have e1 : H1[H.size]? = some (vp_cell (G.2 .int) (n, .inl (I i))) := by rw [← hH1, Array.getElem?_push_size]
  have o1 : ∀ q : Nat, q < H.size → H1[q]? = H[q]? := fun q hq => by rw [← hH1, Array.getElem?_push, if_neg (Nat.ne_of_lt hq)]
  have hW2 : z_W G A (sh, ad, z_cpI I i j, J, P) H := hW.re fun a ha => ⟨rfl, fun k => ⟨by rw [z_cpI_n (fun e => ha (by rw [e]; exact hj))], rfl, rfl⟩⟩
  obtain ⟨t, b1, b2⟩ := kk H1 z1 (hW2.add hz (fun _ _ => rfl) (hA _ hS.1) o1 (by
    show H1[ad j]? = some (arrV (G.2 .int) n (fun b => Value.int (z_cpI I i j j b)))
    rw [hz, e1]
    show some (arrV (G.2 .int) n (fun b => Value.int (I i b))) = _
    rw [show (fun b => Value.int (z_cpI I i j j b)) = fun b => Value.int (I i b) from by
      funext b
      exact congrArg Value.int (if_pos rfl)])) (z_Sn hS (by omega) o1) ((T.setVm vm').pushCell (vp_cell (G.2 .int) (n, .inl (I i)))) (by rw [← hH1, ← hT]; rfl) X'
  refine ⟨t, st t ?_, b2⟩
  rw [hT, ← hz]
  exact b1
/-- the first k of row i are copied to row j -/
theorem z_cpy (hexec : p.tables.exec = Jvm.exec) (hb : c.code = cc) (hml : c.maxLocals = ls.size) {own : String} {index : Nat} (hown : s.vm.findClass own = some m.cls) (hlink : (Cond.methodLink own index arraycopyName).before args s = true) (hnat : (Cond.native arraycopyName).before args s = true) (hstat : (Cond.static arraycopyName).before args s = true) (hini : (Cond.initialized "java/lang/System").before args s = true)
    (hK : z_K G s) (hW : z_W G A (sh, ad, I, J, P) H) (hS : va_S A H0 H locs) {i n N' j : Nat} (hi : sh i = some (.inl (.int, n))) (hj : sh j = some (.inl (.int, N'))) (hij : i ≠ j) {k : Int32} (h3 : ¬ k < 0) (h4 : k.toNatClampNeg ≤ n) (h5 : k.toNatClampNeg = N') (hframes : 1 ≤ R.frames) (hlocals : (rest.map fun v => v.category).sum + (nativeFrameWords "java/lang/System" "arraycopy" 5 + 11) ≤ R.locals) (hdg : decode cc pc = .ok (.invokestatic index, 3))
    (kk : ∀ (H1 : Heap) (locs1 : List Loc), H1.size = H.size → z_W G A (sh, ad, z_cpI I i j, J, P) H1 → va_S A H0 H1 locs1 → W p l e R s m args below meth c H1 locs1 cells slots Q (F0 m (pc + 3) ls rest)) : W p l e R s m args below meth c H locs cells slots Q (F0 m pc ls (.int k :: .int 0 :: .ref (ad j) :: .int 0 :: .ref (ad i) :: rest)) := by
  intro T hT X
  have hc0 : H[ad i]? = some (vp_cell (G.2 .int) (n, .inl (I i))) := hW.1 i _ hi
  have hc1 : H[ad j]? = some (vp_cell (G.2 .int) (N', .inl (I j))) := hW.1 j _ hj
  obtain ⟨-, k0, hk0, cm0, hkk0⟩ := (hK.2.1 .int (by simp [z_tys])).1 n (fun j => .int (I i j))
  have z0 : (0 : Int32).toInt = 0 := by decide
  have zn : (0 : Int32).toNatClampNeg = 0 := by decide
  have hk9 : k.toInt = (k.toNatClampNeg : Int) := by
    have hz0 : (0 : Int) ≤ k.toInt := by
      have := Int32.not_lt.mp h3
      simpa using Int32.le_iff_toInt_le.mp this
    show k.toInt = ((k.toInt.toNat : Nat) : Int)
    omega
  obtain ⟨vm', X', step⟩ := X.arraycopy hexec hown hlink hnat hstat hini (src := ad i) (dst := ad j) (cs := vp_cell (G.2 .int) (n, .inl (I i))) (cd := vp_cell (G.2 .int) (N', .inl (I j))) (srcPos := 0) (destPos := 0) (n := k) (by rw [hT]; exact hc0) (by rw [hT]; exact hc1)
    (fun _ h => by cases h) (fun _ h => by cases h) (fun h => by cases h) (fun h => by cases h) hk0 hk0 hkk0 hkk0 (by first | rfl | simp [refKind]) (by decide) (by decide) h3
    (by rw [z0, hk9]; show ¬ _ > ((arrV (G.2 .int) n (fun j => .int (I i j))).slots.size : Int); rw [arrV_size]; omega)
    (by rw [z0, hk9]; show ¬ _ > ((arrV (G.2 .int) N' (fun q => .int (I j q))).slots.size : Int); rw [arrV_size]; omega)
    (fun vm₁ _ q hq => by
      have e : (vp_cell (G.2 .int) (n, .inl (I i))).slots.getD ((0 : Int32).toNatClampNeg + q) .null = .int (I i ((0 : Int32).toNatClampNeg + q)) := by
        show (arrV (G.2 .int) n (fun j => .int (I i j))).slots.getD _ _ = _
        rw [Array.getD_eq_getD_getElem?, arrV_read _ _ (by rw [zn]; omega)]
        rfl
      refine ⟨?_, ?_⟩
      · rw [e]
        rfl
      · rw [e]
        exact trivial)
    (g := F0 m pc ls (.int k :: .int 0 :: .ref (ad j) :: .int 0 :: .ref (ad i) :: rest)) rfl (by rw [hml]) (rest := rest) rfl (by rw [hb]; exact hdg) hframes (by show 2 * 0 + _ + _ ≤ _; omega)
  have e1 : copied (vp_cell (G.2 .int) (n, .inl (I i))) (vp_cell (G.2 .int) (N', .inl (I j))) 0 0 k = vp_cell (G.2 .int) (N', .inl (I i)) := by
    refine (va_copied (fun z => .int z) (G.2 .int) (G.2 .int) (sp := (0 : Int32).toNatClampNeg) (dp := (0 : Int32).toNatClampNeg) (n := k.toNatClampNeg) (I i) (I j) (by rw [zn]; omega)).trans ?_
    show arrV (G.2 .int) N' (fun q => Value.int (va_cpy (I i) (I j) (0 : Int32).toNatClampNeg (0 : Int32).toNatClampNeg k.toNatClampNeg q)) = arrV (G.2 .int) N' (fun q => Value.int (I i q))
    refine z_ofn fun b hb => ?_
    rw [zn]
    show Value.int (if 0 ≤ b ∧ b < 0 + k.toNatClampNeg then I i (0 + (b - 0)) else I j b) = _
    rw [if_pos (by omega)]
    congr 2
    omega
  rw [e1] at X' step
  have hl : ad j < H.size := (Array.getElem?_eq_some_iff.mp hc1).1
  have hheap : ((T.setVm vm').setCell (ad j) (vp_cell (G.2 .int) (N', .inl (I i)))).heap = H.setIfInBounds (ad j) (vp_cell (G.2 .int) (N', .inl (I i))) := by rw [← hT]; rfl
  have oq : ∀ q : Nat, q ≠ ad j → (H.setIfInBounds (ad j) (vp_cell (G.2 .int) (N', .inl (I i))))[q]? = H[q]? := fun q hq => by simp [Array.getElem?_setIfInBounds, Ne.symm hq]
  have ej : (H.setIfInBounds (ad j) (vp_cell (G.2 .int) (N', .inl (I i))))[ad j]? = some (vp_cell (G.2 .int) (N', .inl (I i))) := by simp [Array.getElem?_setIfInBounds, hl]
  obtain ⟨t, a1, b1⟩ := kk _ _ (by simp) (hW.one (i := j) rfl rfl hj (by
      show (H.setIfInBounds (ad j) (vp_cell (G.2 .int) (N', .inl (I i))))[ad j]? = some (arrV (G.2 .int) N' (fun b => Value.int (z_cpI I i j j b)))
      rw [ej]
      show some (arrV (G.2 .int) N' (fun b => Value.int (I i b))) = _
      rw [show (fun b => Value.int (z_cpI I i j j b)) = fun b => Value.int (I i b) from by
        funext b
        exact congrArg Value.int (if_pos rfl)]) oq (fun a ha ty b => by cases ty <;> simp [z_v, z_cpI, ha])) ⟨by simp; exact hS.1, fun q g1 g2 => by
      rw [oq q (fun e => g2 (by rw [e]; exact hW.2.2 j (z_ne hj)))]
      exact hS.2.1 q g1 g2, fun q hq => by
      rcases List.mem_append.mp hq with h | h
      · exact hS.2.2 q h
      · obtain ⟨z, -, hz⟩ := List.mem_map.mp h
        rw [← hz]
        exact hW.2.2 j (z_ne hj)⟩ _ hheap X'
  exact ⟨t, step t a1, b1⟩
end ZOR
noncomputable def z_o0 (c : z_C) : Nat := 200 + 5 * c.2.1
noncomputable def z_o4 (sh : Nat → Option z_S) (i : Nat) (f : Nat → Nat) : Nat → Nat → Option z_S
  | 0 => sh
  | n + 1 => z_sh (z_o4 sh i f n) (i + 1 + n) (.inl (.int, f n))
theorem z_o4_n {sh : Nat → Option z_S} {i : Nat} {f : Nat → Nat} {a : Nat} : ∀ n, (a < i + 1 ∨ i + 1 + n ≤ a) → z_o4 sh i f n a = sh a
  | 0, _ => rfl
  | n + 1, h => by
    show z_sh (z_o4 sh i f n) (i + 1 + n) _ a = _
    rw [z_sh_n (by omega)]
    exact z_o4_n n (by omega)
theorem z_o4_e {sh : Nat → Option z_S} {i : Nat} {f : Nat → Nat} {q : Nat} : ∀ n, q < n → z_o4 sh i f n (i + 1 + q) = some (.inl (.int, f q))
  | 0, h => absurd h (by omega)
  | n + 1, h => by
    show z_sh (z_o4 sh i f n) (i + 1 + n) _ (i + 1 + q) = _
    by_cases e : q = n
    · subst e
      simp [z_sh]
    · rw [z_sh_n (by omega)]
      exact z_o4_e n (by omega)
noncomputable def z_c4 (I : z_I) (i : Nat) (src : Nat → Nat) : Nat → z_I
  | 0 => I
  | n + 1 => z_cpI (z_c4 I i src n) (src n) (i + 1 + n)
theorem z_c4_n {I : z_I} {i : Nat} {src : Nat → Nat} {a : Nat} : ∀ n, (a < i + 1 ∨ i + 1 + n ≤ a) → z_c4 I i src n a = I a
  | 0, _ => rfl
  | n + 1, h => by
    show z_cpI (z_c4 I i src n) (src n) (i + 1 + n) a = _
    rw [z_cpI_n (by omega)]
    exact z_c4_n n (by omega)
noncomputable def z_src (q : Nat) : Nat := if q = 3 then 17 else 18 + q
noncomputable def z_k4 (k1 k2 q : Nat) : Nat := if q = 3 then k2 else k1
noncomputable def z_f7 (q : Nat) : Nat := q + 2
noncomputable def z_ad5 (ad : Nat → Nat) (i q : Nat) : Nat → Nat := fun j => if i ≤ j ∧ j < i + 5 then q + (j - i) else ad j
noncomputable def z_I5 (I : z_I) (i : Nat) : z_I := fun a b => if i ≤ a ∧ a < i + 5 then 0 else I a b
/-- one more ORDERS -/
noncomputable def z_c2 (c : z_C) (k1 k2 : Nat) : z_C := (c.1, c.2.1 + 1, (fun k => if k = c.2.1 then k1 else c.2.2.1 k), (fun k => if k = c.2.1 then k2 else c.2.2.2 k))
theorem z_shC_05 {c : z_C} {i : Nat} (h : z_o0 c ≤ i ∧ i < z_o0 c + 5) : shC c i = none := by
  unfold z_o0 at h
  unfold shC
  rw [if_neg (by omega), if_neg (by omega), if_neg (by omega)]
theorem z_re5 {G : z_G} {A : Nat → Prop} {c : z_C} {ad : Nat → Nat} {I : z_I} {J : z_J} {P : z_P} {H : Heap} {q : Nat} (h : z_W G A (shC c, ad, I, J, P) H) : z_W G A (shC c, z_ad5 ad (z_o0 c) q, z_I5 I (z_o0 c), J, z_P8 P (z_o0 c)) H :=
  h.re fun i hi => by
    have hn : ¬ (z_o0 c ≤ i ∧ i < z_o0 c + 5) := fun e => hi (z_shC_05 e)
    exact ⟨if_neg hn, fun k => ⟨if_neg hn, rfl, if_neg (fun e => hn (by omega))⟩⟩
theorem z_shC_2 {c : z_C} {k1 k2 : Nat} : z_o4 (z_sh (shC c) (z_o0 c) (.inr 7)) (z_o0 c) (z_k4 k1 k2) 4 = shC (z_c2 c k1 k2) := by
  funext j
  by_cases q1 : z_o0 c < j ∧ j < z_o0 c + 5
  · obtain ⟨q, hq⟩ : ∃ q, j = z_o0 c + 1 + q := ⟨j - (z_o0 c + 1), by omega⟩
    have hq4 : q < 4 := by omega
    subst hq
    rw [z_o4_e 4 hq4]
    unfold z_o0 z_c2 shC
    have e1 : (200 + 5 * c.2.1 + 1 + q - 200) / 5 = c.2.1 := by omega
    have e2 : (200 + 5 * c.2.1 + 1 + q - 200) % 5 = 1 + q := by omega
    rw [if_neg (by omega), if_neg (by omega), if_pos ⟨by omega, by rw [e1]; exact Nat.lt_succ_self _⟩, e2, if_neg (by omega), e1]
    unfold z_k4
    by_cases q3 : q = 3
    · rw [if_pos q3, if_pos (by omega)]
      simp
    · rw [if_neg q3, if_neg (by omega)]
      simp
  · rw [z_o4_n 4 (by omega)]
    by_cases q2 : j = z_o0 c
    · subst q2
      unfold z_o0 z_c2 shC
      have e1 : (200 + 5 * c.2.1 - 200) / 5 = c.2.1 := by omega
      have e2 : (200 + 5 * c.2.1 - 200) % 5 = 0 := by omega
      rw [if_neg (by omega), if_neg (by omega), if_pos ⟨by omega, by rw [e1]; exact Nat.lt_succ_self _⟩, if_pos e2]
      simp [z_sh]
    · rw [z_sh_n q2]
      unfold z_o0 at q1 q2
      unfold z_c2 shC
      by_cases q3 : j < 75
      · rw [if_pos q3, if_pos q3]
      · rw [if_neg q3, if_neg q3]
        by_cases q4 : j < 180
        · rw [if_pos q4, if_pos q4]
        · rw [if_neg q4, if_neg q4]
          by_cases q5 : 200 ≤ j ∧ (j - 200) / 5 < c.2.1
          · have e3 : ¬ (j - 200) / 5 = c.2.1 := by omega
            rw [if_pos q5, if_pos (show 200 ≤ j ∧ (j - 200) / 5 < c.2.1 + 1 from ⟨q5.1, by omega⟩)]
            simp only [if_neg e3]
          · rw [if_neg q5, if_neg (show ¬ (200 ≤ j ∧ (j - 200) / 5 < c.2.1 + 1) from fun q => q5 ⟨q.1, by omega⟩)]
theorem z_PC_2 {c : z_C} {ad ad1 : Nat → Nat} {P : z_P} {x k1 k2 : Nat} (h10 : c.1 ≤ 10) (h : ∀ j, (j < 100 + 8 * c.1 ∨ (200 ≤ j ∧ j < 200 + 5 * c.2.1)) → ad1 j = ad j) (hx : x = c.2.1) (hP : P = z_up (z_ps z_f7 (z_P8 (PC c ad) (z_o0 c)) (z_o0 c) ad1 4) 22 x (some (ad1 (z_o0 c)))) : ∀ i, shC (z_c2 c k1 k2) i ≠ none → ∀ k, PC (z_c2 c k1 k2) ad1 i k = P i k := by
  intro i hi k
  subst hx hP
  have hpc := z_PC_c (ad1 := ad1) (ad := ad) (c := c) h10 h
  by_cases e1 : i = 22
  · subst e1
    show (if k < c.2.1 + 1 then some (ad1 (200 + 5 * k)) else none) = _
    by_cases e2 : k = c.2.1
    · subst e2
      rw [z_up_s, if_pos (Nat.lt_succ_self _)]
      rfl
    · rw [z_up_k e2, z_ps_n (by unfold z_o0; omega)]
      have e9 : (if 22 = z_o0 c then none else PC c ad 22 k) = (if k < c.2.1 then some (ad (200 + 5 * k)) else none) := (if_neg (by unfold z_o0; omega)).trans rfl
      show _ = (if 22 = z_o0 c then none else PC c ad 22 k)
      rw [e9]
      by_cases e3 : k < c.2.1
      · rw [if_pos e3, if_pos (by omega), h (200 + 5 * k) (by omega)]
      · rw [if_neg e3, if_neg (by omega)]
  · rw [z_up_n e1]
    by_cases e2 : i = z_o0 c
    · subst e2
      have hps : ∀ n, n ≤ 4 → z_ps z_f7 (z_P8 (PC c ad) (z_o0 c)) (z_o0 c) ad1 n (z_o0 c) k = if 2 ≤ k ∧ k < n + 2 then some (ad1 (z_o0 c + (k - 1))) else none := by
        intro n
        induction n with
        | zero =>
          intro _
          rw [if_neg (by omega)]
          exact if_pos rfl
        | succ n ih =>
          intro hn
          show z_up (z_ps z_f7 _ (z_o0 c) ad1 n) (z_o0 c) (z_f7 n) _ (z_o0 c) k = _
          by_cases q : k = z_f7 n
          · rw [q, z_up_s]
            unfold z_f7
            rw [if_pos (by omega)]
            congr 2
            omega
          · rw [z_up_k q, ih (by omega)]
            unfold z_f7 at q
            by_cases q5 : 2 ≤ k ∧ k < n + 2
            · rw [if_pos q5, if_pos (by omega)]
            · rw [if_neg q5, if_neg (by omega)]
      rw [hps 4 (by omega)]
      unfold z_o0 at e1 ⊢
      unfold PC z_c2
      rw [if_neg (by omega), if_neg (by omega), if_pos (by omega)]
      unfold z_oo
      by_cases q1 : 2 ≤ k ∧ k < 6
      · rw [if_pos q1, if_pos (by omega)]
        rfl
      · rw [if_neg q1, if_neg (by omega)]
        rfl
    · rw [z_ps_n e2]
      have e9 : (if i = z_o0 c then none else PC c ad i k) = PC c ad i k := if_neg e2
      show _ = (if i = z_o0 c then none else PC c ad i k)
      rw [e9]
      by_cases q9 : shC c i = none
      · rw [← z_shC_2] at hi
        have q8 : z_o0 c < i ∧ i < z_o0 c + 5 := Classical.byContradiction fun q => hi (by rw [z_o4_n 4 (by omega), z_sh_n e2, q9])
        unfold z_o0 at q8
        unfold PC z_c2
        rw [if_neg (by omega), if_neg (by omega), if_neg (by omega), if_neg (by omega), if_neg (by omega), if_neg (by omega)]
      · rw [← hpc i q9 k]
        unfold PC z_c2
        by_cases q1 : i < 75
        · rw [if_pos q1, if_pos q1]
          by_cases q2 : i = 39
          · rw [if_pos q2, if_pos q2]
          · rw [if_neg q2, if_neg q2, if_neg e1, if_neg e1]
        · rw [if_neg q1, if_neg q1]
theorem z_okc2 {c : z_C} {k1 k2 : Nat} (h : z_okc c) (h1 : k1 ≤ 24) (h2 : k2 ≤ 500) : z_okc (z_c2 c k1 k2) := fun k hk => by
  have hk : k < c.2.1 + 1 := hk
  show (if k = c.2.1 then k1 else c.2.2.1 k) ≤ 24 ∧ (if k = c.2.1 then k2 else c.2.2.2 k) ≤ 500
  by_cases q : k = c.2.1
  · rw [if_pos q, if_pos q]
    exact ⟨h1, h2⟩
  · rw [if_neg q, if_neg q]
    exact h k (by omega)
theorem z_nlt {x : Int32} (h : 0 ≤ x.toInt) : ¬ x < 0 := fun q => by
  have := z_f_lt (a := x) (b := 0) rfl (show (0 : Int32).toInt = 0 by decide) q
  omega
theorem z_or2 {G : z_G} {A : Nat → Prop} {c : z_C} {ad ad2 : Nat → Nat} {I2 : z_I} {H : Heap} {x k1 k2 : Nat} (h10 : c.1 ≤ 10) (hx : x = c.2.1) (h2 : ∀ j, (j < 100 + 8 * c.1 ∨ (200 ≤ j ∧ j < 200 + 5 * c.2.1)) → ad2 j = ad j) (h : z_W G A (z_o4 (z_sh (shC c) (z_o0 c) (.inr 7)) (z_o0 c) (z_k4 k1 k2) 4, ad2, I2, JX, z_up (z_ps z_f7 (z_P8 (PC c ad) (z_o0 c)) (z_o0 c) ad2 4) 22 x (some (ad2 (z_o0 c)))) H) : z_W G A (shC (z_c2 c k1 k2), ad2, I2, JX, PC (z_c2 c k1 k2) ad2) H := by
  rw [z_shC_2] at h
  refine h.re fun i hi => ⟨rfl, fun k => ⟨rfl, rfl, ?_⟩⟩
  exact z_PC_2 (ad := ad) h10 h2 hx rfl i hi k
theorem z_iR_3 {I K : z_I} (h : z_iR I) (e : ∀ k, K 12 k = I 12 k) : z_iR K := by
  unfold z_iR at h ⊢
  simp only [e]
  exact h
set_option maxHeartbeats 8000000 in
set_option maxRecDepth 100000 in
theorem sx_copyOf (l : Launch) (G : z_G) (adK adV : Nat → Nat) (sh : Nat → Option z_S) (ad : Nat → Nat) (I : z_I) (J : z_J) (P : z_P) (i n j : Nat) (a2 : Int32) (sz : Nat) (hi : sh i = some (.inl (.int, n))) (hn : n ≤ 500) (hij : i ≠ j) (h0 : 0 ≤ a2.toInt) (h1 : a2.toInt ≤ (n : Int)) (hj : sh j = none) (hI : ∀ k, I j k = 0) (hz : ad j = sz) : z_McqN (z_Cq adK adV) l yJ7_copyOf_59c91 wsJ7_copyOf_59c91 { frames := 1, cells := 1, slots := 500, locals := 40 } [.ref (ad i), .int a2] G (sh, ad, I, J, P) (z_sh sh j (.inl (.int, a2.toNatClampNeg)), ad, z_cpI I i j, J, P) (ad j) 1 1 500 sz := by
  refine z_headN (cc := cJ7_copyOf_59c91) (maxL := 3) (ret := (some (.array .int))) (by decide) rfl (Nat.le_of_ble_eq_true rfl) ?_
  intro p e s m below meth c ls hIn hK hsz hW hl hKn
  obtain ⟨hx, hb, hr, hml, hown, hts, hlocks, hname⟩ := hIn
  subst hsz
  have hown : s.vm.findClass RJ7 = some m.cls := hown
  have hA : ∀ q : Nat, s.heap.size ≤ q → z_A (sh, ad, I, J, P) s.heap.size q := fun q h => Or.inr h
  generalize hAe : z_A (sh, ad, I, J, P) s.heap.size = A at *
  have hS : va_S A s.heap s.heap [] := va_S.rf
  have hl : lv_has ls 3 [(0, .ref (ad i)), (1, .int a2)] := hl
  have hnk := z_clt (x := a2) rfl h0
  have hnT : (n.toInt32).toInt = (n : Int) := nI_toInt (by omega)
  refine lv_iload_n hx hb dJ7_copyOf_59c91_0 rfl (lv_at hl 1 rfl) ?_
  refine lv_aload_n hx hb dJ7_copyOf_59c91_1 rfl (lv_at hl 0 rfl) ?_
  refine z_alen (i := i) (v := n.toInt32) hx hb hK hW hi (by simp [z_tys]) rfl dJ7_copyOf_59c91_2 ?_
  refine lv_icmp_ne (tgt := 14) hx hb dJ7_copyOf_59c91_3 (by decide) (fun c1 => ?_) (fun c1 => ?_)
  · refine lv_iload_n hx hb dJ7_copyOf_59c91_14 rfl (lv_at hl 1 rfl) ?_
    refine z_newa j ad (atype := .int) (ty := .int) (N' := a2.toNatClampNeg) hx hb (hts (.arrayClass .int) (me_s (List.mem_of_getElem? (i := 6) rfl))) rfl hK (by simp [z_tys]) hW hS hA hz (fun _ _ => rfl) (fun k => by show Value.int (I j k) = _; rw [hI k]; rfl) (z_nlt h0) rfl (by show a2.toNatClampNeg * 4 ≤ 536870912; omega) (Nat.le_of_ble_eq_true rfl) (by show 0 + a2.toNatClampNeg ≤ 500; omega) dJ7_copyOf_59c91_15 (fun H hz1 hW hS => ?_)
    refine lv_astore_n (lv' := [(2, .ref (ad j)), (0, .ref (ad i)), (1, .int a2)]) hx hb dJ7_copyOf_59c91_17 rfl hl (by decide) rfl (fun ls hl => ?_)
    refine lv_aload_n hx hb dJ7_copyOf_59c91_18 rfl (lv_at hl 1 rfl) ?_
    refine lv_iconst (v := 0) hx hb dJ7_copyOf_59c91_19 (by decide) ?_
    refine lv_aload_n hx hb dJ7_copyOf_59c91_20 rfl (lv_at hl 0 rfl) ?_
    refine lv_iconst (v := 0) hx hb dJ7_copyOf_59c91_21 (by decide) ?_
    refine lv_aload_n hx hb dJ7_copyOf_59c91_22 rfl (lv_at hl 1 rfl) ?_
    have hsi : z_sh sh j (.inl (.int, a2.toNatClampNeg)) i = some (.inl (.int, n)) := (z_sh_n hij).trans hi
    have hsj : z_sh sh j (.inl (.int, a2.toNatClampNeg)) j = some (.inl (.int, a2.toNatClampNeg)) := by simp [z_sh]
    refine z_alen (i := i) (v := n.toInt32) hx hb hK hW hsi (by simp [z_tys]) rfl dJ7_copyOf_59c91_23 ?_
    refine lv_iload_n hx hb dJ7_copyOf_59c91_24 rfl (lv_at hl 2 rfl) ?_
    refine va_mmin (x := n.toInt32) (y := a2) hx hb (hml.trans hl.1.symm) hown (hts (.methodLink RJ7 304 Lib.Math.min.name) (me_s (List.mem_of_getElem? (i := 7) rfl))) (hts (.static Lib.Math.min.name) (me_s (List.mem_of_getElem? (i := 8) rfl))) (hts (.initialized "java/lang/Math") (me_s (List.mem_of_getElem? (i := 9) rfl))) (hts (.code Lib.Math.min.name Lib.Math.min.code 2 (some .int)) (me_s (List.mem_of_getElem? (i := 10) rfl))) (Nat.le_of_ble_eq_true rfl) (Nat.le_of_ble_eq_true rfl) (Nat.le_of_ble_eq_true rfl) (by show 0 + a2.toNatClampNeg ≤ 500; omega) dJ7_copyOf_59c91_25 ?_
    refine lv_topi (fun z ez => ?_)
    have tz := z_tmmin ez hnT rfl
    have tz2 : z.toInt = a2.toInt := by omega
    have hzk := z_clt (x := z) rfl (by omega)
    refine z_cpy (i := i) (j := j) hx hb (hml.trans hl.1.symm) hown (hts (.methodLink RJ7 150 arraycopyName) (me_s (List.mem_of_getElem? (i := 11) rfl))) (hts (.native arraycopyName) (me_s (List.mem_of_getElem? (i := 12) rfl))) (hts (.static arraycopyName) (me_s (List.mem_of_getElem? (i := 13) rfl))) (hts (.initialized "java/lang/System") (me_s (List.mem_of_getElem? (i := 14) rfl))) hK hW hS hsi hsj hij (z_nlt (by omega)) (by omega) (by omega) (Nat.le_of_ble_eq_true rfl) (Nat.le_of_ble_eq_true rfl) dJ7_copyOf_59c91_28 (fun H locs hz2 hW hS => ?_)
    refine lv_aload_n hx hb dJ7_copyOf_59c91_31 rfl (lv_at hl 0 rfl) ?_
    exact z_cqret hx hb hr hK hS (Nat.le_of_ble_eq_true rfl) (by show 0 + a2.toNatClampNeg ≤ 500; omega) hlocks dJ7_copyOf_59c91_32 (hz2.trans hz1) hW
  · refine lv_aload_n hx hb dJ7_copyOf_59c91_6 rfl (lv_at hl 0 rfl) ?_
    have hnn : a2.toNatClampNeg = n := by have g9 := congrArg Int32.toInt c1; rw [hnT] at g9; omega
    refine z_clone (i := i) (n := n) (j := j) hx hb (hml.trans hl.1.symm) hown (hts (.methodLink RJ7 316 ⟨"[I", "clone", "()Ljava/lang/Object;"⟩) (me_s (List.mem_of_getElem? (i := 0) rfl))) (hts (.sameMethod "[I" "java/lang/Object" "clone" "()Ljava/lang/Object;") (me_s (List.mem_of_getElem? (i := 1) rfl))) (hts (.native ⟨"java/lang/Object", "clone", "()Ljava/lang/Object;"⟩) (me_s (List.mem_of_getElem? (i := 2) rfl))) (hts (.instanceMethod ⟨"java/lang/Object", "clone", "()Ljava/lang/Object;"⟩) (me_s (List.mem_of_getElem? (i := 3) rfl))) (hts (.selects "[I" ⟨"[I", "clone", "()Ljava/lang/Object;"⟩ ⟨"java/lang/Object", "clone", "()Ljava/lang/Object;"⟩) (me_s (List.mem_of_getElem? (i := 4) rfl))) hKn.2 hK hW hS hA hi hj hz (Nat.le_of_ble_eq_true rfl) (Nat.le_of_ble_eq_true rfl) (Nat.le_of_ble_eq_true rfl) (by show 0 + n ≤ 500; omega) dJ7_copyOf_59c91_7 (fun H hz1 hW hS => ?_)
    refine z_castI hx hb hown (hts (.classLink RJ7 317 "[I") (me_s (List.mem_of_getElem? (i := 5) rfl))) hK (hW.1 j (.inl (.int, n)) (by simp [z_sh])) dJ7_copyOf_59c91_10 ?_
    rw [← hnn] at hW
    exact z_cqret hx hb hr hK hS (Nat.le_of_ble_eq_true rfl) (by show 0 + n ≤ 500; omega) hlocks dJ7_copyOf_59c91_13 hz1 hW
theorem zj_X7_init_X7 : ∀ w ∈ wsX70, w ∈ wsX7_init := fun w h => (List.mem_cons_of_mem _ (List.mem_append_left _ (List.mem_append_right _ h)))
theorem zj_X7_init_X9 : ∀ w ∈ wsX90, w ∈ wsX7_init := fun w h => (List.mem_cons_of_mem _ (List.mem_append_right _ h))
set_option maxHeartbeats 8000000 in
set_option maxRecDepth 100000 in
theorem sx_X7_init (l : Launch) (G : z_G) (adK adV : Nat → Nat) (sh : Nat → Option z_S) (ad : Nat → Nat) (I : z_I) (J : z_J) (P : z_P) (i : Nat) (a2 a3 : Int32) (h0 : sh i = some (.inr 7)) (hi : 200 ≤ i) (s12 : sh 12 = some (.inr 9)) (s17 : sh 17 = some (.inl (.int, 500))) (s18 : sh 18 = some (.inl (.int, 24))) (s19 : sh 19 = some (.inl (.int, 24))) (s20 : sh 20 = some (.inl (.int, 24))) (p0 : P 12 10 = some (ad 18)) (p1 : P 12 11 = some (ad 19)) (p2 : P 12 12 = some (ad 20)) (p3 : P 12 8 = some (ad 17)) (hno : ∀ j, j < 4 → sh (i + 1 + j) = none) (hI : ∀ j, j < 4 → ∀ k, I (i + 1 + j) k = 0) (hst : 0 ≤ (I 12 13).toInt ∧ (I 12 13).toInt ≤ 24) (hus : 0 ≤ (I 12 9).toInt ∧ (I 12 9).toInt ≤ 500) : z_MvN (z_Cq adK adV) l yX7_init wsX7_init { frames := 2, cells := 4, slots := 2000, locals := 64 } [.ref (ad i), .ref (ad 12), .int a2, .int a3] G (sh, ad, I, J, P) (fun u1 => ∃ ad1 : Nat → Nat, u1 = (z_o4 sh i (z_k4 (I 12 13).toNatClampNeg (I 12 9).toNatClampNeg) 4, ad1, z_c4 (z_up (z_up I i 0 a2) i 1 a3) i z_src 4, J, z_ps z_f7 P i ad1 4) ∧ ∀ a, ¬ (i + 1 ≤ a ∧ a < i + 5) → ad1 a = ad a) 4 2000 := by
  intro sz
  refine z_headN (cc := cX7_init) (maxL := 6) (ret := none) (by decide) rfl (Nat.le_of_ble_eq_true rfl) ?_
  intro p e s m below meth c ls hIn hK hsz hW hl hKn
  obtain ⟨hx, hb, hr, hml, hown, hts, hlocks, hname⟩ := hIn
  subst hsz
  have hown : s.vm.findClass RX7 = some m.cls := hown
  have hname : meth.name = "<init>" := hname
  have hA : ∀ q : Nat, s.heap.size ≤ q → z_A (sh, ad, I, J, P) s.heap.size q := fun q h => Or.inr h
  generalize hAe : z_A (sh, ad, I, J, P) s.heap.size = A at *
  have hS : va_S A s.heap s.heap [] := va_S.rf
  have hl : lv_has ls 6 [(0, .ref (ad i)), (1, .ref (ad 12)), (2, .int a2), (3, .int a3)] := hl
  refine lv_aload_n hx hb dX7_init_0 rfl (lv_at hl 0 rfl) ?_
  refine W.objInit hx hb hown (hts (.methodLink RX7 3 objectInit) (me_s (me_l (me_l (me_l (List.mem_of_getElem? (i := 0) rfl)))))) (hts (.instanceMethod objectInit) (me_s (me_l (me_l (me_l (List.mem_of_getElem? (i := 1) rfl)))))) (hts (.code objectInit ⟨#[0xb1]⟩ 1 none) (me_s (me_l (me_l (me_l (List.mem_of_getElem? (i := 2) rfl)))))) rfl (by rw [hml]; exact hl.1) rfl dX7_init_1 (Nat.le_of_ble_eq_true rfl) (Nat.le_of_ble_eq_true rfl) ?_
  refine W.eq (g2 := F0 m 4 ls []) rfl ?_
  refine lv_aload_n hx hb dX7_init_4 rfl (lv_at hl 0 rfl) ?_
  refine lv_iload_n hx hb dX7_init_5 rfl (lv_at hl 2 rfl) ?_
  refine z_putF (T := TX7) (N := 6) (ci := 7) (i := i) (v := .int a2) (I1 := z_up I i 0 a2) (J1 := J) (P1 := P) hx hb hts zj_X7_init_X7 tyX7 tyX7_ok nmX7 hown hK hW hS h0 rfl 0 (by decide) (hts (.fieldLink RX7 9 "PetrolBoard$Orders" "month" "I") (me_s (me_l (me_l (me_l (List.mem_of_getElem? (i := 3) rfl)))))) (fun _ h => h) rfl hname rfl rfl rfl (congrArg Value.int z_up_s) (fun a b h ty => z_vI h ty) dX7_init_6 (fun H locs hz0 hW hS => ?_)
  refine lv_aload_n hx hb dX7_init_9 rfl (lv_at hl 0 rfl) ?_
  refine lv_iload_n hx hb dX7_init_10 rfl (lv_at hl 3 rfl) ?_
  refine z_putF (T := TX7) (N := 6) (ci := 7) (i := i) (v := .int a3) (I1 := z_up (z_up I i 0 a2) i 1 a3) (J1 := J) (P1 := P) hx hb hts zj_X7_init_X7 tyX7 tyX7_ok nmX7 hown hK hW hS h0 rfl 1 (by decide) (hts (.fieldLink RX7 15 "PetrolBoard$Orders" "toldOn" "I") (me_s (me_l (me_l (me_l (List.mem_of_getElem? (i := 4) rfl)))))) (fun _ h => h) rfl hname rfl rfl rfl (congrArg Value.int z_up_s) (fun a b h ty => z_vI h ty) dX7_init_11 (fun H locs hz1 hW hS => ?_)
  obtain ⟨I2, eI2⟩ : ∃ K : z_I, K = z_up (z_up I i 0 a2) i 1 a3 := ⟨_, rfl⟩
  rw [← eI2] at hW
  have hI2s : I2 12 13 = I 12 13 := by rw [eI2, z_up_n (by omega), z_up_n (by omega)]
  have hI2u : I2 12 9 = I 12 9 := by rw [eI2, z_up_n (by omega), z_up_n (by omega)]
  refine lv_aload_n hx hb dX7_init_14 rfl (lv_at hl 1 rfl) ?_
  refine z_get (T := TX9) (N := 14) (ci := 9) (i := 12) (v := .int (I 12 13)) hx hb hts zj_X7_init_X9 hown hK hW s12 rfl 13 (by decide) (hts (.fieldLink RX7 18 "PetrolBoard$Reader" "statements" "I") (me_s (me_l (me_l (me_l (List.mem_of_getElem? (i := 5) rfl)))))) (fun _ h => h) (congrArg Value.int hI2s) dX7_init_15 ?_
  refine lv_iconst (v := 0) hx hb dX7_init_18 (by decide) ?_
  refine lv_bipush (v := 24) hx hb dX7_init_19 (by decide) ?_
  refine z_ci hW hS hA (va_runSN (As := [.int (I 12 13), .int 0, .int 24]) (rest := []) ⟨hx, hb, hml, hown, hts⟩ (ct_X11_within l G (sh, ad, I2, J, P) (I 12 13) 0 24 _) ⟨va_cnB 3 hts gX7_init_X11_within_n23 rfl rfl rfl (hK.2.2.1 _ (List.mem_of_getElem? (i := 8) rfl)) (hts (.initialized RX11) (me_s (me_l (me_l (me_l (List.mem_of_getElem? (i := 16) rfl)))))) (by decide +kernel) ⟨(Nat.le_of_ble_eq_true rfl), (Nat.le_of_ble_eq_true rfl)⟩, (hts (.static yX11_within) (me_s (me_l (me_l (me_l (List.mem_of_getElem? (i := 15) rfl)))))), trivial⟩ (z_preS hK hW) rfl rfl hl.1 rfl (lv_room (Nat.le_of_ble_eq_true rfl)) dX7_init_21 ⟨(Nat.le_of_ble_eq_true rfl), (Nat.le_of_ble_eq_true rfl)⟩) (fun r u1 H9 locs hp hW9 hS => ?_)
  obtain ⟨e9, hp⟩ := hp
  rw [e9] at hW9
  rcases hp with ⟨rfl, _, _⟩ | ⟨rfl, h5⟩
  rotate_left
  · exact absurd ⟨Int32.le_iff_toInt_le.mpr (by show (0 : Int32).toInt ≤ _; rw [show (0 : Int32).toInt = 0 by decide]; exact hst.1), Int32.le_iff_toInt_le.mpr (by rw [show (24 : Int32).toInt = 24 by decide]; exact hst.2)⟩ h5
  refine lv_if_eq (tgt := 34) hx hb dX7_init_24 (by decide) (fun c6 => absurd c6 (by decide)) (fun c6 => ?_)
  refine lv_aload_n hx hb dX7_init_27 rfl (lv_at hl 1 rfl) ?_
  refine z_get (T := TX9) (N := 14) (ci := 9) (i := 12) (v := .int (I 12 13)) hx hb hts zj_X7_init_X9 hown hK hW9 s12 rfl 13 (by decide) (hts (.fieldLink RX7 18 "PetrolBoard$Reader" "statements" "I") (me_s (me_l (me_l (me_l (List.mem_of_getElem? (i := 5) rfl)))))) (fun _ h => h) (congrArg Value.int hI2s) dX7_init_28 ?_
  refine lv_goto (tgt := 35) hx hb dX7_init_31 (by decide) ?_
  refine lv_istore (lv' := [(4, .int (I 12 13)), (0, .ref (ad i)), (1, .ref (ad 12)), (2, .int a2), (3, .int a3)]) hx hb dX7_init_35 hl (by decide) rfl (fun ls hl => ?_)
  have hW := hW9
  refine lv_aload_n hx hb dX7_init_37 rfl (lv_at hl 2 rfl) ?_
  refine z_get (T := TX9) (N := 14) (ci := 9) (i := 12) (v := .int (I 12 9)) hx hb hts zj_X7_init_X9 hown hK hW s12 rfl 9 (by decide) (hts (.fieldLink RX7 27 "PetrolBoard$Reader" "used" "I") (me_s (me_l (me_l (me_l (List.mem_of_getElem? (i := 6) rfl)))))) (fun _ h => h) (congrArg Value.int hI2u) dX7_init_38 ?_
  refine lv_iconst (v := 0) hx hb dX7_init_41 (by decide) ?_
  refine lv_sipush (v := 500) hx hb dX7_init_42 (by decide) ?_
  refine z_ci hW hS hA (va_runSN (As := [.int (I 12 9), .int 0, .int 500]) (rest := []) ⟨hx, hb, hml, hown, hts⟩ (ct_X11_within l G (sh, ad, I2, J, P) (I 12 9) 0 500 _) ⟨va_cnB 3 hts gX7_init_X11_within_n23 rfl rfl rfl (hK.2.2.1 _ (List.mem_of_getElem? (i := 8) rfl)) (hts (.initialized RX11) (me_s (me_l (me_l (me_l (List.mem_of_getElem? (i := 16) rfl)))))) (by decide +kernel) ⟨(Nat.le_of_ble_eq_true rfl), (Nat.le_of_ble_eq_true rfl)⟩, (hts (.static yX11_within) (me_s (me_l (me_l (me_l (List.mem_of_getElem? (i := 15) rfl)))))), trivial⟩ (z_preS hK hW) rfl rfl hl.1 rfl (lv_room (Nat.le_of_ble_eq_true rfl)) dX7_init_45 ⟨(Nat.le_of_ble_eq_true rfl), (Nat.le_of_ble_eq_true rfl)⟩) (fun r u1 H9 locs hp hW9 hS => ?_)
  obtain ⟨e9, hp⟩ := hp
  rw [e9] at hW9
  rcases hp with ⟨rfl, _, _⟩ | ⟨rfl, h5⟩
  rotate_left
  · exact absurd ⟨Int32.le_iff_toInt_le.mpr (by show (0 : Int32).toInt ≤ _; rw [show (0 : Int32).toInt = 0 by decide]; exact hus.1), Int32.le_iff_toInt_le.mpr (by rw [show (500 : Int32).toInt = 500 by decide]; exact hus.2)⟩ h5
  refine lv_if_eq (tgt := 58) hx hb dX7_init_48 (by decide) (fun c6 => absurd c6 (by decide)) (fun c6 => ?_)
  refine lv_aload_n hx hb dX7_init_51 rfl (lv_at hl 2 rfl) ?_
  refine z_get (T := TX9) (N := 14) (ci := 9) (i := 12) (v := .int (I 12 9)) hx hb hts zj_X7_init_X9 hown hK hW9 s12 rfl 9 (by decide) (hts (.fieldLink RX7 27 "PetrolBoard$Reader" "used" "I") (me_s (me_l (me_l (me_l (List.mem_of_getElem? (i := 6) rfl)))))) (fun _ h => h) (congrArg Value.int hI2u) dX7_init_52 ?_
  refine lv_goto (tgt := 59) hx hb dX7_init_55 (by decide) ?_
  refine lv_istore (lv' := [(5, .int (I 12 9)), (4, .int (I 12 13)), (0, .ref (ad i)), (1, .ref (ad 12)), (2, .int a2), (3, .int a3)]) hx hb dX7_init_59 hl (by decide) rfl (fun ls hl => ?_)
  have hW := hW9
  obtain ⟨ad1, ead⟩ : ∃ f : Nat → Nat, f = (fun a => if i + 1 ≤ a ∧ a < i + 5 then H9.size + (a - (i + 1)) else ad a) := ⟨_, rfl⟩
  have hlo : ∀ a, ¬ (i + 1 ≤ a ∧ a < i + 5) → ad1 a = ad a := fun a ha => by rw [ead]; exact if_neg ha
  obtain ⟨q9, hq9⟩ : ∃ q, q = H9.size := ⟨_, rfl⟩
  have hnew : ∀ q, q < 4 → ad1 (i + 1 + q) = q9 + q := fun q hq => by rw [ead, hq9]; show (if _ then _ else _) = _; rw [if_pos (by omega)]; omega
  have hW : z_W G A (sh, ad1, I2, J, P) H9 := hW.re fun a ha => ⟨hlo a (fun e => ha (by obtain ⟨q, rfl⟩ : ∃ q, a = i + 1 + q := ⟨a - (i + 1), by omega⟩; exact hno q (by omega))), fun k => ⟨rfl, rfl, rfl⟩⟩
  have hl : lv_has ls 6 [(5, .int (I 12 9)), (4, .int (I 12 13)), (0, .ref (ad1 i)), (1, .ref (ad1 12)), (2, .int a2), (3, .int a3)] := by rw [hlo i (by omega), hlo 12 (by omega)]; exact hl
  have p0 : P 12 10 = some (ad1 18) := by rw [hlo 18 (by omega)]; exact p0
  have p1 : P 12 11 = some (ad1 19) := by rw [hlo 19 (by omega)]; exact p1
  have p2 : P 12 12 = some (ad1 20) := by rw [hlo 20 (by omega)]; exact p2
  have p3 : P 12 8 = some (ad1 17) := by rw [hlo 17 (by omega)]; exact p3
  have hz : H9.size = q9 + 0 := hq9.symm
  refine lv_aload_n hx hb dX7_init_61 rfl (lv_at hl 2 rfl) ?_
  refine lv_aload_n hx hb dX7_init_62 rfl (lv_at hl 3 rfl) ?_
  refine z_get (T := TX9) (N := 14) (ci := 9) (i := 12) (v := .ref (ad1 18)) hx hb hts zj_X7_init_X9 hown hK hW ((z_o4_n (sh := sh) (i := i) (f := (z_k4 (I 12 13).toNatClampNeg (I 12 9).toNatClampNeg)) 0 (by omega)).trans s12) rfl 10 (by decide) (hts (.fieldLink RX7 30 "PetrolBoard$Reader" "head" "[I") (me_s (me_l (me_l (me_l (List.mem_of_getElem? (i := 7) rfl)))))) (fun _ h => h) (congrArg va_rf ((z_ps_n (f := z_f7) (P := P) (i := i) (ad := ad1) (a := 12) (k := 10) (by omega) 0).trans p0)) dX7_init_63 ?_
  refine lv_iload hx hb dX7_init_66 (lv_at hl 1 rfl) ?_
  refine z_ccq hW hS hA (va_runS (As := [.ref (ad1 18), .int (I 12 13)]) (rest := [.ref (ad1 i)]) ⟨hx, hb, hml, hown, hts⟩ (sx_copyOf l G adK adV (z_o4 sh i (z_k4 (I 12 13).toNatClampNeg (I 12 9).toNatClampNeg) 0) ad1 (z_c4 I2 i z_src 0) J (z_ps z_f7 P i ad1 0) 18 24 (i + 1 + 0) (I 12 13) _ ((z_o4_n (sh := sh) (i := i) (f := (z_k4 (I 12 13).toNatClampNeg (I 12 9).toNatClampNeg)) 0 (by omega)).trans s18) (by decide) (by omega) hst.1 hst.2 ((z_o4_n (sh := sh) (i := i) (f := (z_k4 (I 12 13).toNatClampNeg (I 12 9).toNatClampNeg)) 0 (by omega)).trans (hno 0 (by decide))) (fun k => by rw [z_c4_n 0 (by omega), eI2, z_up_n (by omega), z_up_n (by omega)]; exact hI 0 (by decide) k) ((hnew 0 (by decide)).trans hz.symm)) (va_cwS 2 hts gX7_init_J7_copyOf_59c91 rfl rfl rfl hy_J7_copyOf_59c91.2 ⟨(Nat.le_of_ble_eq_true rfl), (Nat.le_of_ble_eq_true rfl)⟩) (z_preSN (z_Cq.nice adK adV) hK hW hS hA hKn) rfl rfl hl.1 rfl (lv_room (Nat.le_of_ble_eq_true rfl)) dX7_init_68 ⟨(Nat.le_of_ble_eq_true rfl), (Nat.le_of_ble_eq_true rfl)⟩) (fun H locs hz1 hW hS => ?_)
  have hz : H.size = q9 + 1 := hz1.trans (congrArg (· + 1) hz)
  have hW : z_W _ A (z_o4 sh i (z_k4 (I 12 13).toNatClampNeg (I 12 9).toNatClampNeg) 1, ad1, z_c4 I2 i z_src 1, J, z_ps z_f7 P i ad1 0) H := hW
  refine z_putF (T := TX7) (N := 6) (ci := 7) (i := i) (v := .ref (ad1 (i + 1 + 0))) (I1 := z_c4 I2 i z_src 1) (J1 := J) (P1 := z_up (z_ps z_f7 P i ad1 0) i 2 (some (ad1 (i + 1 + 0)))) hx hb hts zj_X7_init_X7 tyX7 tyX7_ok nmX7 hown hK hW hS ((z_o4_n (sh := sh) (i := i) (f := (z_k4 (I 12 13).toNatClampNeg (I 12 9).toNatClampNeg)) 1 (by omega)).trans h0) rfl 2 (by decide) (hts (.fieldLink RX7 40 "PetrolBoard$Orders" "head" "[I") (me_s (me_l (me_l (me_l (List.mem_of_getElem? (i := 8) rfl)))))) (fun _ h => h) rfl hname rfl rfl rfl (congrArg va_rf z_up_s) (fun a b h ty => z_vP h ty) dX7_init_71 (fun H locs hz1 hW hS => ?_)
  have hz : H.size = q9 + 1 := hz1.trans hz
  have hW : z_W _ A (z_o4 sh i (z_k4 (I 12 13).toNatClampNeg (I 12 9).toNatClampNeg) 1, ad1, z_c4 I2 i z_src 1, J, z_ps z_f7 P i ad1 1) H := hW
  refine lv_aload_n hx hb dX7_init_74 rfl (lv_at hl 2 rfl) ?_
  refine lv_aload_n hx hb dX7_init_75 rfl (lv_at hl 3 rfl) ?_
  refine z_get (T := TX9) (N := 14) (ci := 9) (i := 12) (v := .ref (ad1 19)) hx hb hts zj_X7_init_X9 hown hK hW ((z_o4_n (sh := sh) (i := i) (f := (z_k4 (I 12 13).toNatClampNeg (I 12 9).toNatClampNeg)) 1 (by omega)).trans s12) rfl 11 (by decide) (hts (.fieldLink RX7 41 "PetrolBoard$Reader" "first" "[I") (me_s (me_l (me_l (me_l (List.mem_of_getElem? (i := 9) rfl)))))) (fun _ h => h) (congrArg va_rf ((z_ps_n (f := z_f7) (P := P) (i := i) (ad := ad1) (a := 12) (k := 11) (by omega) 1).trans p1)) dX7_init_76 ?_
  refine lv_iload hx hb dX7_init_79 (lv_at hl 1 rfl) ?_
  refine z_ccq hW hS hA (va_runS (As := [.ref (ad1 19), .int (I 12 13)]) (rest := [.ref (ad1 i)]) ⟨hx, hb, hml, hown, hts⟩ (sx_copyOf l G adK adV (z_o4 sh i (z_k4 (I 12 13).toNatClampNeg (I 12 9).toNatClampNeg) 1) ad1 (z_c4 I2 i z_src 1) J (z_ps z_f7 P i ad1 1) 19 24 (i + 1 + 1) (I 12 13) _ ((z_o4_n (sh := sh) (i := i) (f := (z_k4 (I 12 13).toNatClampNeg (I 12 9).toNatClampNeg)) 1 (by omega)).trans s19) (by decide) (by omega) hst.1 hst.2 ((z_o4_n (sh := sh) (i := i) (f := (z_k4 (I 12 13).toNatClampNeg (I 12 9).toNatClampNeg)) 1 (by omega)).trans (hno 1 (by decide))) (fun k => by rw [z_c4_n 1 (by omega), eI2, z_up_n (by omega), z_up_n (by omega)]; exact hI 1 (by decide) k) ((hnew 1 (by decide)).trans hz.symm)) (va_cwS 2 hts gX7_init_J7_copyOf_59c91 rfl rfl rfl hy_J7_copyOf_59c91.2 ⟨(Nat.le_of_ble_eq_true rfl), (Nat.le_of_ble_eq_true rfl)⟩) (z_preSN (z_Cq.nice adK adV) hK hW hS hA hKn) rfl rfl hl.1 rfl (lv_room (Nat.le_of_ble_eq_true rfl)) dX7_init_81 ⟨(Nat.le_of_ble_eq_true rfl), (Nat.le_of_ble_eq_true rfl)⟩) (fun H locs hz1 hW hS => ?_)
  have hz : H.size = q9 + 2 := hz1.trans (congrArg (· + 1) hz)
  have hW : z_W _ A (z_o4 sh i (z_k4 (I 12 13).toNatClampNeg (I 12 9).toNatClampNeg) 2, ad1, z_c4 I2 i z_src 2, J, z_ps z_f7 P i ad1 1) H := hW
  refine z_putF (T := TX7) (N := 6) (ci := 7) (i := i) (v := .ref (ad1 (i + 1 + 1))) (I1 := z_c4 I2 i z_src 2) (J1 := J) (P1 := z_up (z_ps z_f7 P i ad1 1) i 3 (some (ad1 (i + 1 + 1)))) hx hb hts zj_X7_init_X7 tyX7 tyX7_ok nmX7 hown hK hW hS ((z_o4_n (sh := sh) (i := i) (f := (z_k4 (I 12 13).toNatClampNeg (I 12 9).toNatClampNeg)) 2 (by omega)).trans h0) rfl 3 (by decide) (hts (.fieldLink RX7 44 "PetrolBoard$Orders" "first" "[I") (me_s (me_l (me_l (me_l (List.mem_of_getElem? (i := 10) rfl)))))) (fun _ h => h) rfl hname rfl rfl rfl (congrArg va_rf z_up_s) (fun a b h ty => z_vP h ty) dX7_init_84 (fun H locs hz1 hW hS => ?_)
  have hz : H.size = q9 + 2 := hz1.trans hz
  have hW : z_W _ A (z_o4 sh i (z_k4 (I 12 13).toNatClampNeg (I 12 9).toNatClampNeg) 2, ad1, z_c4 I2 i z_src 2, J, z_ps z_f7 P i ad1 2) H := hW
  refine lv_aload_n hx hb dX7_init_87 rfl (lv_at hl 2 rfl) ?_
  refine lv_aload_n hx hb dX7_init_88 rfl (lv_at hl 3 rfl) ?_
  refine z_get (T := TX9) (N := 14) (ci := 9) (i := 12) (v := .ref (ad1 20)) hx hb hts zj_X7_init_X9 hown hK hW ((z_o4_n (sh := sh) (i := i) (f := (z_k4 (I 12 13).toNatClampNeg (I 12 9).toNatClampNeg)) 2 (by omega)).trans s12) rfl 12 (by decide) (hts (.fieldLink RX7 45 "PetrolBoard$Reader" "second" "[I") (me_s (me_l (me_l (me_l (List.mem_of_getElem? (i := 11) rfl)))))) (fun _ h => h) (congrArg va_rf ((z_ps_n (f := z_f7) (P := P) (i := i) (ad := ad1) (a := 12) (k := 12) (by omega) 2).trans p2)) dX7_init_89 ?_
  refine lv_iload hx hb dX7_init_92 (lv_at hl 1 rfl) ?_
  refine z_ccq hW hS hA (va_runS (As := [.ref (ad1 20), .int (I 12 13)]) (rest := [.ref (ad1 i)]) ⟨hx, hb, hml, hown, hts⟩ (sx_copyOf l G adK adV (z_o4 sh i (z_k4 (I 12 13).toNatClampNeg (I 12 9).toNatClampNeg) 2) ad1 (z_c4 I2 i z_src 2) J (z_ps z_f7 P i ad1 2) 20 24 (i + 1 + 2) (I 12 13) _ ((z_o4_n (sh := sh) (i := i) (f := (z_k4 (I 12 13).toNatClampNeg (I 12 9).toNatClampNeg)) 2 (by omega)).trans s20) (by decide) (by omega) hst.1 hst.2 ((z_o4_n (sh := sh) (i := i) (f := (z_k4 (I 12 13).toNatClampNeg (I 12 9).toNatClampNeg)) 2 (by omega)).trans (hno 2 (by decide))) (fun k => by rw [z_c4_n 2 (by omega), eI2, z_up_n (by omega), z_up_n (by omega)]; exact hI 2 (by decide) k) ((hnew 2 (by decide)).trans hz.symm)) (va_cwS 2 hts gX7_init_J7_copyOf_59c91 rfl rfl rfl hy_J7_copyOf_59c91.2 ⟨(Nat.le_of_ble_eq_true rfl), (Nat.le_of_ble_eq_true rfl)⟩) (z_preSN (z_Cq.nice adK adV) hK hW hS hA hKn) rfl rfl hl.1 rfl (lv_room (Nat.le_of_ble_eq_true rfl)) dX7_init_94 ⟨(Nat.le_of_ble_eq_true rfl), (Nat.le_of_ble_eq_true rfl)⟩) (fun H locs hz1 hW hS => ?_)
  have hz : H.size = q9 + 3 := hz1.trans (congrArg (· + 1) hz)
  have hW : z_W _ A (z_o4 sh i (z_k4 (I 12 13).toNatClampNeg (I 12 9).toNatClampNeg) 3, ad1, z_c4 I2 i z_src 3, J, z_ps z_f7 P i ad1 2) H := hW
  refine z_putF (T := TX7) (N := 6) (ci := 7) (i := i) (v := .ref (ad1 (i + 1 + 2))) (I1 := z_c4 I2 i z_src 3) (J1 := J) (P1 := z_up (z_ps z_f7 P i ad1 2) i 4 (some (ad1 (i + 1 + 2)))) hx hb hts zj_X7_init_X7 tyX7 tyX7_ok nmX7 hown hK hW hS ((z_o4_n (sh := sh) (i := i) (f := (z_k4 (I 12 13).toNatClampNeg (I 12 9).toNatClampNeg)) 3 (by omega)).trans h0) rfl 4 (by decide) (hts (.fieldLink RX7 48 "PetrolBoard$Orders" "second" "[I") (me_s (me_l (me_l (me_l (List.mem_of_getElem? (i := 12) rfl)))))) (fun _ h => h) rfl hname rfl rfl rfl (congrArg va_rf z_up_s) (fun a b h ty => z_vP h ty) dX7_init_97 (fun H locs hz1 hW hS => ?_)
  have hz : H.size = q9 + 3 := hz1.trans hz
  have hW : z_W _ A (z_o4 sh i (z_k4 (I 12 13).toNatClampNeg (I 12 9).toNatClampNeg) 3, ad1, z_c4 I2 i z_src 3, J, z_ps z_f7 P i ad1 3) H := hW
  refine lv_aload_n hx hb dX7_init_100 rfl (lv_at hl 2 rfl) ?_
  refine lv_aload_n hx hb dX7_init_101 rfl (lv_at hl 3 rfl) ?_
  refine z_get (T := TX9) (N := 14) (ci := 9) (i := 12) (v := .ref (ad1 17)) hx hb hts zj_X7_init_X9 hown hK hW ((z_o4_n (sh := sh) (i := i) (f := (z_k4 (I 12 13).toNatClampNeg (I 12 9).toNatClampNeg)) 3 (by omega)).trans s12) rfl 8 (by decide) (hts (.fieldLink RX7 49 "PetrolBoard$Reader" "code" "[I") (me_s (me_l (me_l (me_l (List.mem_of_getElem? (i := 13) rfl)))))) (fun _ h => h) (congrArg va_rf ((z_ps_n (f := z_f7) (P := P) (i := i) (ad := ad1) (a := 12) (k := 8) (by omega) 3).trans p3)) dX7_init_102 ?_
  refine lv_iload hx hb dX7_init_105 (lv_at hl 0 rfl) ?_
  refine z_ccq hW hS hA (va_runS (As := [.ref (ad1 17), .int (I 12 9)]) (rest := [.ref (ad1 i)]) ⟨hx, hb, hml, hown, hts⟩ (sx_copyOf l G adK adV (z_o4 sh i (z_k4 (I 12 13).toNatClampNeg (I 12 9).toNatClampNeg) 3) ad1 (z_c4 I2 i z_src 3) J (z_ps z_f7 P i ad1 3) 17 500 (i + 1 + 3) (I 12 9) _ ((z_o4_n (sh := sh) (i := i) (f := (z_k4 (I 12 13).toNatClampNeg (I 12 9).toNatClampNeg)) 3 (by omega)).trans s17) (by decide) (by omega) hus.1 hus.2 ((z_o4_n (sh := sh) (i := i) (f := (z_k4 (I 12 13).toNatClampNeg (I 12 9).toNatClampNeg)) 3 (by omega)).trans (hno 3 (by decide))) (fun k => by rw [z_c4_n 3 (by omega), eI2, z_up_n (by omega), z_up_n (by omega)]; exact hI 3 (by decide) k) ((hnew 3 (by decide)).trans hz.symm)) (va_cwS 2 hts gX7_init_J7_copyOf_59c91 rfl rfl rfl hy_J7_copyOf_59c91.2 ⟨(Nat.le_of_ble_eq_true rfl), (Nat.le_of_ble_eq_true rfl)⟩) (z_preSN (z_Cq.nice adK adV) hK hW hS hA hKn) rfl rfl hl.1 rfl (lv_room (Nat.le_of_ble_eq_true rfl)) dX7_init_107 ⟨(Nat.le_of_ble_eq_true rfl), (Nat.le_of_ble_eq_true rfl)⟩) (fun H locs hz1 hW hS => ?_)
  have hz : H.size = q9 + 4 := hz1.trans (congrArg (· + 1) hz)
  have hW : z_W _ A (z_o4 sh i (z_k4 (I 12 13).toNatClampNeg (I 12 9).toNatClampNeg) 4, ad1, z_c4 I2 i z_src 4, J, z_ps z_f7 P i ad1 3) H := hW
  refine z_putF (T := TX7) (N := 6) (ci := 7) (i := i) (v := .ref (ad1 (i + 1 + 3))) (I1 := z_c4 I2 i z_src 4) (J1 := J) (P1 := z_up (z_ps z_f7 P i ad1 3) i 5 (some (ad1 (i + 1 + 3)))) hx hb hts zj_X7_init_X7 tyX7 tyX7_ok nmX7 hown hK hW hS ((z_o4_n (sh := sh) (i := i) (f := (z_k4 (I 12 13).toNatClampNeg (I 12 9).toNatClampNeg)) 4 (by omega)).trans h0) rfl 5 (by decide) (hts (.fieldLink RX7 52 "PetrolBoard$Orders" "code" "[I") (me_s (me_l (me_l (me_l (List.mem_of_getElem? (i := 14) rfl)))))) (fun _ h => h) rfl hname rfl rfl rfl (congrArg va_rf z_up_s) (fun a b h ty => z_vP h ty) dX7_init_110 (fun H locs hz1 hW hS => ?_)
  have hz : H.size = q9 + 4 := hz1.trans hz
  have hW : z_W _ A (z_o4 sh i (z_k4 (I 12 13).toNatClampNeg (I 12 9).toNatClampNeg) 4, ad1, z_c4 I2 i z_src 4, J, z_ps z_f7 P i ad1 4) H := hW
  exact z_vret hx hb hr hK hS (Nat.le_of_ble_eq_true rfl) (Nat.le_of_ble_eq_true rfl) hlocks dX7_init_113 (z_o4 sh i (z_k4 (I 12 13).toNatClampNeg (I 12 9).toNatClampNeg) 4, ad1, z_c4 I2 i z_src 4, J, z_ps z_f7 P i ad1 4) hW ⟨ad1, by rw [eI2], hlo⟩
theorem zj_X6_add_X6 : ∀ w ∈ wsX60, w ∈ wsX6_add := fun w h => (List.mem_cons_of_mem _ (List.mem_append_right _ h))
set_option maxHeartbeats 8000000 in
set_option maxRecDepth 100000 in
theorem sx_X6_add (l : Launch) (G : z_G) (sh : Nat → Option z_S) (ad : Nat → Nat) (I : z_I) (J : z_J) (P : z_P) (j : Nat) (s21 : sh 21 = some (.inr 6)) (s22 : sh 22 = some (.inl (.object RX7, 12))) (hj : sh j = some (.inr 7)) (p0 : P 21 0 = some (ad 22)) (hn : 0 ≤ (I 21 2).toInt ∧ (I 21 2).toInt ≤ 11) : z_M l yX6_add wsX6_add { frames := 1, cells := 0, slots := 0, locals := 12 } [.ref (ad 21), .ref (ad j)] G (sh, ad, I, J, P) (fun r u1 => ∃ y : Int32, y.toInt = (I 21 2).toInt + 1 ∧ u1 = (sh, ad, z_up I 21 2 y, J, z_up P 22 (I 21 2).toNatClampNeg (some (ad j)))) 0 0 := by
  intro sz
  refine z_headQ (cc := cX6_add) (maxL := 2) (ret := (some .int)) (by decide) rfl (Nat.le_of_ble_eq_true rfl) ?_
  intro p e s m below meth c0 ls hIn hK hsz hW hl
  obtain ⟨hx, hb, hr, hml, hown, hts, hlocks, hname⟩ := hIn
  subst hsz
  have hown : s.vm.findClass RX6 = some m.cls := hown
  have hA : ∀ q : Nat, s.heap.size ≤ q → z_A (sh, ad, I, J, P) s.heap.size q := fun q h => Or.inr h
  generalize hAe : z_A (sh, ad, I, J, P) s.heap.size = A at *
  have hS : va_S A s.heap s.heap [] := va_S.rf
  have hl : lv_has ls 2 [(0, .ref (ad 21)), (1, .ref (ad j))] := hl
  refine lv_aload_n hx hb dX6_add_0 rfl (lv_at hl 0 rfl) ?_
  refine z_get (T := TX6) (N := 3) (ci := 6) (i := 21) (v := .int (I 21 2)) hx hb hts zj_X6_add_X6 hown hK hW s21 rfl 2 (by decide) (hts (.fieldLink RX6 24 "PetrolBoard$OrderBook" "number" "I") (me_s (me_l (List.mem_of_getElem? (i := 0) rfl)))) (fun _ h => h) rfl dX6_add_1 ?_
  refine lv_aload_n hx hb dX6_add_4 rfl (lv_at hl 0 rfl) ?_
  refine z_get (T := TX6) (N := 3) (ci := 6) (i := 21) (v := .ref (ad 22)) hx hb hts zj_X6_add_X6 hown hK hW s21 rfl 0 (by decide) (hts (.fieldLink RX6 11 "PetrolBoard$OrderBook" "told" "[LPetrolBoard$Orders;") (me_s (me_l (List.mem_of_getElem? (i := 1) rfl)))) (fun _ h => h) (congrArg va_rf p0) dX6_add_5 ?_
  refine z_alen (i := 22) (v := 12) hx hb hK hW s22 (by simp [z_tys]) (by rfl) dX6_add_8 ?_
  refine lv_icmp_lt (tgt := 14) hx hb dX6_add_9 (by decide) (fun c1 => ?_) (fun c1 => absurd (z_f_nlt rfl (show (12 : Int32).toInt = 12 by decide) c1) (by omega))
  refine lv_aload_n hx hb dX6_add_14 rfl (lv_at hl 0 rfl) ?_
  refine z_get (T := TX6) (N := 3) (ci := 6) (i := 21) (v := .ref (ad 22)) hx hb hts zj_X6_add_X6 hown hK hW s21 rfl 0 (by decide) (hts (.fieldLink RX6 11 "PetrolBoard$OrderBook" "told" "[LPetrolBoard$Orders;") (me_s (me_l (List.mem_of_getElem? (i := 1) rfl)))) (fun _ h => h) (congrArg va_rf p0) dX6_add_15 ?_
  refine lv_aload_n hx hb dX6_add_18 rfl (lv_at hl 0 rfl) ?_
  refine z_get (T := TX6) (N := 3) (ci := 6) (i := 21) (v := .int (I 21 2)) hx hb hts zj_X6_add_X6 hown hK hW s21 rfl 2 (by decide) (hts (.fieldLink RX6 24 "PetrolBoard$OrderBook" "number" "I") (me_s (me_l (List.mem_of_getElem? (i := 0) rfl)))) (fun _ h => h) rfl dX6_add_19 ?_
  refine lv_aload_n hx hb dX6_add_22 rfl (lv_at hl 1 rfl) ?_
  refine z_aast (i := 22) (j := j) (x := I 21 2) (ci := 7) hx hb hK hW hS s22 (by simp [z_tys]) hj rfl (z_ix rfl (by omega) (by omega)) dX6_add_23 (fun H locs hz1 hW hS => ?_)
  refine lv_aload_n hx hb dX6_add_24 rfl (lv_at hl 0 rfl) ?_
  refine lv_dup hx hb dX6_add_25 rfl ?_
  refine z_get (T := TX6) (N := 3) (ci := 6) (i := 21) (v := .int (I 21 2)) hx hb hts zj_X6_add_X6 hown hK hW s21 rfl 2 (by decide) (hts (.fieldLink RX6 24 "PetrolBoard$OrderBook" "number" "I") (me_s (me_l (List.mem_of_getElem? (i := 0) rfl)))) (fun _ h => h) rfl dX6_add_26 ?_
  refine lv_iconst (v := 1) hx hb dX6_add_29 (by decide) ?_
  refine lv_iadd hx hb dX6_add_30 ?_
  refine lv_topi (fun y ey => ?_)
  have ty : y.toInt = (I 21 2).toInt + 1 := z_tadd ey rfl (show (1 : Int32).toInt = 1 by decide) (by omega) (by omega)
  refine z_put (T := TX6) (N := 3) (ci := 6) (i := 21) (v := .int y) (I1 := z_up I 21 2 y) (J1 := J) (P1 := z_up P 22 (I 21 2).toNatClampNeg (some (ad j))) hx hb hts zj_X6_add_X6 tyX6 tyX6_ok nmX6 hown hK hW hS s21 rfl 2 (by decide) (hts (.fieldLink RX6 24 "PetrolBoard$OrderBook" "number" "I") (me_s (me_l (List.mem_of_getElem? (i := 0) rfl)))) (fun _ h => h) rfl rfl rfl (by first | rfl | exact congrArg _ z_up_s) (fun a b h ty => z_vI h ty) dX6_add_31 (fun H locs hz1 hW hS => ?_)
  refine lv_aload_n hx hb dX6_add_34 rfl (lv_at hl 0 rfl) ?_
  refine z_get (T := TX6) (N := 3) (ci := 6) (i := 21) (v := .int y) hx hb hts zj_X6_add_X6 hown hK hW s21 rfl 2 (by decide) (hts (.fieldLink RX6 24 "PetrolBoard$OrderBook" "number" "I") (me_s (me_l (List.mem_of_getElem? (i := 0) rfl)))) (fun _ h => h) (congrArg Value.int z_up_s) dX6_add_35 ?_
  refine lv_iconst (v := 1) hx hb dX6_add_38 (by decide) ?_
  refine lv_isub hx hb dX6_add_39 ?_
  exact z_iret hx hb hr hK hS (Nat.le_of_ble_eq_true rfl) (Nat.le_of_ble_eq_true rfl) hlocks dX6_add_40 (sh, ad, z_up I 21 2 y, J, z_up P 22 (I 21 2).toNatClampNeg (some (ad j))) hW ⟨y, ty, rfl⟩
noncomputable def L_X11_orders : z_L := [(14, 999), (16, 999), (15, 999), (12, 5), (12, 1), (12, 9), (12, 13), (12, 6), (12, 7), (17, 999), (20, 999), (19, 999), (18, 999), (0, 1), (21, 2)]
theorem zj_X11_orders_X6 : ∀ w ∈ wsX60, w ∈ wsX11_orders := fun w h => (List.mem_cons_of_mem _ (List.mem_append_left _ (List.mem_append_right _ h)))
theorem zj_X11_orders_X7 : ∀ w ∈ wsX70, w ∈ wsX11_orders := fun w h => (List.mem_cons_of_mem _ (List.mem_append_right _ h))
theorem zj_X11_orders_X9 : ∀ w ∈ wsX90, w ∈ wsX11_orders := fun w h => (List.mem_cons_of_mem _ (List.mem_append_left _ (List.mem_append_left _ (List.mem_append_right _ h))))
theorem zj_X11_orders_X11 : ∀ w ∈ wsX110, w ∈ wsX11_orders := fun w h => (List.mem_cons_of_mem _ (List.mem_append_left _ (List.mem_append_left _ (List.mem_append_left _ (List.mem_append_right _ h)))))
set_option maxHeartbeats 8000000 in
set_option maxRecDepth 100000 in
theorem sx_X11_orders (l : Launch) (G : z_G) (adK adV : Nat → Nat) (ad : Nat → Nat) (c : z_C) (I : z_I) (hR : z_iR I) (hB : z_iB I) (hO : z_iO I) (a1 : Int32) (a2 : Int32) (hc : z_okc c) (hc10 : c.1 ≤ 10) (hon : (I 21 2).toInt = (c.2.1 : Int)) : z_MN (z_Cq adK adV) l yX11_orders wsX11_orders { frames := 48, cells := 5, slots := 2006, locals := 1043 } [.ref (ad 0), .int a1, .int a2] G (shC c, ad, I, JX, PC c ad) (fun r u1 => ∃ (c1 : z_C) (ad1 : Nat → Nat) (I1 : z_I), u1 = (shC c1, ad1, I1, JX, PC c1 ad1) ∧ c1.1 = c.1 ∧ z_okc c1 ∧ (I1 21 2).toInt = (c1.2.1 : Int) ∧ z_iR I1 ∧ z_iO I1 ∧ (∀ j, j < 200 → ad1 j = ad j) ∧ ∀ a k, a < 200 → z_wr L_X11_orders a k = false → I1 a k = I a k) 5 2006 := by
  intro sz
  refine z_headN (cc := cX11_orders) (maxL := 3) (ret := (some .int)) (by decide) rfl (Nat.le_of_ble_eq_true rfl) ?_
  intro p e s m below meth c0 ls hIn hK hsz hW hl hKn
  obtain ⟨hx, hb, hr, hml, hown, hts, hlocks, hname⟩ := hIn
  subst hsz
  have hown : s.vm.findClass RX11 = some m.cls := hown
  have hA : ∀ q : Nat, s.heap.size ≤ q → z_A (shC c, ad, I, JX, PC c ad) s.heap.size q := fun q h => Or.inr h
  generalize hAe : z_A (shC c, ad, I, JX, PC c ad) s.heap.size = A at *
  have hS : va_S A s.heap s.heap [] := va_S.rf
  have hl : lv_has ls 3 [(0, .ref (ad 0)), (1, .int a1), (2, .int a2)] := hl
  refine lv_iload_n hx hb dX11_orders_0 rfl (lv_at hl 1 rfl) ?_
  refine lv_if_lt (tgt := 22) hx hb dX11_orders_1 (by decide) (fun c1 => ?_) (fun c1 => ?_)
  · have g2 := z_f_lt rfl z_l0 c1
    have b3 := Int32.toInt_lt a1
    refine lv_bipush (v := (-2)) hx hb dX11_orders_22 (by decide) ?_
    exact z_iret hx hb hr hK hS (Nat.le_of_ble_eq_true rfl) (Nat.le_of_ble_eq_true rfl) hlocks dX11_orders_24 (shC c, ad, I, JX, PC c ad) hW ⟨c, ad, I, rfl, rfl, hc, hon, ⟨(by show 0 ≤ (I 12 1).toInt ∧ (I 12 1).toInt ≤ 500; exact hR.1), (by show 0 ≤ (I 12 5).toInt ∧ (I 12 5).toInt ≤ 501; exact hR.2.1), (by show (-1) ≤ (I 12 6).toInt ∧ (I 12 6).toInt ≤ 1000000; exact hR.2.2.1), (by show 0 ≤ (I 12 9).toInt ∧ (I 12 9).toInt ≤ 500; exact hR.2.2.2.1), (by show 0 ≤ (I 12 13).toInt ∧ (I 12 13).toInt ≤ 24; exact hR.2.2.2.2)⟩, (by show 0 ≤ (I 21 2).toInt ∧ (I 21 2).toInt ≤ 12; exact hO), (fun _ _ => rfl), (fun _ _ _ _ => rfl)⟩
  · have g4 := z_f_nlt rfl z_l0 c1
    have b5 := Int32.toInt_lt a1
    refine lv_iload_n hx hb dX11_orders_4 rfl (lv_at hl 1 rfl) ?_
    refine lv_aload_n hx hb dX11_orders_5 rfl (lv_at hl 0 rfl) ?_
    refine z_get (T := TX11) (N := 13) (ci := 11) (i := 0) (v := .ref (ad 12)) hx hb hts zj_X11_orders_X11 hown hK hW rfl rfl 3 (by decide) (hts (.fieldLink RX11 23 "PetrolBoard" "reader" "LPetrolBoard$Reader;") (me_s (me_l (me_l (me_l (me_l (me_l (List.mem_of_getElem? (i := 0) rfl)))))))) (fun _ h => h) rfl dX11_orders_6 ?_
    have r6 : 0 ≤ (I 12 1).toInt ∧ (I 12 1).toInt ≤ 500 := hR.1
    refine z_get (T := TX9) (N := 14) (ci := 9) (i := 12) (v := .int (I 12 1)) hx hb hts zj_X11_orders_X9 hown hK hW rfl rfl 1 (by decide) (hts (.fieldLink RX11 115 "PetrolBoard$Reader" "taped" "I") (me_s (me_l (me_l (me_l (me_l (me_l (List.mem_of_getElem? (i := 1) rfl)))))))) (fun _ h => h) rfl dX11_orders_9 ?_
    refine lv_icmp_gt (tgt := 22) hx hb dX11_orders_12 (by decide) (fun c7 => ?_) (fun c7 => ?_)
    · have g8 := z_f_gt rfl rfl c7
      refine lv_bipush (v := (-2)) hx hb dX11_orders_22 (by decide) ?_
      exact z_iret hx hb hr hK hS (Nat.le_of_ble_eq_true rfl) (Nat.le_of_ble_eq_true rfl) hlocks dX11_orders_24 (shC c, ad, I, JX, PC c ad) hW ⟨c, ad, I, rfl, rfl, hc, hon, ⟨(by show 0 ≤ (I 12 1).toInt ∧ (I 12 1).toInt ≤ 500; exact hR.1), (by show 0 ≤ (I 12 5).toInt ∧ (I 12 5).toInt ≤ 501; exact hR.2.1), (by show (-1) ≤ (I 12 6).toInt ∧ (I 12 6).toInt ≤ 1000000; exact hR.2.2.1), (by show 0 ≤ (I 12 9).toInt ∧ (I 12 9).toInt ≤ 500; exact hR.2.2.2.1), (by show 0 ≤ (I 12 13).toInt ∧ (I 12 13).toInt ≤ 24; exact hR.2.2.2.2)⟩, (by show 0 ≤ (I 21 2).toInt ∧ (I 21 2).toInt ≤ 12; exact hO), (fun _ _ => rfl), (fun _ _ _ _ => rfl)⟩
    · have g9 := z_f_ngt rfl rfl c7
      refine lv_iload_n hx hb dX11_orders_15 rfl (lv_at hl 2 rfl) ?_
      refine z_ci hW hS hA (va_runS (As := [.int a2]) (rest := []) ⟨hx, hb, hml, hown, hts⟩ (sx_X11_isMonth l G ad c I  a2 _) (va_cwS 1 hts gX11_orders_X11_isMonth rfl rfl rfl hy_X11_isMonth.2 ⟨Nat.le_of_ble_eq_true rfl, Nat.le_of_ble_eq_true rfl⟩) (z_preS hK hW) rfl rfl hl.1 rfl (lv_room (Nat.le_of_ble_eq_true rfl)) dX11_orders_16 ⟨Nat.le_of_ble_eq_true rfl, Nat.le_of_ble_eq_true rfl⟩) (fun r u1 H locs hp hW hS => ?_)
      obtain ⟨e9, hp⟩ := hp
      rw [e9] at hW
      rcases hp with ⟨rfl, h11, h12⟩ | rfl
      · refine lv_if_ne (tgt := 25) hx hb dX11_orders_19 (by decide) (fun c13 => ?_) (fun c13 => absurd c13 (by decide))
        refine lv_aload_n hx hb dX11_orders_25 rfl (lv_at hl 0 rfl) ?_
        refine z_get (T := TX11) (N := 13) (ci := 11) (i := 0) (v := .ref (ad 21)) hx hb hts zj_X11_orders_X11 hown hK hW rfl rfl 4 (by decide) (hts (.fieldLink RX11 30 "PetrolBoard" "orderBook" "LPetrolBoard$OrderBook;") (me_s (me_l (me_l (me_l (me_l (me_l (List.mem_of_getElem? (i := 2) rfl)))))))) (fun _ h => h) rfl dX11_orders_26 ?_
        have r14 : 0 ≤ (I 21 2).toInt ∧ (I 21 2).toInt ≤ 12 := hO
        refine z_get (T := TX6) (N := 3) (ci := 6) (i := 21) (v := .int (I 21 2)) hx hb hts zj_X11_orders_X6 hown hK hW rfl rfl 2 (by decide) (hts (.fieldLink RX11 125 "PetrolBoard$OrderBook" "number" "I") (me_s (me_l (me_l (me_l (me_l (me_l (List.mem_of_getElem? (i := 3) rfl)))))))) (fun _ h => h) rfl dX11_orders_29 ?_
        refine lv_bipush (v := 12) hx hb dX11_orders_32 (by decide) ?_
        refine lv_icmp_lt (tgt := 40) hx hb dX11_orders_34 (by decide) (fun c15 => ?_) (fun c15 => ?_)
        · have g16 := z_f_lt rfl z_l12 c15
          refine lv_aload_n hx hb dX11_orders_40 rfl (lv_at hl 0 rfl) ?_
          refine lv_aload_n hx hb dX11_orders_41 rfl (lv_at hl 0 rfl) ?_
          refine z_get (T := TX11) (N := 13) (ci := 11) (i := 0) (v := .ref (ad 12)) hx hb hts zj_X11_orders_X11 hown hK hW rfl rfl 3 (by decide) (hts (.fieldLink RX11 23 "PetrolBoard" "reader" "LPetrolBoard$Reader;") (me_s (me_l (me_l (me_l (me_l (me_l (List.mem_of_getElem? (i := 0) rfl)))))))) (fun _ h => h) rfl dX11_orders_42 ?_
          refine lv_iload_n hx hb dX11_orders_45 rfl (lv_at hl 1 rfl) ?_
          refine z_ci hW hS hA (va_runV (As := [.int a1]) (rest := [.ref (ad 0)]) ⟨hx, hb, hml, hown, hts⟩ (sx_X9_read l G adK adV ad c I ⟨(by show 0 ≤ (I 12 1).toInt ∧ (I 12 1).toInt ≤ 500; exact hR.1), (by show 0 ≤ (I 12 5).toInt ∧ (I 12 5).toInt ≤ 501; exact hR.2.1), (by show (-1) ≤ (I 12 6).toInt ∧ (I 12 6).toInt ≤ 1000000; exact hR.2.2.1), (by show 0 ≤ (I 12 9).toInt ∧ (I 12 9).toInt ≤ 500; exact hR.2.2.2.1), (by show 0 ≤ (I 12 13).toInt ∧ (I 12 13).toInt ≤ 24; exact hR.2.2.2.2)⟩ a1 (by omega) _) (cwV 1 hts gX11_orders_X9_read rfl rfl rfl hy_X9_read ⟨Nat.le_of_ble_eq_true rfl, Nat.le_of_ble_eq_true rfl⟩) (z_preVN (z_Ck.nice adK adV) (i := 12) hK hW hS hA hKn.1 rfl rfl) rfl rfl hl.1 rfl (lv_room (Nat.le_of_ble_eq_true rfl)) dX11_orders_46 ⟨Nat.le_of_ble_eq_true rfl, Nat.le_of_ble_eq_true rfl⟩) (fun r u1 H locs hp hW hS => ?_)
          obtain ⟨I17, e9, hI17R, fI17⟩ := hp
          rw [e9] at hW
          have f18 := z_fr_sub (L := L_X11_orders) z_fr_0 fI17 (by decide)
          have k19 : 0 ≤ (I17 0 0).toInt ∧ (I17 0 0).toInt ≤ 719 := by rw [fI17 0 0 (by decide)]; exact (by show 0 ≤ (I 0 0).toInt ∧ (I 0 0).toInt ≤ 719; exact hB.1)
          have k20 : 0 ≤ (I17 0 8).toInt ∧ (I17 0 8).toInt ≤ 10 := by rw [fI17 0 8 (by decide)]; exact (by show 0 ≤ (I 0 8).toInt ∧ (I 0 8).toInt ≤ 10; exact hB.2)
          have k21 : 0 ≤ (I17 21 2).toInt ∧ (I17 21 2).toInt ≤ 12 := by rw [fI17 21 2 (by decide)]; exact (by show 0 ≤ (I 21 2).toInt ∧ (I 21 2).toInt ≤ 12; exact hO)
          refine lv_topi (fun x22 ex22 => ?_)
          refine z_put (T := TX11) (N := 13) (ci := 11) (i := 0) (v := .int x22) (I1 := z_up I17 0 1 x22) (J1 := JX) (P1 := PC c ad) hx hb hts zj_X11_orders_X11 tyX11 tyX11_ok nmX11 hown hK hW hS rfl rfl 1 (by decide) (hts (.fieldLink RX11 9 "PetrolBoard" "faultPlace" "I") (me_s (me_l (me_l (me_l (me_l (me_l (List.mem_of_getElem? (i := 4) rfl)))))))) (fun _ h => h) rfl rfl rfl (by first | rfl | exact congrArg _ z_up_s) (fun a b h ty => z_vI h ty) dX11_orders_49 (fun H locs hz1 hW hS => ?_)
          obtain ⟨I23, eI23⟩ : ∃ K : z_I, K = z_up I17 0 1 x22 := ⟨_, rfl⟩
          rw [← eI23] at hW
          have f24 := z_fr_k f18 (show z_wr L_X11_orders 0 1 = true by decide) eI23
          refine lv_aload_n hx hb dX11_orders_52 rfl (lv_at hl 0 rfl) ?_
          refine z_get (T := TX11) (N := 13) (ci := 11) (i := 0) (v := .int x22) hx hb hts zj_X11_orders_X11 hown hK hW rfl rfl 1 (by decide) (hts (.fieldLink RX11 9 "PetrolBoard" "faultPlace" "I") (me_s (me_l (me_l (me_l (me_l (me_l (List.mem_of_getElem? (i := 4) rfl)))))))) (fun _ h => h) (congrArg Value.int (by rw [eI23, z_up_s])) dX11_orders_53 ?_
          refine lv_iconst (v := (-1)) hx hb dX11_orders_56 (by decide) ?_
          refine lv_icmp_eq (tgt := 62) hx hb dX11_orders_57 (by decide) (fun c25 => ?_) (fun c25 => ?_)
          · have g26 := z_f_eq rfl z_lm1 c25
            have b27 := Int32.toInt_lt x22
            have hon9 : (I23 21 2).toInt = (c.2.1 : Int) := by rw [eI23, z_up_n (by decide), fI17 21 2 (z_wr_c (by decide))]; exact hon
            have hR9 : z_iR I23 := ⟨(by show 0 ≤ (I23 12 1).toInt ∧ (I23 12 1).toInt ≤ 500; rw [eI23, z_up_n (by decide)]; exact hI17R.1), (by show 0 ≤ (I23 12 5).toInt ∧ (I23 12 5).toInt ≤ 501; rw [eI23, z_up_n (by decide)]; exact hI17R.2.1), (by show (-1) ≤ (I23 12 6).toInt ∧ (I23 12 6).toInt ≤ 1000000; rw [eI23, z_up_n (by decide)]; exact hI17R.2.2.1), (by show 0 ≤ (I23 12 9).toInt ∧ (I23 12 9).toInt ≤ 500; rw [eI23, z_up_n (by decide)]; exact hI17R.2.2.2.1), (by show 0 ≤ (I23 12 13).toInt ∧ (I23 12 13).toInt ≤ 24; rw [eI23, z_up_n (by decide)]; exact hI17R.2.2.2.2)⟩
            have hn9 : c.2.1 < 12 := by omega
            have hsz9 : ∃ q, q = H.size := ⟨_, rfl⟩
            obtain ⟨q0, hq0⟩ := hsz9
            obtain ⟨ad1, ead⟩ : ∃ f, f = z_ad5 ad (z_o0 c) H.size := ⟨_, rfl⟩
            obtain ⟨P1, eP1⟩ : ∃ f, f = z_P8 (PC c ad) (z_o0 c) := ⟨_, rfl⟩
            obtain ⟨I5, eI5⟩ : ∃ f, f = z_I5 I23 (z_o0 c) := ⟨_, rfl⟩
            have hlo : ∀ j, j < z_o0 c → ad1 j = ad j := fun j hj => by rw [ead]; exact if_neg (by omega)
            have h200 : 200 ≤ z_o0 c := by unfold z_o0; omega
            have h0ad : ad1 (z_o0 c) = H.size := by rw [ead]; show (if _ then _ else _) = _; rw [if_pos (by omega)]; omega
            have hPo : ∀ a k, a ≠ z_o0 c → P1 a k = PC c ad a k := fun a k ha => by rw [eP1]; exact if_neg ha
            have hIo : ∀ a k, a < 200 → I5 a k = I23 a k := fun a k ha => by rw [eI5]; exact if_neg (by omega)
            have hW := z_re5 (q := H.size) hW
            rw [← ead, ← eP1, ← eI5] at hW
            have hl : lv_has ls 3 [(0, .ref (ad1 0)), (1, .int a1), (2, .int a2)] := by rw [hlo 0 (by omega)]; exact hl
            refine lv_aload_n hx hb dX11_orders_62 rfl (lv_at hl 0 rfl) ?_
            refine z_get (T := TX11) (N := 13) (ci := 11) (i := 0) (v := .ref (ad1 21)) hx hb hts zj_X11_orders_X11 hown hK hW rfl rfl 4 (by decide) (hts (.fieldLink RX11 30 "PetrolBoard" "orderBook" "LPetrolBoard$OrderBook;") (me_s (me_l (me_l (me_l (me_l (me_l (List.mem_of_getElem? (i := 2) rfl)))))))) (fun _ h => h) (congrArg va_rf (show P1 0 4 = some (ad1 21) from by rw [hPo 0 4 (by omega), hlo 21 (by omega)]; rfl)) dX11_orders_63 ?_
            refine z_new (z_o0 c) ad1 (T := TX7) (N := 6) (ci := 7) hx hb hts zj_X11_orders_X7 tyX7 tyX7_ok hown (hts (.classLink RX11 132 RX7) (me_s (me_l (me_l (me_l (me_l (me_l (List.mem_of_getElem? (i := 5) rfl)))))))) (hts (.instantiable RX7 6) (me_s (me_l (me_l (me_l (me_l (me_l (List.mem_of_getElem? (i := 6) rfl)))))))) (hts (.initialized RX7) (me_s (me_l (me_l (me_l (me_l (me_l (List.mem_of_getElem? (i := 7) rfl)))))))) hK hW hS hA h0ad (fun _ _ => rfl) rfl (fun k hk => (z_v0 (by rw [eI5]; exact if_pos (by omega)) rfl (by rw [eP1]; exact if_pos rfl) (ndX7 k hk)).symm) (Nat.le_of_ble_eq_true rfl) (Nat.le_of_ble_eq_true rfl) dX11_orders_66 (fun H hz1 hW hS => ?_)
            refine lv_dup hx hb dX11_orders_69 rfl ?_
            refine lv_aload_n hx hb dX11_orders_70 rfl (lv_at hl 0 rfl) ?_
            have hso : ∀ a, a < 200 → z_sh (shC c) (z_o0 c) (.inr 7) a = shC c a := fun a ha => z_sh_n (by omega)
            refine z_get (T := TX11) (N := 13) (ci := 11) (i := 0) (v := .ref (ad1 12)) hx hb hts zj_X11_orders_X11 hown hK hW ((hso 0 (by decide)).trans rfl) rfl 3 (by decide) (hts (.fieldLink RX11 23 "PetrolBoard" "reader" "LPetrolBoard$Reader;") (me_s (me_l (me_l (me_l (me_l (me_l (List.mem_of_getElem? (i := 0) rfl)))))))) (fun _ h => h) (congrArg va_rf (show P1 0 3 = some (ad1 12) from by rw [hPo 0 3 (by omega), hlo 12 (by omega)]; rfl)) dX11_orders_71 ?_
            refine lv_iload_n hx hb dX11_orders_74 rfl (lv_at hl 2 rfl) ?_
            refine lv_aload_n hx hb dX11_orders_75 rfl (lv_at hl 0 rfl) ?_
            refine z_get (T := TX11) (N := 13) (ci := 11) (i := 0) (v := .int (I5 0 0)) hx hb hts zj_X11_orders_X11 hown hK hW ((hso 0 (by decide)).trans rfl) rfl 0 (by decide) (hts (.fieldLink RX11 85 "PetrolBoard" "today" "I") (me_s (me_l (me_l (me_l (me_l (me_l (List.mem_of_getElem? (i := 8) rfl)))))))) (fun _ h => h) rfl dX11_orders_76 ?_
            have hst9 : 0 ≤ (I5 12 13).toInt ∧ (I5 12 13).toInt ≤ 24 := by rw [hIo 12 13 (by decide)]; exact hR9.2.2.2.2
            have hus9 : 0 ≤ (I5 12 9).toInt ∧ (I5 12 9).toInt ≤ 500 := by rw [hIo 12 9 (by decide)]; exact hR9.2.2.2.1
            refine z_cv hW hS hA (va_runI (As := [.ref (ad1 12), .int a2, .int (I5 0 0)]) (rest := [.ref (ad1 (z_o0 c)), .ref (ad1 21)]) ⟨hx, hb, hml, hown, hts⟩ ((sx_X7_init l G adK adV (z_sh (shC c) (z_o0 c) (.inr 7)) ad1 I5 JX P1 (z_o0 c) a2 (I5 0 0) (by simp [z_sh]) h200 (hso 12 (by decide)) (hso 17 (by decide)) (hso 18 (by decide)) (hso 19 (by decide)) (hso 20 (by decide)) (by rw [hPo 12 10 (by omega), hlo 18 (by omega)]; rfl) (by rw [hPo 12 11 (by omega), hlo 19 (by omega)]; rfl) (by rw [hPo 12 12 (by omega), hlo 20 (by omega)]; rfl) (by rw [hPo 12 8 (by omega), hlo 17 (by omega)]; rfl) (fun j hj => (z_sh_n (by omega)).trans (z_shC_05 ⟨by omega, by omega⟩)) (fun j hj k => by rw [eI5]; exact if_pos (by omega)) hst9 hus9) _) (cwI 3 hts gX11_orders_X7_init rfl rfl rfl (hts (.initialized RX7) (me_s (me_l (me_l (me_l (me_l (me_l (List.mem_of_getElem? (i := 7) rfl)))))))) (hts (.methodLink RX11 134 yX7_init) (me_s (me_l (me_l (me_l (me_l (me_r (me_r (me_r (me_r (me_r (me_r (me_r (me_r (me_l (List.mem_of_getElem? (i := 2) rfl)))))))))))))))) (hts (.instanceMethod yX7_init) (me_s (me_l (me_l (me_l (me_l (me_r (me_r (me_r (me_r (me_r (me_r (me_r (me_r (me_l (List.mem_of_getElem? (i := 3) rfl)))))))))))))))) rfl (by decide +kernel) ⟨(Nat.le_of_ble_eq_true rfl), (Nat.le_of_ble_eq_true rfl)⟩) (z_preSN (z_Cq.nice adK adV) hK hW hS hA hKn) rfl rfl hl.1 rfl (lv_room (Nat.le_of_ble_eq_true rfl)) dX11_orders_79 ⟨(Nat.le_of_ble_eq_true rfl), (Nat.le_of_ble_eq_true rfl)⟩) (fun u1 H locs hp hW hS => ?_)
            obtain ⟨ad2, e9, had2⟩ := hp
            rw [e9] at hW
            have e21 : ad1 21 = ad2 21 := (had2 21 (by omega)).symm
            have eo : ad1 (z_o0 c) = ad2 (z_o0 c) := (had2 _ (by omega)).symm
            obtain ⟨I2, eI2⟩ : ∃ f, f = (z_c4 (z_up (z_up I5 (z_o0 c) 0 a2) (z_o0 c) 1 (I5 0 0)) (z_o0 c) z_src 4) := ⟨_, rfl⟩
            rw [← eI2] at hW
            have hI2 : ∀ a k, a < 200 → I2 a k = I23 a k := fun a k ha => by rw [eI2, z_c4_n 4 (by omega), z_up_n (by omega), z_up_n (by omega)]; exact hIo a k ha
            refine W.eq (g2 := F0 m 82 ls [.ref (ad2 (z_o0 c)), .ref (ad2 21)]) (by rw [e21, eo]) ?_
            refine z_ci hW hS hA (va_runV (As := [.ref (ad2 (z_o0 c))]) (rest := []) ⟨hx, hb, hml, hown, hts⟩ ((sx_X6_add l G (z_o4 (z_sh (shC c) (z_o0 c) (.inr 7)) (z_o0 c) (z_k4 (I5 12 13).toNatClampNeg (I5 12 9).toNatClampNeg) 4) ad2 I2 JX (z_ps z_f7 P1 (z_o0 c) ad2 4) (z_o0 c) ((z_o4_n 4 (by omega)).trans (hso 21 (by decide))) ((z_o4_n 4 (by omega)).trans (hso 22 (by decide))) ((z_o4_n 4 (by omega)).trans (by simp [z_sh])) (by rw [z_ps_n (by omega), hPo 21 0 (by omega), had2 22 (by omega), hlo 22 (by omega)]; rfl) (by rw [hI2 21 2 (by decide)]; omega)) _) (cwV 1 hts gX11_orders_X6_add rfl rfl rfl hy_X6_add ⟨(Nat.le_of_ble_eq_true rfl), (Nat.le_of_ble_eq_true rfl)⟩) (z_preV (i := 21) hK hW ((z_o4_n 4 (by omega)).trans (hso 21 (by decide))) rfl) rfl rfl hl.1 rfl (lv_room (Nat.le_of_ble_eq_true rfl)) dX11_orders_82 ⟨(Nat.le_of_ble_eq_true rfl), (Nat.le_of_ble_eq_true rfl)⟩) (fun r u1 H locs hp hW hS => ?_)
            obtain ⟨y, ty, e9⟩ := hp
            rw [e9] at hW
            have hx9 : (I2 21 2).toNatClampNeg = c.2.1 := by have g9 := z_clt (x := I2 21 2) rfl (by rw [hI2 21 2 (by decide)]; omega); rw [hI2 21 2 (by decide)] at g9 ⊢; omega
            have hW := z_or2 (ad := ad) (ad2 := ad2) hc10 hx9 (fun j hj => by rw [had2 j (by unfold z_o0; omega), ead]; exact if_neg (by unfold z_o0; omega)) (by rw [← eP1]; exact hW)
            obtain ⟨I3, eI3⟩ : ∃ f, f = z_up I2 21 2 y := ⟨_, rfl⟩
            rw [← eI3] at hW
            exact z_iret hx hb hr hK hS (Nat.le_of_ble_eq_true rfl) (Nat.le_of_ble_eq_true rfl) hlocks dX11_orders_85 (shC (z_c2 c (I5 12 13).toNatClampNeg (I5 12 9).toNatClampNeg), ad2, I3, JX, PC (z_c2 c (I5 12 13).toNatClampNeg (I5 12 9).toNatClampNeg) ad2) hW ⟨(z_c2 c (I5 12 13).toNatClampNeg (I5 12 9).toNatClampNeg), ad2, I3, rfl, rfl, z_okc2 hc (by have g9 := z_clt (x := I5 12 13) rfl hst9.1; omega) (by have g9 := z_clt (x := I5 12 9) rfl hus9.1; omega), (by rw [eI3, z_up_s, ty, hI2 21 2 (by decide), hon9]; rfl), (z_iR_3 hR9 (fun k => by rw [eI3, z_up_n (by decide)]; exact hI2 12 k (by decide))), (by show 0 ≤ (I3 21 2).toInt ∧ (I3 21 2).toInt ≤ 12; rw [eI3, z_up_s, ty, hI2 21 2 (by decide)]; omega), (fun j hj => by rw [had2 j (by omega)]; exact hlo j (by omega)), (fun a k ha hk => by rw [eI3]; by_cases q : a = 21; (· (by_cases q2 : k = 2; (· (exfalso; rw [q, q2] at hk; exact absurd hk (by decide))); (· (rw [z_up_k q2, hI2 a k ha]; exact f24 a k hk)))); (· (rw [z_up_n q, hI2 a k ha]; exact f24 a k hk)))⟩
          · have g28 := z_f_ne rfl z_lm1 c25
            have b29 := Int32.toInt_lt x22
            refine lv_iconst (v := (-1)) hx hb dX11_orders_60 (by decide) ?_
            exact z_iret hx hb hr hK hS (Nat.le_of_ble_eq_true rfl) (Nat.le_of_ble_eq_true rfl) hlocks dX11_orders_61 (shC c, ad, I23, JX, PC c ad) hW ⟨c, ad, I23, rfl, rfl, hc, (by rw [eI23, z_up_n (by decide), fI17 21 2 (z_wr_c (by decide))]; exact hon), ⟨(by show 0 ≤ (I23 12 1).toInt ∧ (I23 12 1).toInt ≤ 500; rw [eI23, z_up_n (by decide)]; exact hI17R.1), (by show 0 ≤ (I23 12 5).toInt ∧ (I23 12 5).toInt ≤ 501; rw [eI23, z_up_n (by decide)]; exact hI17R.2.1), (by show (-1) ≤ (I23 12 6).toInt ∧ (I23 12 6).toInt ≤ 1000000; rw [eI23, z_up_n (by decide)]; exact hI17R.2.2.1), (by show 0 ≤ (I23 12 9).toInt ∧ (I23 12 9).toInt ≤ 500; rw [eI23, z_up_n (by decide)]; exact hI17R.2.2.2.1), (by show 0 ≤ (I23 12 13).toInt ∧ (I23 12 13).toInt ≤ 24; rw [eI23, z_up_n (by decide)]; exact hI17R.2.2.2.2)⟩, (by show 0 ≤ (I23 21 2).toInt ∧ (I23 21 2).toInt ≤ 12; rw [eI23, z_up_n (by decide)]; exact k21), (fun _ _ => rfl), (fun a k _ hk => f24 a k hk)⟩
        · have g30 := z_f_nlt rfl z_l12 c15
          refine lv_bipush (v := (-3)) hx hb dX11_orders_37 (by decide) ?_
          exact z_iret hx hb hr hK hS (Nat.le_of_ble_eq_true rfl) (Nat.le_of_ble_eq_true rfl) hlocks dX11_orders_39 (shC c, ad, I, JX, PC c ad) hW ⟨c, ad, I, rfl, rfl, hc, hon, ⟨(by show 0 ≤ (I 12 1).toInt ∧ (I 12 1).toInt ≤ 500; exact hR.1), (by show 0 ≤ (I 12 5).toInt ∧ (I 12 5).toInt ≤ 501; exact hR.2.1), (by show (-1) ≤ (I 12 6).toInt ∧ (I 12 6).toInt ≤ 1000000; exact hR.2.2.1), (by show 0 ≤ (I 12 9).toInt ∧ (I 12 9).toInt ≤ 500; exact hR.2.2.2.1), (by show 0 ≤ (I 12 13).toInt ∧ (I 12 13).toInt ≤ 24; exact hR.2.2.2.2)⟩, (by show 0 ≤ (I 21 2).toInt ∧ (I 21 2).toInt ≤ 12; exact hO), (fun _ _ => rfl), (fun _ _ _ _ => rfl)⟩
      · refine lv_if_ne (tgt := 25) hx hb dX11_orders_19 (by decide) (fun c31 => absurd (by decide) c31) (fun c31 => ?_)
        refine lv_bipush (v := (-2)) hx hb dX11_orders_22 (by decide) ?_
        exact z_iret hx hb hr hK hS (Nat.le_of_ble_eq_true rfl) (Nat.le_of_ble_eq_true rfl) hlocks dX11_orders_24 (shC c, ad, I, JX, PC c ad) hW ⟨c, ad, I, rfl, rfl, hc, hon, ⟨(by show 0 ≤ (I 12 1).toInt ∧ (I 12 1).toInt ≤ 500; exact hR.1), (by show 0 ≤ (I 12 5).toInt ∧ (I 12 5).toInt ≤ 501; exact hR.2.1), (by show (-1) ≤ (I 12 6).toInt ∧ (I 12 6).toInt ≤ 1000000; exact hR.2.2.1), (by show 0 ≤ (I 12 9).toInt ∧ (I 12 9).toInt ≤ 500; exact hR.2.2.2.1), (by show 0 ≤ (I 12 13).toInt ∧ (I 12 13).toInt ≤ 24; exact hR.2.2.2.2)⟩, (by show 0 ≤ (I 21 2).toInt ∧ (I 21 2).toInt ≤ 12; exact hO), (fun _ _ => rfl), (fun _ _ _ _ => rfl)⟩
noncomputable def L_X11_feed : z_L := [(13, 999), (12, 1)]
theorem zj_X11_feed_X9 : ∀ w ∈ wsX90, w ∈ wsX11_feed := fun w h => (List.mem_cons_of_mem _ (List.mem_append_right _ h))
theorem zj_X11_feed_X11 : ∀ w ∈ wsX110, w ∈ wsX11_feed := fun w h => (List.mem_cons_of_mem _ (List.mem_append_left _ (List.mem_append_right _ h)))
set_option maxHeartbeats 8000000 in
set_option maxRecDepth 100000 in
theorem sx_X11_feed (l : Launch) (G : z_G) (ad : Nat → Nat) (c : z_C) (I : z_I) (hR : z_iR I) (a1 : Int32) (a2 : Int32) (a3 : Int32) (a4 : Int32) (a5 : Int32) : z_M l yX11_feed wsX11_feed { frames := 2, cells := 0, slots := 0, locals := 34 } [.ref (ad 0), .int a1, .int a2, .int a3, .int a4, .int a5] G (shC c, ad, I, JX, PC c ad) (fun r u1 => ∃ I1 : z_I, u1 = (shC c, ad, I1, JX, PC c ad) ∧ z_iR I1 ∧ z_fr L_X11_feed I1 I) 0 0 := by
  intro sz
  refine z_headQ (cc := cX11_feed) (maxL := 6) (ret := (some .int)) (by decide) rfl (Nat.le_of_ble_eq_true rfl) ?_
  intro p e s m below meth c0 ls hIn hK hsz hW hl
  obtain ⟨hx, hb, hr, hml, hown, hts, hlocks, hname⟩ := hIn
  subst hsz
  have hown : s.vm.findClass RX11 = some m.cls := hown
  have hA : ∀ q : Nat, s.heap.size ≤ q → z_A (shC c, ad, I, JX, PC c ad) s.heap.size q := fun q h => Or.inr h
  generalize hAe : z_A (shC c, ad, I, JX, PC c ad) s.heap.size = A at *
  have hS : va_S A s.heap s.heap [] := va_S.rf
  have hl : lv_has ls 6 [(0, .ref (ad 0)), (1, .int a1), (2, .int a2), (3, .int a3), (4, .int a4), (5, .int a5)] := hl
  refine lv_aload_n hx hb dX11_feed_0 rfl (lv_at hl 0 rfl) ?_
  refine z_get (T := TX11) (N := 13) (ci := 11) (i := 0) (v := .ref (ad 12)) hx hb hts zj_X11_feed_X11 hown hK hW rfl rfl 3 (by decide) (hts (.fieldLink RX11 23 "PetrolBoard" "reader" "LPetrolBoard$Reader;") (me_s (me_l (me_l (List.mem_of_getElem? (i := 0) rfl))))) (fun _ h => h) rfl dX11_feed_1 ?_
  have r1 : 0 ≤ (I 12 1).toInt ∧ (I 12 1).toInt ≤ 500 := hR.1
  refine z_get (T := TX9) (N := 14) (ci := 9) (i := 12) (v := .int (I 12 1)) hx hb hts zj_X11_feed_X9 hown hK hW rfl rfl 1 (by decide) (hts (.fieldLink RX11 115 "PetrolBoard$Reader" "taped" "I") (me_s (me_l (me_l (List.mem_of_getElem? (i := 1) rfl))))) (fun _ h => h) rfl dX11_feed_4 ?_
  refine lv_bipush (v := 20) hx hb dX11_feed_7 (by decide) ?_
  refine lv_iadd hx hb dX11_feed_9 ?_
  refine lv_topi (fun x2 ex2 => ?_)
  have tx2 : x2.toInt = (I 12 1).toInt + 20 := z_tadd ex2 rfl z_l20 (by omega) (by omega)
  refine lv_sipush (v := 500) hx hb dX11_feed_10 (by decide) ?_
  refine lv_icmp_le (tgt := 18) hx hb dX11_feed_13 (by decide) (fun c3 => ?_) (fun c3 => ?_)
  · have g4 := z_f_le rfl z_l500 c3
    refine lv_aload_n hx hb dX11_feed_18 rfl (lv_at hl 0 rfl) ?_
    refine z_get (T := TX11) (N := 13) (ci := 11) (i := 0) (v := .ref (ad 12)) hx hb hts zj_X11_feed_X11 hown hK hW rfl rfl 3 (by decide) (hts (.fieldLink RX11 23 "PetrolBoard" "reader" "LPetrolBoard$Reader;") (me_s (me_l (me_l (List.mem_of_getElem? (i := 0) rfl))))) (fun _ h => h) rfl dX11_feed_19 ?_
    refine lv_iload_n hx hb dX11_feed_22 rfl (lv_at hl 1 rfl) ?_
    refine z_cv hW hS hA (va_runV (As := [.int a1]) (rest := []) ⟨hx, hb, hml, hown, hts⟩ (sx_X9_put l G ad c I ⟨(by show 0 ≤ (I 12 1).toInt ∧ (I 12 1).toInt ≤ 500; exact hR.1), (by show 0 ≤ (I 12 5).toInt ∧ (I 12 5).toInt ≤ 501; exact hR.2.1), (by show (-1) ≤ (I 12 6).toInt ∧ (I 12 6).toInt ≤ 1000000; exact hR.2.2.1), (by show 0 ≤ (I 12 9).toInt ∧ (I 12 9).toInt ≤ 500; exact hR.2.2.2.1), (by show 0 ≤ (I 12 13).toInt ∧ (I 12 13).toInt ≤ 24; exact hR.2.2.2.2)⟩ a1 _) (cwV 1 hts gX11_feed_X9_put rfl rfl rfl hy_X9_put ⟨Nat.le_of_ble_eq_true rfl, Nat.le_of_ble_eq_true rfl⟩) (z_preV (i := 12) hK hW rfl rfl) rfl rfl hl.1 rfl (lv_room (Nat.le_of_ble_eq_true rfl)) dX11_feed_23 ⟨Nat.le_of_ble_eq_true rfl, Nat.le_of_ble_eq_true rfl⟩) (fun u1 H locs hp hW hS => ?_)
    obtain ⟨I5, e9, hI5R, fI5⟩ := hp
    rw [e9] at hW
    have f6 := z_fr_sub (L := L_X11_feed) z_fr_0 fI5 (by decide)
    refine lv_aload_n hx hb dX11_feed_26 rfl (lv_at hl 0 rfl) ?_
    refine z_get (T := TX11) (N := 13) (ci := 11) (i := 0) (v := .ref (ad 12)) hx hb hts zj_X11_feed_X11 hown hK hW rfl rfl 3 (by decide) (hts (.fieldLink RX11 23 "PetrolBoard" "reader" "LPetrolBoard$Reader;") (me_s (me_l (me_l (List.mem_of_getElem? (i := 0) rfl))))) (fun _ h => h) rfl dX11_feed_27 ?_
    refine lv_iload_n hx hb dX11_feed_30 rfl (lv_at hl 2 rfl) ?_
    refine z_cv hW hS hA (va_runV (As := [.int a2]) (rest := []) ⟨hx, hb, hml, hown, hts⟩ (sx_X9_put l G ad c I5 ⟨(by show 0 ≤ (I5 12 1).toInt ∧ (I5 12 1).toInt ≤ 500; exact hI5R.1), (by show 0 ≤ (I5 12 5).toInt ∧ (I5 12 5).toInt ≤ 501; exact hI5R.2.1), (by show (-1) ≤ (I5 12 6).toInt ∧ (I5 12 6).toInt ≤ 1000000; exact hI5R.2.2.1), (by show 0 ≤ (I5 12 9).toInt ∧ (I5 12 9).toInt ≤ 500; exact hI5R.2.2.2.1), (by show 0 ≤ (I5 12 13).toInt ∧ (I5 12 13).toInt ≤ 24; exact hI5R.2.2.2.2)⟩ a2 _) (cwV 1 hts gX11_feed_X9_put rfl rfl rfl hy_X9_put ⟨Nat.le_of_ble_eq_true rfl, Nat.le_of_ble_eq_true rfl⟩) (z_preV (i := 12) hK hW rfl rfl) rfl rfl hl.1 rfl (lv_room (Nat.le_of_ble_eq_true rfl)) dX11_feed_31 ⟨Nat.le_of_ble_eq_true rfl, Nat.le_of_ble_eq_true rfl⟩) (fun u1 H locs hp hW hS => ?_)
    obtain ⟨I7, e9, hI7R, fI7⟩ := hp
    rw [e9] at hW
    have f8 := z_fr_sub (L := L_X11_feed) f6 fI7 (by decide)
    refine lv_aload_n hx hb dX11_feed_34 rfl (lv_at hl 0 rfl) ?_
    refine z_get (T := TX11) (N := 13) (ci := 11) (i := 0) (v := .ref (ad 12)) hx hb hts zj_X11_feed_X11 hown hK hW rfl rfl 3 (by decide) (hts (.fieldLink RX11 23 "PetrolBoard" "reader" "LPetrolBoard$Reader;") (me_s (me_l (me_l (List.mem_of_getElem? (i := 0) rfl))))) (fun _ h => h) rfl dX11_feed_35 ?_
    refine lv_iload_n hx hb dX11_feed_38 rfl (lv_at hl 3 rfl) ?_
    refine z_cv hW hS hA (va_runV (As := [.int a3]) (rest := []) ⟨hx, hb, hml, hown, hts⟩ (sx_X9_put l G ad c I7 ⟨(by show 0 ≤ (I7 12 1).toInt ∧ (I7 12 1).toInt ≤ 500; exact hI7R.1), (by show 0 ≤ (I7 12 5).toInt ∧ (I7 12 5).toInt ≤ 501; exact hI7R.2.1), (by show (-1) ≤ (I7 12 6).toInt ∧ (I7 12 6).toInt ≤ 1000000; exact hI7R.2.2.1), (by show 0 ≤ (I7 12 9).toInt ∧ (I7 12 9).toInt ≤ 500; exact hI7R.2.2.2.1), (by show 0 ≤ (I7 12 13).toInt ∧ (I7 12 13).toInt ≤ 24; exact hI7R.2.2.2.2)⟩ a3 _) (cwV 1 hts gX11_feed_X9_put rfl rfl rfl hy_X9_put ⟨Nat.le_of_ble_eq_true rfl, Nat.le_of_ble_eq_true rfl⟩) (z_preV (i := 12) hK hW rfl rfl) rfl rfl hl.1 rfl (lv_room (Nat.le_of_ble_eq_true rfl)) dX11_feed_39 ⟨Nat.le_of_ble_eq_true rfl, Nat.le_of_ble_eq_true rfl⟩) (fun u1 H locs hp hW hS => ?_)
    obtain ⟨I9, e9, hI9R, fI9⟩ := hp
    rw [e9] at hW
    have f10 := z_fr_sub (L := L_X11_feed) f8 fI9 (by decide)
    refine lv_aload_n hx hb dX11_feed_42 rfl (lv_at hl 0 rfl) ?_
    refine z_get (T := TX11) (N := 13) (ci := 11) (i := 0) (v := .ref (ad 12)) hx hb hts zj_X11_feed_X11 hown hK hW rfl rfl 3 (by decide) (hts (.fieldLink RX11 23 "PetrolBoard" "reader" "LPetrolBoard$Reader;") (me_s (me_l (me_l (List.mem_of_getElem? (i := 0) rfl))))) (fun _ h => h) rfl dX11_feed_43 ?_
    refine lv_iload hx hb dX11_feed_46 (lv_at hl 4 rfl) ?_
    refine z_cv hW hS hA (va_runV (As := [.int a4]) (rest := []) ⟨hx, hb, hml, hown, hts⟩ (sx_X9_put l G ad c I9 ⟨(by show 0 ≤ (I9 12 1).toInt ∧ (I9 12 1).toInt ≤ 500; exact hI9R.1), (by show 0 ≤ (I9 12 5).toInt ∧ (I9 12 5).toInt ≤ 501; exact hI9R.2.1), (by show (-1) ≤ (I9 12 6).toInt ∧ (I9 12 6).toInt ≤ 1000000; exact hI9R.2.2.1), (by show 0 ≤ (I9 12 9).toInt ∧ (I9 12 9).toInt ≤ 500; exact hI9R.2.2.2.1), (by show 0 ≤ (I9 12 13).toInt ∧ (I9 12 13).toInt ≤ 24; exact hI9R.2.2.2.2)⟩ a4 _) (cwV 1 hts gX11_feed_X9_put rfl rfl rfl hy_X9_put ⟨Nat.le_of_ble_eq_true rfl, Nat.le_of_ble_eq_true rfl⟩) (z_preV (i := 12) hK hW rfl rfl) rfl rfl hl.1 rfl (lv_room (Nat.le_of_ble_eq_true rfl)) dX11_feed_48 ⟨Nat.le_of_ble_eq_true rfl, Nat.le_of_ble_eq_true rfl⟩) (fun u1 H locs hp hW hS => ?_)
    obtain ⟨I11, e9, hI11R, fI11⟩ := hp
    rw [e9] at hW
    have f12 := z_fr_sub (L := L_X11_feed) f10 fI11 (by decide)
    refine lv_aload_n hx hb dX11_feed_51 rfl (lv_at hl 0 rfl) ?_
    refine z_get (T := TX11) (N := 13) (ci := 11) (i := 0) (v := .ref (ad 12)) hx hb hts zj_X11_feed_X11 hown hK hW rfl rfl 3 (by decide) (hts (.fieldLink RX11 23 "PetrolBoard" "reader" "LPetrolBoard$Reader;") (me_s (me_l (me_l (List.mem_of_getElem? (i := 0) rfl))))) (fun _ h => h) rfl dX11_feed_52 ?_
    refine lv_iload hx hb dX11_feed_55 (lv_at hl 5 rfl) ?_
    refine z_cv hW hS hA (va_runV (As := [.int a5]) (rest := []) ⟨hx, hb, hml, hown, hts⟩ (sx_X9_put l G ad c I11 ⟨(by show 0 ≤ (I11 12 1).toInt ∧ (I11 12 1).toInt ≤ 500; exact hI11R.1), (by show 0 ≤ (I11 12 5).toInt ∧ (I11 12 5).toInt ≤ 501; exact hI11R.2.1), (by show (-1) ≤ (I11 12 6).toInt ∧ (I11 12 6).toInt ≤ 1000000; exact hI11R.2.2.1), (by show 0 ≤ (I11 12 9).toInt ∧ (I11 12 9).toInt ≤ 500; exact hI11R.2.2.2.1), (by show 0 ≤ (I11 12 13).toInt ∧ (I11 12 13).toInt ≤ 24; exact hI11R.2.2.2.2)⟩ a5 _) (cwV 1 hts gX11_feed_X9_put rfl rfl rfl hy_X9_put ⟨Nat.le_of_ble_eq_true rfl, Nat.le_of_ble_eq_true rfl⟩) (z_preV (i := 12) hK hW rfl rfl) rfl rfl hl.1 rfl (lv_room (Nat.le_of_ble_eq_true rfl)) dX11_feed_57 ⟨Nat.le_of_ble_eq_true rfl, Nat.le_of_ble_eq_true rfl⟩) (fun u1 H locs hp hW hS => ?_)
    obtain ⟨I13, e9, hI13R, fI13⟩ := hp
    rw [e9] at hW
    have f14 := z_fr_sub (L := L_X11_feed) f12 fI13 (by decide)
    refine lv_aload_n hx hb dX11_feed_60 rfl (lv_at hl 0 rfl) ?_
    refine z_get (T := TX11) (N := 13) (ci := 11) (i := 0) (v := .ref (ad 12)) hx hb hts zj_X11_feed_X11 hown hK hW rfl rfl 3 (by decide) (hts (.fieldLink RX11 23 "PetrolBoard" "reader" "LPetrolBoard$Reader;") (me_s (me_l (me_l (List.mem_of_getElem? (i := 0) rfl))))) (fun _ h => h) rfl dX11_feed_61 ?_
    have r15 : 0 ≤ (I13 12 1).toInt ∧ (I13 12 1).toInt ≤ 500 := hI13R.1
    refine z_get (T := TX9) (N := 14) (ci := 9) (i := 12) (v := .int (I13 12 1)) hx hb hts zj_X11_feed_X9 hown hK hW rfl rfl 1 (by decide) (hts (.fieldLink RX11 115 "PetrolBoard$Reader" "taped" "I") (me_s (me_l (me_l (List.mem_of_getElem? (i := 1) rfl))))) (fun _ h => h) rfl dX11_feed_64 ?_
    exact z_iret hx hb hr hK hS (Nat.le_of_ble_eq_true rfl) (Nat.le_of_ble_eq_true rfl) hlocks dX11_feed_67 (shC c, ad, I13, JX, PC c ad) hW ⟨I13, rfl, ⟨(by show 0 ≤ (I13 12 1).toInt ∧ (I13 12 1).toInt ≤ 500; exact hI13R.1), (by show 0 ≤ (I13 12 5).toInt ∧ (I13 12 5).toInt ≤ 501; exact hI13R.2.1), (by show (-1) ≤ (I13 12 6).toInt ∧ (I13 12 6).toInt ≤ 1000000; exact hI13R.2.2.1), (by show 0 ≤ (I13 12 9).toInt ∧ (I13 12 9).toInt ≤ 500; exact hI13R.2.2.2.1), (by show 0 ≤ (I13 12 13).toInt ∧ (I13 12 13).toInt ≤ 24; exact hI13R.2.2.2.2)⟩, f14⟩
  · have g16 := z_f_nle rfl z_l500 c3
    refine lv_iconst (v := (-1)) hx hb dX11_feed_16 (by decide) ?_
    exact z_iret hx hb hr hK hS (Nat.le_of_ble_eq_true rfl) (Nat.le_of_ble_eq_true rfl) hlocks dX11_feed_17 (shC c, ad, I, JX, PC c ad) hW ⟨I, rfl, ⟨(by show 0 ≤ (I 12 1).toInt ∧ (I 12 1).toInt ≤ 500; exact hR.1), (by show 0 ≤ (I 12 5).toInt ∧ (I 12 5).toInt ≤ 501; exact hR.2.1), (by show (-1) ≤ (I 12 6).toInt ∧ (I 12 6).toInt ≤ 1000000; exact hR.2.2.1), (by show 0 ≤ (I 12 9).toInt ∧ (I 12 9).toInt ≤ 500; exact hR.2.2.2.1), (by show 0 ≤ (I 12 13).toInt ∧ (I 12 13).toInt ≤ 24; exact hR.2.2.2.2)⟩, z_fr_0⟩
