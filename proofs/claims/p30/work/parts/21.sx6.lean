theorem dX6_inForce_0 : decode cX6_inForce 0 = .ok (.iconst (-1), 1) := z_dd_2 (by decide +kernel)
theorem dX6_inForce_1 : decode cX6_inForce 1 = .ok (.istore_n 3, 1) := z_dd_62 (by decide +kernel)
theorem dX6_inForce_2 : decode cX6_inForce 2 = .ok (.iconst (-1), 1) := z_dd_2 (by decide +kernel)
theorem dX6_inForce_3 : decode cX6_inForce 3 = .ok (.istore 4, 2) := z_dd_54 (by decide +kernel)
theorem dX6_inForce_5 : decode cX6_inForce 5 = .ok (.iconst 0, 1) := z_dd_3 (by decide +kernel)
theorem dX6_inForce_6 : decode cX6_inForce 6 = .ok (.istore 5, 2) := z_dd_54 (by decide +kernel)
theorem dX6_inForce_8 : decode cX6_inForce 8 = .ok (.iload 5, 2) := z_dd_21 (by decide +kernel)
theorem dX6_inForce_10 : decode cX6_inForce 10 = .ok (.aload_n 0, 1) := z_dd_42 (by decide +kernel)
theorem dX6_inForce_11 : decode cX6_inForce 11 = .ok (.getfield 24, 3) := z_dd_180 (by decide +kernel)
theorem dX6_inForce_14 : decode cX6_inForce 14 = .ok (.if_icmp .ge 83, 3) := z_dd_162 (by decide +kernel)
theorem dX6_inForce_97 : decode cX6_inForce 97 = .ok (.iload_n 3, 1) := z_dd_29 (by decide +kernel)
theorem dX6_inForce_98 : decode cX6_inForce 98 = .ok (.ireturn, 1) := z_dd_172 (by decide +kernel)
theorem dX6_inForce_17 : decode cX6_inForce 17 = .ok (.iload 5, 2) := z_dd_21 (by decide +kernel)
theorem dX6_inForce_19 : decode cX6_inForce 19 = .ok (.aload_n 0, 1) := z_dd_42 (by decide +kernel)
theorem dX6_inForce_20 : decode cX6_inForce 20 = .ok (.getfield 11, 3) := z_dd_180 (by decide +kernel)
theorem dX6_inForce_23 : decode cX6_inForce 23 = .ok (.arraylength, 1) := z_dd_190 (by decide +kernel)
theorem dX6_inForce_24 : decode cX6_inForce 24 = .ok (.if_icmp .ge 73, 3) := z_dd_162 (by decide +kernel)
theorem dX6_inForce_27 : decode cX6_inForce 27 = .ok (.aload_n 0, 1) := z_dd_42 (by decide +kernel)
theorem dX6_inForce_28 : decode cX6_inForce 28 = .ok (.getfield 11, 3) := z_dd_180 (by decide +kernel)
theorem dX6_inForce_31 : decode cX6_inForce 31 = .ok (.iload 5, 2) := z_dd_21 (by decide +kernel)
theorem dX6_inForce_33 : decode cX6_inForce 33 = .ok (.aaload, 1) := z_dd_50 (by decide +kernel)
theorem dX6_inForce_34 : decode cX6_inForce 34 = .ok (.astore 6, 2) := z_dd_58 (by decide +kernel)
theorem dX6_inForce_36 : decode cX6_inForce 36 = .ok (.aload 6, 2) := z_dd_25 (by decide +kernel)
theorem dX6_inForce_38 : decode cX6_inForce 38 = .ok (.ifnull 25, 3) := z_dd_198 (by decide +kernel)
theorem dX6_inForce_41 : decode cX6_inForce 41 = .ok (.aload 6, 2) := z_dd_25 (by decide +kernel)
theorem dX6_inForce_43 : decode cX6_inForce 43 = .ok (.getfield 28, 3) := z_dd_180 (by decide +kernel)
theorem dX6_inForce_46 : decode cX6_inForce 46 = .ok (.iload_n 2, 1) := z_dd_28 (by decide +kernel)
theorem dX6_inForce_47 : decode cX6_inForce 47 = .ok (.if_icmp .gt 16, 3) := z_dd_163 (by decide +kernel)
theorem dX6_inForce_63 : decode cX6_inForce 63 = .ok (.iconst 0, 1) := z_dd_3 (by decide +kernel)
theorem dX6_inForce_64 : decode cX6_inForce 64 = .ok (.istore 7, 2) := z_dd_54 (by decide +kernel)
theorem dX6_inForce_66 : decode cX6_inForce 66 = .ok (.iload 7, 2) := z_dd_21 (by decide +kernel)
theorem dX6_inForce_68 : decode cX6_inForce 68 = .ok (.ifCond .eq 23, 3) := z_dd_153 (by decide +kernel)
theorem dX6_inForce_91 : decode cX6_inForce 91 = .ok (.iinc 5 1, 3) := z_dd_132 (by decide +kernel)
theorem dX6_inForce_94 : decode cX6_inForce 94 = .ok (.goto (-86), 3) := z_dd_167 (by decide +kernel)
theorem dX6_inForce_50 : decode cX6_inForce 50 = .ok (.aload 6, 2) := z_dd_25 (by decide +kernel)
theorem dX6_inForce_52 : decode cX6_inForce 52 = .ok (.getfield 31, 3) := z_dd_180 (by decide +kernel)
theorem dX6_inForce_55 : decode cX6_inForce 55 = .ok (.iload_n 1, 1) := z_dd_27 (by decide +kernel)
theorem dX6_inForce_56 : decode cX6_inForce 56 = .ok (.if_icmp .gt 7, 3) := z_dd_163 (by decide +kernel)
theorem dX6_inForce_59 : decode cX6_inForce 59 = .ok (.iconst 1, 1) := z_dd_4 (by decide +kernel)
theorem dX6_inForce_60 : decode cX6_inForce 60 = .ok (.goto 4, 3) := z_dd_167 (by decide +kernel)
theorem dX6_inForce_71 : decode cX6_inForce 71 = .ok (.aload 6, 2) := z_dd_25 (by decide +kernel)
theorem dX6_inForce_73 : decode cX6_inForce 73 = .ok (.getfield 31, 3) := z_dd_180 (by decide +kernel)
theorem dX6_inForce_76 : decode cX6_inForce 76 = .ok (.iload 4, 2) := z_dd_21 (by decide +kernel)
theorem dX6_inForce_78 : decode cX6_inForce 78 = .ok (.if_icmp .lt 13, 3) := z_dd_161 (by decide +kernel)
theorem dX6_inForce_81 : decode cX6_inForce 81 = .ok (.aload 6, 2) := z_dd_25 (by decide +kernel)
theorem dX6_inForce_83 : decode cX6_inForce 83 = .ok (.getfield 31, 3) := z_dd_180 (by decide +kernel)
theorem dX6_inForce_86 : decode cX6_inForce 86 = .ok (.istore 4, 2) := z_dd_54 (by decide +kernel)
theorem dX6_inForce_88 : decode cX6_inForce 88 = .ok (.iload 5, 2) := z_dd_21 (by decide +kernel)
theorem dX6_inForce_90 : decode cX6_inForce 90 = .ok (.istore_n 3, 1) := z_dd_62 (by decide +kernel)
theorem dX6_ordersOf_0 : decode cX6_ordersOf 0 = .ok (.aload_n 0, 1) := z_dd_42 (by decide +kernel)
theorem dX6_ordersOf_1 : decode cX6_ordersOf 1 = .ok (.iload_n 1, 1) := z_dd_27 (by decide +kernel)
theorem dX6_ordersOf_2 : decode cX6_ordersOf 2 = .ok (.iload_n 2, 1) := z_dd_28 (by decide +kernel)
set_option maxRecDepth 20000 in
theorem ggX6_ordersOf_X6_inForce : GoodIn wsX6_ordersOf wsX6_inForce := goodIn_sub (fa_c (me_s (me_l (me_l (List.mem_of_getElem? (i := 5) rfl)))) (fa_a (fa_a (fa_c (me_s (me_l (me_l (List.mem_of_getElem? (i := 6) rfl)))) (fa_c (me_s (me_l (me_l (List.mem_of_getElem? (i := 0) rfl)))) (fa_c (me_s (me_l (me_l (List.mem_of_getElem? (i := 7) rfl)))) (fa_c (me_s (me_l (me_l (List.mem_of_getElem? (i := 8) rfl)))) fa_n)))) (fun w h => (me_s (me_l (me_r h))))) (fun w h => (me_s (me_r h))))) (by decide +kernel)
set_option maxRecDepth 20000 in
theorem gX6_ordersOf_X6_inForce : GoodIn wsX6_ordersOf (wsV RX6 34 RX6 yX6_inForce wsX6_inForce) := goodIn_app (goodIn_sub (fa_c (me_s (me_l (me_l (List.mem_of_getElem? (i := 1) rfl)))) (fa_c (me_s (me_l (me_l (List.mem_of_getElem? (i := 2) rfl)))) (fa_c (me_s (me_l (me_l (List.mem_of_getElem? (i := 3) rfl)))) (fa_c (me_s (me_l (me_l (List.mem_of_getElem? (i := 4) rfl)))) fa_n)))) (by decide +kernel)) ggX6_ordersOf_X6_inForce
theorem dX6_ordersOf_3 : decode cX6_ordersOf 3 = .ok (.invokevirtual 34, 3) := z_dd_182 (by decide +kernel)
theorem dX6_ordersOf_6 : decode cX6_ordersOf 6 = .ok (.istore_n 3, 1) := z_dd_62 (by decide +kernel)
theorem dX6_ordersOf_7 : decode cX6_ordersOf 7 = .ok (.iload_n 3, 1) := z_dd_29 (by decide +kernel)
theorem dX6_ordersOf_8 : decode cX6_ordersOf 8 = .ok (.ifCond .lt 21, 3) := z_dd_155 (by decide +kernel)
theorem dX6_ordersOf_29 : decode cX6_ordersOf 29 = .ok (.aconst_null, 1) := z_dd_1 (by decide +kernel)
theorem dX6_ordersOf_30 : decode cX6_ordersOf 30 = .ok (.areturn, 1) := z_dd_176 (by decide +kernel)
theorem dX6_ordersOf_11 : decode cX6_ordersOf 11 = .ok (.iload_n 3, 1) := z_dd_29 (by decide +kernel)
theorem dX6_ordersOf_12 : decode cX6_ordersOf 12 = .ok (.aload_n 0, 1) := z_dd_42 (by decide +kernel)
theorem dX6_ordersOf_13 : decode cX6_ordersOf 13 = .ok (.getfield 11, 3) := z_dd_180 (by decide +kernel)
theorem dX6_ordersOf_16 : decode cX6_ordersOf 16 = .ok (.arraylength, 1) := z_dd_190 (by decide +kernel)
theorem dX6_ordersOf_17 : decode cX6_ordersOf 17 = .ok (.if_icmp .ge 12, 3) := z_dd_162 (by decide +kernel)
theorem dX6_ordersOf_20 : decode cX6_ordersOf 20 = .ok (.aload_n 0, 1) := z_dd_42 (by decide +kernel)
theorem dX6_ordersOf_21 : decode cX6_ordersOf 21 = .ok (.getfield 11, 3) := z_dd_180 (by decide +kernel)
theorem dX6_ordersOf_24 : decode cX6_ordersOf 24 = .ok (.iload_n 3, 1) := z_dd_29 (by decide +kernel)
theorem dX6_ordersOf_25 : decode cX6_ordersOf 25 = .ok (.aaload, 1) := z_dd_50 (by decide +kernel)
theorem dX6_ordersOf_26 : decode cX6_ordersOf 26 = .ok (.goto 4, 3) := z_dd_167 (by decide +kernel)
theorem dX6_amount_0 : decode cX6_amount 0 = .ok (.aload_n 0, 1) := z_dd_42 (by decide +kernel)
theorem dX6_amount_1 : decode cX6_amount 1 = .ok (.iload_n 2, 1) := z_dd_28 (by decide +kernel)
theorem dX6_amount_2 : decode cX6_amount 2 = .ok (.iload_n 3, 1) := z_dd_29 (by decide +kernel)
set_option maxRecDepth 20000 in
theorem ggX6_amount_X6_ordersOf : GoodIn wsX6_amount wsX6_ordersOf := goodIn_sub (fa_c (me_s (me_l (me_l (List.mem_of_getElem? (i := 4) rfl)))) (fa_a (fa_a (fa_c (me_s (me_l (me_l (List.mem_of_getElem? (i := 5) rfl)))) (fa_c (me_s (me_l (me_l (List.mem_of_getElem? (i := 6) rfl)))) (fa_c (me_s (me_l (me_l (List.mem_of_getElem? (i := 7) rfl)))) (fa_c (me_s (me_l (me_l (List.mem_of_getElem? (i := 8) rfl)))) (fa_c (me_s (me_l (me_l (List.mem_of_getElem? (i := 3) rfl)))) (fa_c (me_s (me_l (me_l (List.mem_of_getElem? (i := 9) rfl)))) (fa_c (me_s (me_l (me_l (List.mem_of_getElem? (i := 10) rfl)))) (fa_c (me_s (me_l (me_l (List.mem_of_getElem? (i := 11) rfl)))) (fa_c (me_s (me_l (me_l (List.mem_of_getElem? (i := 12) rfl)))) fa_n))))))))) (fun w h => (me_s (me_l (me_r h))))) (fun w h => (me_s (me_r h))))) (by decide +kernel)
set_option maxRecDepth 20000 in
theorem gX6_amount_X6_ordersOf : GoodIn wsX6_amount (wsV RX6 38 RX6 yX6_ordersOf wsX6_ordersOf) := goodIn_app (goodIn_sub (fa_c (me_s (me_l (me_l (List.mem_of_getElem? (i := 0) rfl)))) (fa_c (me_s (me_l (me_l (List.mem_of_getElem? (i := 1) rfl)))) (fa_c (me_s (me_l (me_l (List.mem_of_getElem? (i := 2) rfl)))) (fa_c (me_s (me_l (me_l (List.mem_of_getElem? (i := 3) rfl)))) fa_n)))) (by decide +kernel)) ggX6_amount_X6_ordersOf
theorem dX6_amount_3 : decode cX6_amount 3 = .ok (.invokevirtual 38, 3) := z_dd_182 (by decide +kernel)
theorem dX6_amount_6 : decode cX6_amount 6 = .ok (.astore 4, 2) := z_dd_58 (by decide +kernel)
theorem dX6_amount_8 : decode cX6_amount 8 = .ok (.aload 4, 2) := z_dd_25 (by decide +kernel)
theorem dX6_amount_10 : decode cX6_amount 10 = .ok (.ifnonnull 10, 3) := z_dd_199 (by decide +kernel)
theorem dX6_amount_13 : decode cX6_amount 13 = .ok (.iload_n 1, 1) := z_dd_27 (by decide +kernel)
set_option maxRecDepth 20000 in
theorem ggX6_amount_X11_usual : GoodIn wsX6_amount wsX11_usual := goodIn_sub (fa_c (me_s (me_l (me_l (List.mem_of_getElem? (i := 15) rfl)))) (fa_c (me_s (me_l (me_l (List.mem_of_getElem? (i := 16) rfl)))) fa_n)) (by decide +kernel)
set_option maxRecDepth 20000 in
theorem gX6_amount_X11_usual_n42 : GoodIn wsX6_amount (wsX11_usual) := ggX6_amount_X11_usual
theorem dX6_amount_14 : decode cX6_amount 14 = .ok (.invokestatic 42, 3) := z_dd_184 (by decide +kernel)
theorem dX6_amount_17 : decode cX6_amount 17 = .ok (.goto 9, 3) := z_dd_167 (by decide +kernel)
theorem dX6_amount_26 : decode cX6_amount 26 = .ok (.ireturn, 1) := z_dd_172 (by decide +kernel)
theorem dX6_amount_20 : decode cX6_amount 20 = .ok (.aload 4, 2) := z_dd_25 (by decide +kernel)
theorem dX6_amount_22 : decode cX6_amount 22 = .ok (.iload_n 1, 1) := z_dd_27 (by decide +kernel)
set_option maxRecDepth 20000 in
theorem ggX6_amount_X7_amount : GoodIn wsX6_amount wsX7_amount := goodIn_sub (fa_c (me_s (me_l (me_l (List.mem_of_getElem? (i := 21) rfl)))) (fa_a (fa_c (me_s (me_l (me_l (List.mem_of_getElem? (i := 22) rfl)))) (fa_c (me_s (me_l (me_l (List.mem_of_getElem? (i := 23) rfl)))) (fa_c (me_s (me_l (me_l (List.mem_of_getElem? (i := 13) rfl)))) (fa_c (me_s (me_l (me_l (List.mem_of_getElem? (i := 14) rfl)))) (fa_c (me_s (me_l (me_l (List.mem_of_getElem? (i := 15) rfl)))) (fa_c (me_s (me_l (me_l (List.mem_of_getElem? (i := 16) rfl)))) fa_n)))))) (fun w h => (me_s (me_r h))))) (by decide +kernel)
set_option maxRecDepth 20000 in
theorem gX6_amount_X7_amount : GoodIn wsX6_amount (wsV RX6 46 RX7 yX7_amount wsX7_amount) := goodIn_app (goodIn_sub (fa_c (me_s (me_l (me_l (List.mem_of_getElem? (i := 17) rfl)))) (fa_c (me_s (me_l (me_l (List.mem_of_getElem? (i := 18) rfl)))) (fa_c (me_s (me_l (me_l (List.mem_of_getElem? (i := 19) rfl)))) (fa_c (me_s (me_l (me_l (List.mem_of_getElem? (i := 20) rfl)))) fa_n)))) (by decide +kernel)) ggX6_amount_X7_amount
theorem dX6_amount_23 : decode cX6_amount 23 = .ok (.invokevirtual 46, 3) := z_dd_182 (by decide +kernel)
theorem dX6_putHolder_0 : decode cX6_putHolder 0 = .ok (.aload_n 1, 1) := z_dd_43 (by decide +kernel)
theorem dX6_putHolder_1 : decode cX6_putHolder 1 = .ok (.iload_n 2, 1) := z_dd_28 (by decide +kernel)
set_option maxRecDepth 20000 in
theorem ggX6_putHolder_X2_has : GoodIn wsX6_putHolder wsX2_has := goodIn_sub (fa_c (me_s (me_l (me_l (me_l (List.mem_of_getElem? (i := 8) rfl))))) (fa_a (fa_c (me_s (me_l (me_l (me_l (List.mem_of_getElem? (i := 9) rfl))))) fa_n) (fun w h => (me_s (me_r h))))) (by decide +kernel)
set_option maxRecDepth 20000 in
theorem gX6_putHolder_X2_has : GoodIn wsX6_putHolder (wsV RX6 49 RX2 yX2_has wsX2_has) := goodIn_app (goodIn_sub (fa_c (me_s (me_l (me_l (me_l (List.mem_of_getElem? (i := 4) rfl))))) (fa_c (me_s (me_l (me_l (me_l (List.mem_of_getElem? (i := 5) rfl))))) (fa_c (me_s (me_l (me_l (me_l (List.mem_of_getElem? (i := 6) rfl))))) (fa_c (me_s (me_l (me_l (me_l (List.mem_of_getElem? (i := 7) rfl))))) fa_n)))) (by decide +kernel)) ggX6_putHolder_X2_has
theorem dX6_putHolder_2 : decode cX6_putHolder 2 = .ok (.invokevirtual 49, 3) := z_dd_182 (by decide +kernel)
theorem dX6_putHolder_5 : decode cX6_putHolder 5 = .ok (.ifCond .eq 63, 3) := z_dd_153 (by decide +kernel)
theorem dX6_putHolder_8 : decode cX6_putHolder 8 = .ok (.aload_n 0, 1) := z_dd_42 (by decide +kernel)
theorem dX6_putHolder_9 : decode cX6_putHolder 9 = .ok (.getfield 20, 3) := z_dd_180 (by decide +kernel)
theorem dX6_putHolder_12 : decode cX6_putHolder 12 = .ok (.getfield 93, 3) := z_dd_180 (by decide +kernel)
theorem dX6_putHolder_15 : decode cX6_putHolder 15 = .ok (.iconst 0, 1) := z_dd_3 (by decide +kernel)
theorem dX6_putHolder_16 : decode cX6_putHolder 16 = .ok (.aload_n 1, 1) := z_dd_43 (by decide +kernel)
theorem dX6_putHolder_17 : decode cX6_putHolder 17 = .ok (.iload_n 2, 1) := z_dd_28 (by decide +kernel)
theorem dX6_putHolder_18 : decode cX6_putHolder 18 = .ok (.iload_n 3, 1) := z_dd_29 (by decide +kernel)
theorem dX6_putHolder_19 : decode cX6_putHolder 19 = .ok (.iload 4, 2) := z_dd_21 (by decide +kernel)
set_option maxRecDepth 20000 in
theorem ggX6_putHolder_X2_kindOn : GoodIn wsX6_putHolder wsX2_kindOn := goodIn_sub (fa_c (me_s (me_l (me_l (me_l (List.mem_of_getElem? (i := 13) rfl))))) (fa_a (fa_c (me_s (me_l (me_l (me_l (List.mem_of_getElem? (i := 14) rfl))))) (fa_c (me_s (me_l (me_l (me_l (List.mem_of_getElem? (i := 15) rfl))))) (fa_c (me_s (me_l (me_l (me_l (List.mem_of_getElem? (i := 16) rfl))))) (fa_c (me_s (me_l (me_l (me_l (List.mem_of_getElem? (i := 17) rfl))))) (fa_c (me_s (me_l (me_l (me_l (List.mem_of_getElem? (i := 18) rfl))))) (fa_c (me_s (me_l (me_l (me_l (List.mem_of_getElem? (i := 19) rfl))))) fa_n)))))) (fun w h => (me_s (me_r h))))) (by decide +kernel)
set_option maxRecDepth 20000 in
theorem gX6_putHolder_X2_kindOn : GoodIn wsX6_putHolder (wsV RX6 96 RX2 yX2_kindOn wsX2_kindOn) := goodIn_app (goodIn_sub (fa_c (me_s (me_l (me_l (me_l (List.mem_of_getElem? (i := 10) rfl))))) (fa_c (me_s (me_l (me_l (me_l (List.mem_of_getElem? (i := 11) rfl))))) (fa_c (me_s (me_l (me_l (me_l (List.mem_of_getElem? (i := 12) rfl))))) (fa_c (me_s (me_l (me_l (me_l (List.mem_of_getElem? (i := 7) rfl))))) fa_n)))) (by decide +kernel)) ggX6_putHolder_X2_kindOn
theorem dX6_putHolder_21 : decode cX6_putHolder 21 = .ok (.invokevirtual 96, 3) := z_dd_182 (by decide +kernel)
theorem dX6_putHolder_24 : decode cX6_putHolder 24 = .ok (.iastore, 1) := z_dd_79 (by decide +kernel)
theorem dX6_putHolder_25 : decode cX6_putHolder 25 = .ok (.aload_n 0, 1) := z_dd_42 (by decide +kernel)
theorem dX6_putHolder_26 : decode cX6_putHolder 26 = .ok (.getfield 20, 3) := z_dd_180 (by decide +kernel)
theorem dX6_putHolder_29 : decode cX6_putHolder 29 = .ok (.getfield 93, 3) := z_dd_180 (by decide +kernel)
theorem dX6_putHolder_32 : decode cX6_putHolder 32 = .ok (.iconst 1, 1) := z_dd_4 (by decide +kernel)
theorem dX6_putHolder_33 : decode cX6_putHolder 33 = .ok (.aload_n 1, 1) := z_dd_43 (by decide +kernel)
theorem dX6_putHolder_34 : decode cX6_putHolder 34 = .ok (.getfield 100, 3) := z_dd_180 (by decide +kernel)
theorem dX6_putHolder_37 : decode cX6_putHolder 37 = .ok (.iload_n 2, 1) := z_dd_28 (by decide +kernel)
theorem dX6_putHolder_38 : decode cX6_putHolder 38 = .ok (.iaload, 1) := z_dd_46 (by decide +kernel)
theorem dX6_putHolder_39 : decode cX6_putHolder 39 = .ok (.iastore, 1) := z_dd_79 (by decide +kernel)
theorem dX6_putHolder_40 : decode cX6_putHolder 40 = .ok (.aload_n 0, 1) := z_dd_42 (by decide +kernel)
theorem dX6_putHolder_41 : decode cX6_putHolder 41 = .ok (.getfield 20, 3) := z_dd_180 (by decide +kernel)
theorem dX6_putHolder_44 : decode cX6_putHolder 44 = .ok (.getfield 93, 3) := z_dd_180 (by decide +kernel)
theorem dX6_putHolder_47 : decode cX6_putHolder 47 = .ok (.iconst 2, 1) := z_dd_5 (by decide +kernel)
theorem dX6_putHolder_48 : decode cX6_putHolder 48 = .ok (.aload_n 1, 1) := z_dd_43 (by decide +kernel)
theorem dX6_putHolder_49 : decode cX6_putHolder 49 = .ok (.getfield 103, 3) := z_dd_180 (by decide +kernel)
theorem dX6_putHolder_52 : decode cX6_putHolder 52 = .ok (.iload_n 2, 1) := z_dd_28 (by decide +kernel)
theorem dX6_putHolder_53 : decode cX6_putHolder 53 = .ok (.iaload, 1) := z_dd_46 (by decide +kernel)
theorem dX6_putHolder_54 : decode cX6_putHolder 54 = .ok (.iastore, 1) := z_dd_79 (by decide +kernel)
theorem dX6_putHolder_55 : decode cX6_putHolder 55 = .ok (.aload_n 0, 1) := z_dd_42 (by decide +kernel)
theorem dX6_putHolder_56 : decode cX6_putHolder 56 = .ok (.getfield 20, 3) := z_dd_180 (by decide +kernel)
theorem dX6_putHolder_59 : decode cX6_putHolder 59 = .ok (.getfield 93, 3) := z_dd_180 (by decide +kernel)
theorem dX6_putHolder_62 : decode cX6_putHolder 62 = .ok (.iconst 3, 1) := z_dd_6 (by decide +kernel)
theorem dX6_putHolder_63 : decode cX6_putHolder 63 = .ok (.iload_n 3, 1) := z_dd_29 (by decide +kernel)
theorem dX6_putHolder_64 : decode cX6_putHolder 64 = .ok (.bipush 30, 2) := z_dd_16 (by decide +kernel)
theorem dX6_putHolder_66 : decode cX6_putHolder 66 = .ok (.idiv, 1) := z_dd_108 (by decide +kernel)
theorem dX6_putHolder_67 : decode cX6_putHolder 67 = .ok (.iastore, 1) := z_dd_79 (by decide +kernel)
theorem dX6_putHolder_68 : decode cX6_putHolder 68 = .ok (.return_, 1) := z_dd_177 (by decide +kernel)
theorem dX6_putJourney_0 : decode cX6_putJourney 0 = .ok (.aload_n 0, 1) := z_dd_42 (by decide +kernel)
theorem dX6_putJourney_1 : decode cX6_putJourney 1 = .ok (.getfield 20, 3) := z_dd_180 (by decide +kernel)
theorem dX6_putJourney_4 : decode cX6_putJourney 4 = .ok (.getfield 93, 3) := z_dd_180 (by decide +kernel)
theorem dX6_putJourney_7 : decode cX6_putJourney 7 = .ok (.iconst 4, 1) := z_dd_7 (by decide +kernel)
theorem dX6_putJourney_8 : decode cX6_putJourney 8 = .ok (.iload_n 1, 1) := z_dd_27 (by decide +kernel)
theorem dX6_putJourney_9 : decode cX6_putJourney 9 = .ok (.iastore, 1) := z_dd_79 (by decide +kernel)
theorem dX6_putJourney_10 : decode cX6_putJourney 10 = .ok (.aload_n 0, 1) := z_dd_42 (by decide +kernel)
theorem dX6_putJourney_11 : decode cX6_putJourney 11 = .ok (.getfield 20, 3) := z_dd_180 (by decide +kernel)
theorem dX6_putJourney_14 : decode cX6_putJourney 14 = .ok (.getfield 93, 3) := z_dd_180 (by decide +kernel)
theorem dX6_putJourney_17 : decode cX6_putJourney 17 = .ok (.iconst 5, 1) := z_dd_8 (by decide +kernel)
theorem dX6_putJourney_18 : decode cX6_putJourney 18 = .ok (.iload_n 2, 1) := z_dd_28 (by decide +kernel)
theorem dX6_putJourney_19 : decode cX6_putJourney 19 = .ok (.iastore, 1) := z_dd_79 (by decide +kernel)
theorem dX6_putJourney_20 : decode cX6_putJourney 20 = .ok (.aload_n 0, 1) := z_dd_42 (by decide +kernel)
theorem dX6_putJourney_21 : decode cX6_putJourney 21 = .ok (.getfield 20, 3) := z_dd_180 (by decide +kernel)
theorem dX6_putJourney_24 : decode cX6_putJourney 24 = .ok (.getfield 93, 3) := z_dd_180 (by decide +kernel)
theorem dX6_putJourney_27 : decode cX6_putJourney 27 = .ok (.bipush 6, 2) := z_dd_16 (by decide +kernel)
theorem dX6_putJourney_29 : decode cX6_putJourney 29 = .ok (.iload_n 3, 1) := z_dd_29 (by decide +kernel)
theorem dX6_putJourney_30 : decode cX6_putJourney 30 = .ok (.iastore, 1) := z_dd_79 (by decide +kernel)
theorem dX6_putJourney_31 : decode cX6_putJourney 31 = .ok (.return_, 1) := z_dd_177 (by decide +kernel)
theorem dX6_unitsOf_0 : decode cX6_unitsOf 0 = .ok (.aload_n 0, 1) := z_dd_42 (by decide +kernel)
theorem dX6_unitsOf_1 : decode cX6_unitsOf 1 = .ok (.iload_n 3, 1) := z_dd_29 (by decide +kernel)
theorem dX6_unitsOf_2 : decode cX6_unitsOf 2 = .ok (.iload 4, 2) := z_dd_21 (by decide +kernel)
set_option maxRecDepth 20000 in
theorem ggX6_unitsOf_X6_ordersOf : GoodIn wsX6_unitsOf wsX6_ordersOf := goodIn_sub (fa_c (me_s (me_l (me_l (me_l (me_l (me_l (List.mem_of_getElem? (i := 5) rfl))))))) (fa_a (fa_a (fa_c (me_s (me_l (me_l (me_l (me_l (me_l (List.mem_of_getElem? (i := 6) rfl))))))) (fa_c (me_s (me_l (me_l (me_l (me_l (me_l (List.mem_of_getElem? (i := 7) rfl))))))) (fa_c (me_s (me_l (me_l (me_l (me_l (me_l (List.mem_of_getElem? (i := 8) rfl))))))) (fa_c (me_s (me_l (me_l (me_l (me_l (me_l (List.mem_of_getElem? (i := 9) rfl))))))) (fa_c (me_s (me_l (me_l (me_l (me_l (me_l (List.mem_of_getElem? (i := 4) rfl))))))) (fa_c (me_s (me_l (me_l (me_l (me_l (me_l (List.mem_of_getElem? (i := 10) rfl))))))) (fa_c (me_s (me_l (me_l (me_l (me_l (me_l (List.mem_of_getElem? (i := 11) rfl))))))) (fa_c (me_s (me_l (me_l (me_l (me_l (me_l (List.mem_of_getElem? (i := 12) rfl))))))) (fa_c (me_s (me_l (me_l (me_l (me_l (me_l (List.mem_of_getElem? (i := 13) rfl))))))) fa_n))))))))) (fun w h => (me_s (me_l (me_l (me_l (me_r h))))))) (fun w h => (me_s (me_l (me_l (me_r h))))))) (by decide +kernel)
set_option maxRecDepth 20000 in
theorem gX6_unitsOf_X6_ordersOf : GoodIn wsX6_unitsOf (wsV RX6 38 RX6 yX6_ordersOf wsX6_ordersOf) := goodIn_app (goodIn_sub (fa_c (me_s (me_l (me_l (me_l (me_l (me_l (List.mem_of_getElem? (i := 1) rfl))))))) (fa_c (me_s (me_l (me_l (me_l (me_l (me_l (List.mem_of_getElem? (i := 2) rfl))))))) (fa_c (me_s (me_l (me_l (me_l (me_l (me_l (List.mem_of_getElem? (i := 3) rfl))))))) (fa_c (me_s (me_l (me_l (me_l (me_l (me_l (List.mem_of_getElem? (i := 4) rfl))))))) fa_n)))) (by decide +kernel)) ggX6_unitsOf_X6_ordersOf
theorem dX6_unitsOf_4 : decode cX6_unitsOf 4 = .ok (.invokevirtual 38, 3) := z_dd_182 (by decide +kernel)
theorem dX6_unitsOf_7 : decode cX6_unitsOf 7 = .ok (.astore 5, 2) := z_dd_58 (by decide +kernel)
theorem dX6_unitsOf_9 : decode cX6_unitsOf 9 = .ok (.aload 5, 2) := z_dd_25 (by decide +kernel)
theorem dX6_unitsOf_11 : decode cX6_unitsOf 11 = .ok (.ifnull 11, 3) := z_dd_198 (by decide +kernel)
theorem dX6_unitsOf_22 : decode cX6_unitsOf 22 = .ok (.iconst 0, 1) := z_dd_3 (by decide +kernel)
theorem dX6_unitsOf_23 : decode cX6_unitsOf 23 = .ok (.ireturn, 1) := z_dd_172 (by decide +kernel)
theorem dX6_unitsOf_14 : decode cX6_unitsOf 14 = .ok (.aload_n 1, 1) := z_dd_43 (by decide +kernel)
theorem dX6_unitsOf_15 : decode cX6_unitsOf 15 = .ok (.iload_n 2, 1) := z_dd_28 (by decide +kernel)
set_option maxRecDepth 20000 in
theorem ggX6_unitsOf_X2_has : GoodIn wsX6_unitsOf wsX2_has := goodIn_sub (fa_c (me_s (me_l (me_l (me_l (me_l (me_l (List.mem_of_getElem? (i := 18) rfl))))))) (fa_a (fa_c (me_s (me_l (me_l (me_l (me_l (me_l (List.mem_of_getElem? (i := 19) rfl))))))) fa_n) (fun w h => (me_s (me_l (me_r h)))))) (by decide +kernel)
set_option maxRecDepth 20000 in
theorem gX6_unitsOf_X2_has : GoodIn wsX6_unitsOf (wsV RX6 49 RX2 yX2_has wsX2_has) := goodIn_app (goodIn_sub (fa_c (me_s (me_l (me_l (me_l (me_l (me_l (List.mem_of_getElem? (i := 14) rfl))))))) (fa_c (me_s (me_l (me_l (me_l (me_l (me_l (List.mem_of_getElem? (i := 15) rfl))))))) (fa_c (me_s (me_l (me_l (me_l (me_l (me_l (List.mem_of_getElem? (i := 16) rfl))))))) (fa_c (me_s (me_l (me_l (me_l (me_l (me_l (List.mem_of_getElem? (i := 17) rfl))))))) fa_n)))) (by decide +kernel)) ggX6_unitsOf_X2_has
theorem dX6_unitsOf_16 : decode cX6_unitsOf 16 = .ok (.invokevirtual 49, 3) := z_dd_182 (by decide +kernel)
theorem dX6_unitsOf_19 : decode cX6_unitsOf 19 = .ok (.ifCond .ne 5, 3) := z_dd_154 (by decide +kernel)
theorem dX6_unitsOf_24 : decode cX6_unitsOf 24 = .ok (.aload_n 0, 1) := z_dd_42 (by decide +kernel)
theorem dX6_unitsOf_25 : decode cX6_unitsOf 25 = .ok (.aload_n 1, 1) := z_dd_43 (by decide +kernel)
theorem dX6_unitsOf_26 : decode cX6_unitsOf 26 = .ok (.iload_n 2, 1) := z_dd_28 (by decide +kernel)
theorem dX6_unitsOf_27 : decode cX6_unitsOf 27 = .ok (.iload_n 3, 1) := z_dd_29 (by decide +kernel)
theorem dX6_unitsOf_28 : decode cX6_unitsOf 28 = .ok (.bipush 30, 2) := z_dd_16 (by decide +kernel)
theorem dX6_unitsOf_30 : decode cX6_unitsOf 30 = .ok (.imul, 1) := z_dd_104 (by decide +kernel)
theorem dX6_unitsOf_31 : decode cX6_unitsOf 31 = .ok (.iload 4, 2) := z_dd_21 (by decide +kernel)
set_option maxRecDepth 20000 in
theorem ggX6_unitsOf_X6_putHolder : GoodIn wsX6_unitsOf wsX6_putHolder := goodIn_sub (fa_c (me_s (me_l (me_l (me_l (me_l (me_l (List.mem_of_getElem? (i := 23) rfl))))))) (fa_a (fa_a (fa_a (fa_c (me_s (me_l (me_l (me_l (me_l (me_l (List.mem_of_getElem? (i := 0) rfl))))))) (fa_c (me_s (me_l (me_l (me_l (me_l (me_r (me_l (List.mem_of_getElem? (i := 0) rfl)))))))) (fa_c (me_s (me_l (me_l (me_l (me_l (me_r (me_l (List.mem_of_getElem? (i := 1) rfl)))))))) (fa_c (me_s (me_l (me_l (me_l (me_l (me_r (me_l (List.mem_of_getElem? (i := 2) rfl)))))))) (fa_c (me_s (me_l (me_l (me_l (me_l (me_l (List.mem_of_getElem? (i := 14) rfl))))))) (fa_c (me_s (me_l (me_l (me_l (me_l (me_l (List.mem_of_getElem? (i := 15) rfl))))))) (fa_c (me_s (me_l (me_l (me_l (me_l (me_l (List.mem_of_getElem? (i := 16) rfl))))))) (fa_c (me_s (me_l (me_l (me_l (me_l (me_l (List.mem_of_getElem? (i := 17) rfl))))))) (fa_c (me_s (me_l (me_l (me_l (me_l (me_l (List.mem_of_getElem? (i := 18) rfl))))))) (fa_c (me_s (me_l (me_l (me_l (me_l (me_l (List.mem_of_getElem? (i := 19) rfl))))))) (fa_c (me_s (me_l (me_l (me_l (me_l (me_r (me_l (List.mem_of_getElem? (i := 3) rfl)))))))) (fa_c (me_s (me_l (me_l (me_l (me_l (me_r (me_l (List.mem_of_getElem? (i := 4) rfl)))))))) (fa_c (me_s (me_l (me_l (me_l (me_l (me_r (me_l (List.mem_of_getElem? (i := 5) rfl)))))))) (fa_c (me_s (me_l (me_l (me_l (me_l (me_r (me_l (List.mem_of_getElem? (i := 6) rfl)))))))) (fa_c (me_s (me_l (me_l (me_l (me_l (me_r (me_l (List.mem_of_getElem? (i := 7) rfl)))))))) (fa_c (me_s (me_l (me_l (me_l (me_l (me_r (me_l (List.mem_of_getElem? (i := 8) rfl)))))))) (fa_c (me_s (me_l (me_l (me_l (me_l (me_r (me_l (List.mem_of_getElem? (i := 9) rfl)))))))) (fa_c (me_s (me_l (me_l (me_l (me_l (me_r (me_l (List.mem_of_getElem? (i := 10) rfl)))))))) (fa_c (me_s (me_l (me_l (me_l (me_l (me_r (me_l (List.mem_of_getElem? (i := 11) rfl)))))))) (fa_c (me_s (me_l (me_l (me_l (me_l (me_r (me_l (List.mem_of_getElem? (i := 12) rfl)))))))) fa_n)))))))))))))))))))) (fun w h => (me_s (me_l (me_l (me_l (me_r h))))))) (fun w h => (me_s (me_r h)))) (fun w h => (me_s (me_l (me_r h)))))) (by decide +kernel)
set_option maxRecDepth 20000 in
theorem gX6_unitsOf_X6_putHolder : GoodIn wsX6_unitsOf (wsV RX6 55 RX6 yX6_putHolder wsX6_putHolder) := goodIn_app (goodIn_sub (fa_c (me_s (me_l (me_l (me_l (me_l (me_l (List.mem_of_getElem? (i := 20) rfl))))))) (fa_c (me_s (me_l (me_l (me_l (me_l (me_l (List.mem_of_getElem? (i := 21) rfl))))))) (fa_c (me_s (me_l (me_l (me_l (me_l (me_l (List.mem_of_getElem? (i := 22) rfl))))))) (fa_c (me_s (me_l (me_l (me_l (me_l (me_l (List.mem_of_getElem? (i := 4) rfl))))))) fa_n)))) (by decide +kernel)) ggX6_unitsOf_X6_putHolder
theorem dX6_unitsOf_33 : decode cX6_unitsOf 33 = .ok (.invokevirtual 55, 3) := z_dd_182 (by decide +kernel)
theorem dX6_unitsOf_36 : decode cX6_unitsOf 36 = .ok (.aload_n 0, 1) := z_dd_42 (by decide +kernel)
theorem dX6_unitsOf_37 : decode cX6_unitsOf 37 = .ok (.iconst 0, 1) := z_dd_3 (by decide +kernel)
theorem dX6_unitsOf_38 : decode cX6_unitsOf 38 = .ok (.iconst 0, 1) := z_dd_3 (by decide +kernel)
theorem dX6_unitsOf_39 : decode cX6_unitsOf 39 = .ok (.iconst 0, 1) := z_dd_3 (by decide +kernel)
set_option maxRecDepth 20000 in
theorem ggX6_unitsOf_X6_putJourney : GoodIn wsX6_unitsOf wsX6_putJourney := goodIn_sub (fa_c (me_s (me_l (me_l (me_l (me_l (me_r (me_l (List.mem_of_getElem? (i := 16) rfl)))))))) (fa_a (fa_a (fa_c (me_s (me_l (me_l (me_l (me_l (me_l (List.mem_of_getElem? (i := 0) rfl))))))) (fa_c (me_s (me_l (me_l (me_l (me_l (me_r (me_l (List.mem_of_getElem? (i := 0) rfl)))))))) fa_n)) (fun w h => (me_s (me_l (me_l (me_l (me_r h))))))) (fun w h => (me_s (me_r h))))) (by decide +kernel)
set_option maxRecDepth 20000 in
theorem gX6_unitsOf_X6_putJourney : GoodIn wsX6_unitsOf (wsV RX6 59 RX6 yX6_putJourney wsX6_putJourney) := goodIn_app (goodIn_sub (fa_c (me_s (me_l (me_l (me_l (me_l (me_r (me_l (List.mem_of_getElem? (i := 13) rfl)))))))) (fa_c (me_s (me_l (me_l (me_l (me_l (me_r (me_l (List.mem_of_getElem? (i := 14) rfl)))))))) (fa_c (me_s (me_l (me_l (me_l (me_l (me_r (me_l (List.mem_of_getElem? (i := 15) rfl)))))))) (fa_c (me_s (me_l (me_l (me_l (me_l (me_l (List.mem_of_getElem? (i := 4) rfl))))))) fa_n)))) (by decide +kernel)) ggX6_unitsOf_X6_putJourney
theorem dX6_unitsOf_40 : decode cX6_unitsOf 40 = .ok (.invokevirtual 59, 3) := z_dd_182 (by decide +kernel)
theorem dX6_unitsOf_43 : decode cX6_unitsOf 43 = .ok (.aload 5, 2) := z_dd_25 (by decide +kernel)
theorem dX6_unitsOf_45 : decode cX6_unitsOf 45 = .ok (.aload_n 0, 1) := z_dd_42 (by decide +kernel)
theorem dX6_unitsOf_46 : decode cX6_unitsOf 46 = .ok (.getfield 20, 3) := z_dd_180 (by decide +kernel)
set_option maxRecDepth 20000 in
theorem ggX6_unitsOf_X7_stops : GoodIn wsX6_unitsOf wsX7_stops := goodIn_sub (fa_c (me_s (me_l (me_l (me_l (me_l (me_r (me_l (List.mem_of_getElem? (i := 21) rfl)))))))) (fa_a (fa_a (fa_a (fa_c (me_s (me_l (me_l (me_l (me_l (me_r (me_l (List.mem_of_getElem? (i := 22) rfl)))))))) (fa_c (me_s (me_l (me_l (me_l (me_l (me_r (me_l (List.mem_of_getElem? (i := 23) rfl)))))))) (fa_c (me_s (me_l (me_l (me_l (me_l (me_r (me_r (me_l (List.mem_of_getElem? (i := 0) rfl))))))))) (fa_c (me_s (me_l (me_l (me_l (me_l (me_r (me_r (me_l (List.mem_of_getElem? (i := 1) rfl))))))))) (fa_c (me_s (me_l (me_l (me_l (me_l (me_r (me_l (List.mem_of_getElem? (i := 20) rfl)))))))) (fa_c (me_s (me_l (me_l (me_l (me_l (me_r (me_r (me_l (List.mem_of_getElem? (i := 2) rfl))))))))) (fa_c (me_s (me_l (me_l (me_l (me_l (me_r (me_r (me_l (List.mem_of_getElem? (i := 3) rfl))))))))) (fa_c (me_s (me_l (me_l (me_l (me_l (me_r (me_r (me_l (List.mem_of_getElem? (i := 4) rfl))))))))) (fa_c (me_s (me_l (me_l (me_l (me_l (me_r (me_r (me_l (List.mem_of_getElem? (i := 5) rfl))))))))) (fa_c (me_s (me_l (me_l (me_l (me_l (me_r (me_r (me_l (List.mem_of_getElem? (i := 6) rfl))))))))) (fa_c (me_s (me_l (me_l (me_l (me_l (me_r (me_r (me_l (List.mem_of_getElem? (i := 7) rfl))))))))) (fa_c (me_s (me_l (me_l (me_l (me_l (me_r (me_r (me_l (List.mem_of_getElem? (i := 8) rfl))))))))) (fa_c (me_s (me_l (me_l (me_l (me_l (me_r (me_r (me_l (List.mem_of_getElem? (i := 9) rfl))))))))) (fa_c (me_s (me_l (me_l (me_l (me_l (me_r (me_r (me_l (List.mem_of_getElem? (i := 10) rfl))))))))) (fa_c (me_s (me_l (me_l (me_l (me_l (me_r (me_r (me_l (List.mem_of_getElem? (i := 11) rfl))))))))) (fa_c (me_s (me_l (me_l (me_l (me_l (me_r (me_r (me_l (List.mem_of_getElem? (i := 12) rfl))))))))) (fa_c (me_s (me_l (me_l (me_l (me_l (me_r (me_r (me_l (List.mem_of_getElem? (i := 13) rfl))))))))) (fa_c (me_s (me_l (me_l (me_l (me_l (me_r (me_r (me_l (List.mem_of_getElem? (i := 14) rfl))))))))) (fa_c (me_s (me_l (me_l (me_l (me_l (me_r (me_r (me_l (List.mem_of_getElem? (i := 15) rfl))))))))) (fa_c (me_s (me_l (me_l (me_l (me_l (me_r (me_r (me_l (List.mem_of_getElem? (i := 16) rfl))))))))) (fa_c (me_s (me_l (me_l (me_l (me_l (me_r (me_r (me_l (List.mem_of_getElem? (i := 17) rfl))))))))) (fa_c (me_s (me_l (me_l (me_l (me_l (me_r (me_r (me_l (List.mem_of_getElem? (i := 18) rfl))))))))) (fa_c (me_s (me_l (me_l (me_l (me_l (me_r (me_r (me_l (List.mem_of_getElem? (i := 19) rfl))))))))) (fa_c (me_s (me_l (me_l (me_l (me_l (me_r (me_r (me_l (List.mem_of_getElem? (i := 20) rfl))))))))) fa_n)))))))))))))))))))))))) (fa_c (me_s (me_l (me_l (me_l (me_l (me_r (me_r (me_l (List.mem_of_getElem? (i := 21) rfl))))))))) (fa_c (me_s (me_l (me_l (me_l (me_l (me_r (me_r (me_l (List.mem_of_getElem? (i := 22) rfl))))))))) (fa_c (me_s (me_l (me_l (me_l (me_l (me_r (me_r (me_l (List.mem_of_getElem? (i := 23) rfl))))))))) (fa_c (me_s (me_l (me_l (me_l (me_l (me_r (me_r (me_r (List.mem_of_getElem? (i := 0) rfl))))))))) (fa_c (me_s (me_l (me_l (me_l (me_l (me_r (me_r (me_r (List.mem_of_getElem? (i := 1) rfl))))))))) (fa_c (me_s (me_l (me_l (me_l (me_l (me_r (me_r (me_r (List.mem_of_getElem? (i := 2) rfl))))))))) (fa_c (me_s (me_l (me_l (me_l (me_l (me_r (me_r (me_r (List.mem_of_getElem? (i := 3) rfl))))))))) (fa_c (me_s (me_l (me_l (me_l (me_l (me_r (me_r (me_r (List.mem_of_getElem? (i := 4) rfl))))))))) (fa_c (me_s (me_l (me_l (me_l (me_l (me_r (me_r (me_r (List.mem_of_getElem? (i := 5) rfl))))))))) (fa_c (me_s (me_l (me_l (me_l (me_l (me_r (me_r (me_r (List.mem_of_getElem? (i := 6) rfl))))))))) fa_n))))))))))) (fun w h => (me_s (me_l (me_l (me_r h)))))) (fun w h => (me_s (me_r h))))) (by decide +kernel)
set_option maxRecDepth 20000 in
theorem gX6_unitsOf_X7_stops : GoodIn wsX6_unitsOf (wsV RX6 63 RX7 yX7_stops wsX7_stops) := goodIn_app (goodIn_sub (fa_c (me_s (me_l (me_l (me_l (me_l (me_r (me_l (List.mem_of_getElem? (i := 17) rfl)))))))) (fa_c (me_s (me_l (me_l (me_l (me_l (me_r (me_l (List.mem_of_getElem? (i := 18) rfl)))))))) (fa_c (me_s (me_l (me_l (me_l (me_l (me_r (me_l (List.mem_of_getElem? (i := 19) rfl)))))))) (fa_c (me_s (me_l (me_l (me_l (me_l (me_r (me_l (List.mem_of_getElem? (i := 20) rfl)))))))) fa_n)))) (by decide +kernel)) ggX6_unitsOf_X7_stops
theorem dX6_unitsOf_49 : decode cX6_unitsOf 49 = .ok (.invokevirtual 63, 3) := z_dd_182 (by decide +kernel)
theorem dX6_unitsOf_52 : decode cX6_unitsOf 52 = .ok (.ifCond .eq 7, 3) := z_dd_153 (by decide +kernel)
theorem dX6_unitsOf_55 : decode cX6_unitsOf 55 = .ok (.iconst 0, 1) := z_dd_3 (by decide +kernel)
theorem dX6_unitsOf_56 : decode cX6_unitsOf 56 = .ok (.goto 15, 3) := z_dd_167 (by decide +kernel)
theorem dX6_unitsOf_71 : decode cX6_unitsOf 71 = .ok (.ireturn, 1) := z_dd_172 (by decide +kernel)
theorem dX6_unitsOf_59 : decode cX6_unitsOf 59 = .ok (.aload 5, 2) := z_dd_25 (by decide +kernel)
theorem dX6_unitsOf_61 : decode cX6_unitsOf 61 = .ok (.sipush 300, 3) := z_dd_17 (by decide +kernel)
theorem dX6_unitsOf_64 : decode cX6_unitsOf 64 = .ok (.aload_n 0, 1) := z_dd_42 (by decide +kernel)
theorem dX6_unitsOf_65 : decode cX6_unitsOf 65 = .ok (.getfield 20, 3) := z_dd_180 (by decide +kernel)
set_option maxRecDepth 20000 in
theorem ggX6_unitsOf_X7_dealt : GoodIn wsX6_unitsOf wsX7_dealt := goodIn_sub (fa_c (me_s (me_l (me_l (me_l (me_l (me_r (me_r (me_r (List.mem_of_getElem? (i := 10) rfl))))))))) (fa_a (fa_a (fa_a (fa_c (me_s (me_l (me_l (me_l (me_l (me_r (me_l (List.mem_of_getElem? (i := 22) rfl)))))))) (fa_c (me_s (me_l (me_l (me_l (me_l (me_r (me_r (me_r (List.mem_of_getElem? (i := 11) rfl))))))))) (fa_c (me_s (me_l (me_l (me_l (me_l (me_r (me_r (me_l (List.mem_of_getElem? (i := 4) rfl))))))))) (fa_c (me_s (me_l (me_l (me_l (me_l (me_r (me_r (me_r (List.mem_of_getElem? (i := 12) rfl))))))))) (fa_c (me_s (me_l (me_l (me_l (me_l (me_r (me_r (me_r (List.mem_of_getElem? (i := 13) rfl))))))))) (fa_c (me_s (me_l (me_l (me_l (me_l (me_r (me_r (me_l (List.mem_of_getElem? (i := 12) rfl))))))))) (fa_c (me_s (me_l (me_l (me_l (me_l (me_r (me_r (me_r (List.mem_of_getElem? (i := 14) rfl))))))))) (fa_c (me_s (me_l (me_l (me_l (me_l (me_r (me_r (me_r (List.mem_of_getElem? (i := 15) rfl))))))))) (fa_c (me_s (me_l (me_l (me_l (me_l (me_r (me_r (me_l (List.mem_of_getElem? (i := 11) rfl))))))))) (fa_c (me_s (me_l (me_l (me_l (me_l (me_r (me_r (me_l (List.mem_of_getElem? (i := 13) rfl))))))))) (fa_c (me_s (me_l (me_l (me_l (me_l (me_r (me_l (List.mem_of_getElem? (i := 23) rfl)))))))) (fa_c (me_s (me_l (me_l (me_l (me_l (me_r (me_r (me_l (List.mem_of_getElem? (i := 0) rfl))))))))) (fa_c (me_s (me_l (me_l (me_l (me_l (me_r (me_r (me_l (List.mem_of_getElem? (i := 1) rfl))))))))) (fa_c (me_s (me_l (me_l (me_l (me_l (me_r (me_l (List.mem_of_getElem? (i := 20) rfl)))))))) (fa_c (me_s (me_l (me_l (me_l (me_l (me_r (me_r (me_l (List.mem_of_getElem? (i := 2) rfl))))))))) (fa_c (me_s (me_l (me_l (me_l (me_l (me_r (me_r (me_l (List.mem_of_getElem? (i := 3) rfl))))))))) (fa_c (me_s (me_l (me_l (me_l (me_l (me_r (me_r (me_l (List.mem_of_getElem? (i := 5) rfl))))))))) (fa_c (me_s (me_l (me_l (me_l (me_l (me_r (me_r (me_l (List.mem_of_getElem? (i := 6) rfl))))))))) (fa_c (me_s (me_l (me_l (me_l (me_l (me_r (me_r (me_l (List.mem_of_getElem? (i := 7) rfl))))))))) (fa_c (me_s (me_l (me_l (me_l (me_l (me_r (me_r (me_l (List.mem_of_getElem? (i := 8) rfl))))))))) (fa_c (me_s (me_l (me_l (me_l (me_l (me_r (me_r (me_l (List.mem_of_getElem? (i := 9) rfl))))))))) (fa_c (me_s (me_l (me_l (me_l (me_l (me_r (me_r (me_l (List.mem_of_getElem? (i := 10) rfl))))))))) (fa_c (me_s (me_l (me_l (me_l (me_l (me_r (me_r (me_l (List.mem_of_getElem? (i := 14) rfl))))))))) (fa_c (me_s (me_l (me_l (me_l (me_l (me_r (me_r (me_l (List.mem_of_getElem? (i := 15) rfl))))))))) fa_n)))))))))))))))))))))))) (fa_c (me_s (me_l (me_l (me_l (me_l (me_r (me_r (me_l (List.mem_of_getElem? (i := 16) rfl))))))))) (fa_c (me_s (me_l (me_l (me_l (me_l (me_r (me_r (me_l (List.mem_of_getElem? (i := 17) rfl))))))))) (fa_c (me_s (me_l (me_l (me_l (me_l (me_r (me_r (me_l (List.mem_of_getElem? (i := 18) rfl))))))))) (fa_c (me_s (me_l (me_l (me_l (me_l (me_r (me_r (me_l (List.mem_of_getElem? (i := 19) rfl))))))))) (fa_c (me_s (me_l (me_l (me_l (me_l (me_r (me_r (me_l (List.mem_of_getElem? (i := 20) rfl))))))))) (fa_c (me_s (me_l (me_l (me_l (me_l (me_r (me_r (me_l (List.mem_of_getElem? (i := 21) rfl))))))))) (fa_c (me_s (me_l (me_l (me_l (me_l (me_r (me_r (me_l (List.mem_of_getElem? (i := 22) rfl))))))))) (fa_c (me_s (me_l (me_l (me_l (me_l (me_r (me_r (me_l (List.mem_of_getElem? (i := 23) rfl))))))))) (fa_c (me_s (me_l (me_l (me_l (me_l (me_r (me_r (me_r (List.mem_of_getElem? (i := 0) rfl))))))))) (fa_c (me_s (me_l (me_l (me_l (me_l (me_r (me_r (me_r (List.mem_of_getElem? (i := 1) rfl))))))))) (fa_c (me_s (me_l (me_l (me_l (me_l (me_r (me_r (me_r (List.mem_of_getElem? (i := 2) rfl))))))))) (fa_c (me_s (me_l (me_l (me_l (me_l (me_r (me_r (me_r (List.mem_of_getElem? (i := 3) rfl))))))))) (fa_c (me_s (me_l (me_l (me_l (me_l (me_r (me_r (me_r (List.mem_of_getElem? (i := 4) rfl))))))))) (fa_c (me_s (me_l (me_l (me_l (me_l (me_r (me_r (me_r (List.mem_of_getElem? (i := 5) rfl))))))))) (fa_c (me_s (me_l (me_l (me_l (me_l (me_r (me_r (me_r (List.mem_of_getElem? (i := 6) rfl))))))))) fa_n)))))))))))))))) (fun w h => (me_s (me_l (me_l (me_r h)))))) (fun w h => (me_s (me_r h))))) (by decide +kernel)
set_option maxRecDepth 20000 in
theorem gX6_unitsOf_X7_dealt : GoodIn wsX6_unitsOf (wsV RX6 67 RX7 yX7_dealt wsX7_dealt) := goodIn_app (goodIn_sub (fa_c (me_s (me_l (me_l (me_l (me_l (me_r (me_r (me_r (List.mem_of_getElem? (i := 7) rfl))))))))) (fa_c (me_s (me_l (me_l (me_l (me_l (me_r (me_r (me_r (List.mem_of_getElem? (i := 8) rfl))))))))) (fa_c (me_s (me_l (me_l (me_l (me_l (me_r (me_r (me_r (List.mem_of_getElem? (i := 9) rfl))))))))) (fa_c (me_s (me_l (me_l (me_l (me_l (me_r (me_l (List.mem_of_getElem? (i := 20) rfl)))))))) fa_n)))) (by decide +kernel)) ggX6_unitsOf_X7_dealt
theorem dX6_unitsOf_68 : decode cX6_unitsOf 68 = .ok (.invokevirtual 67, 3) := z_dd_182 (by decide +kernel)
theorem dX6_grant_0 : decode cX6_grant 0 = .ok (.aload_n 2, 1) := z_dd_44 (by decide +kernel)
theorem dX6_grant_1 : decode cX6_grant 1 = .ok (.iload_n 3, 1) := z_dd_29 (by decide +kernel)
set_option maxRecDepth 20000 in
theorem ggX6_grant_X3_has : GoodIn wsX6_grant wsX3_has := goodIn_sub (fa_c (me_s (me_l (me_l (me_l (me_l (me_l (me_l (List.mem_of_getElem? (i := 11) rfl)))))))) (fa_a (fa_c (me_s (me_l (me_l (me_l (me_l (me_l (me_l (List.mem_of_getElem? (i := 12) rfl)))))))) fa_n) (fun w h => (me_s (me_l (me_l (me_l (me_l (me_r h))))))))) (by decide +kernel)
set_option maxRecDepth 20000 in
theorem gX6_grant_X3_has : GoodIn wsX6_grant (wsV RX6 71 RX3 yX3_has wsX3_has) := goodIn_app (goodIn_sub (fa_c (me_s (me_l (me_l (me_l (me_l (me_l (me_l (List.mem_of_getElem? (i := 7) rfl)))))))) (fa_c (me_s (me_l (me_l (me_l (me_l (me_l (me_l (List.mem_of_getElem? (i := 8) rfl)))))))) (fa_c (me_s (me_l (me_l (me_l (me_l (me_l (me_l (List.mem_of_getElem? (i := 9) rfl)))))))) (fa_c (me_s (me_l (me_l (me_l (me_l (me_l (me_l (List.mem_of_getElem? (i := 10) rfl)))))))) fa_n)))) (by decide +kernel)) ggX6_grant_X3_has
theorem dX6_grant_2 : decode cX6_grant 2 = .ok (.invokevirtual 71, 3) := z_dd_182 (by decide +kernel)
theorem dX6_grant_5 : decode cX6_grant 5 = .ok (.ifCond .ne 5, 3) := z_dd_154 (by decide +kernel)
theorem dX6_grant_10 : decode cX6_grant 10 = .ok (.aload_n 2, 1) := z_dd_44 (by decide +kernel)
theorem dX6_grant_11 : decode cX6_grant 11 = .ok (.getfield 74, 3) := z_dd_180 (by decide +kernel)
theorem dX6_grant_14 : decode cX6_grant 14 = .ok (.iload_n 3, 1) := z_dd_29 (by decide +kernel)
theorem dX6_grant_15 : decode cX6_grant 15 = .ok (.iaload, 1) := z_dd_46 (by decide +kernel)
theorem dX6_grant_16 : decode cX6_grant 16 = .ok (.istore 4, 2) := z_dd_54 (by decide +kernel)
theorem dX6_grant_18 : decode cX6_grant 18 = .ok (.aload_n 0, 1) := z_dd_42 (by decide +kernel)
theorem dX6_grant_19 : decode cX6_grant 19 = .ok (.aload_n 2, 1) := z_dd_44 (by decide +kernel)
theorem dX6_grant_20 : decode cX6_grant 20 = .ok (.getfield 78, 3) := z_dd_180 (by decide +kernel)
theorem dX6_grant_23 : decode cX6_grant 23 = .ok (.iload_n 3, 1) := z_dd_29 (by decide +kernel)
theorem dX6_grant_24 : decode cX6_grant 24 = .ok (.iaload, 1) := z_dd_46 (by decide +kernel)
theorem dX6_grant_25 : decode cX6_grant 25 = .ok (.bipush 30, 2) := z_dd_16 (by decide +kernel)
theorem dX6_grant_27 : decode cX6_grant 27 = .ok (.idiv, 1) := z_dd_108 (by decide +kernel)
theorem dX6_grant_28 : decode cX6_grant 28 = .ok (.iload 4, 2) := z_dd_21 (by decide +kernel)
set_option maxRecDepth 20000 in
theorem ggX6_grant_X6_ordersOf : GoodIn wsX6_grant wsX6_ordersOf := goodIn_sub (fa_c (me_s (me_l (me_l (me_l (me_l (me_l (me_l (List.mem_of_getElem? (i := 17) rfl)))))))) (fa_a (fa_a (fa_c (me_s (me_l (me_l (me_l (me_l (me_l (me_l (List.mem_of_getElem? (i := 18) rfl)))))))) (fa_c (me_s (me_l (me_l (me_l (me_l (me_l (me_l (List.mem_of_getElem? (i := 19) rfl)))))))) (fa_c (me_s (me_l (me_l (me_l (me_l (me_l (me_l (List.mem_of_getElem? (i := 20) rfl)))))))) (fa_c (me_s (me_l (me_l (me_l (me_l (me_l (me_l (List.mem_of_getElem? (i := 21) rfl)))))))) (fa_c (me_s (me_l (me_l (me_l (me_l (me_l (me_l (List.mem_of_getElem? (i := 16) rfl)))))))) (fa_c (me_s (me_l (me_l (me_l (me_l (me_l (me_l (List.mem_of_getElem? (i := 22) rfl)))))))) (fa_c (me_s (me_l (me_l (me_l (me_l (me_l (me_l (List.mem_of_getElem? (i := 23) rfl)))))))) (fa_c (me_s (me_l (me_l (me_l (me_l (me_l (me_r (me_l (List.mem_of_getElem? (i := 0) rfl))))))))) (fa_c (me_s (me_l (me_l (me_l (me_l (me_l (me_r (me_l (List.mem_of_getElem? (i := 1) rfl))))))))) fa_n))))))))) (fun w h => (me_s (me_l (me_l (me_l (me_r h))))))) (fun w h => (me_s (me_l (me_l (me_r h))))))) (by decide +kernel)
set_option maxRecDepth 20000 in
theorem gX6_grant_X6_ordersOf : GoodIn wsX6_grant (wsV RX6 38 RX6 yX6_ordersOf wsX6_ordersOf) := goodIn_app (goodIn_sub (fa_c (me_s (me_l (me_l (me_l (me_l (me_l (me_l (List.mem_of_getElem? (i := 13) rfl)))))))) (fa_c (me_s (me_l (me_l (me_l (me_l (me_l (me_l (List.mem_of_getElem? (i := 14) rfl)))))))) (fa_c (me_s (me_l (me_l (me_l (me_l (me_l (me_l (List.mem_of_getElem? (i := 15) rfl)))))))) (fa_c (me_s (me_l (me_l (me_l (me_l (me_l (me_l (List.mem_of_getElem? (i := 16) rfl)))))))) fa_n)))) (by decide +kernel)) ggX6_grant_X6_ordersOf
theorem dX6_grant_30 : decode cX6_grant 30 = .ok (.invokevirtual 38, 3) := z_dd_182 (by decide +kernel)
theorem dX6_grant_33 : decode cX6_grant 33 = .ok (.astore 5, 2) := z_dd_58 (by decide +kernel)
theorem dX6_grant_35 : decode cX6_grant 35 = .ok (.aload 5, 2) := z_dd_25 (by decide +kernel)
theorem dX6_grant_37 : decode cX6_grant 37 = .ok (.ifnull 16, 3) := z_dd_198 (by decide +kernel)
theorem dX6_grant_53 : decode cX6_grant 53 = .ok (.iconst 0, 1) := z_dd_3 (by decide +kernel)
theorem dX6_grant_54 : decode cX6_grant 54 = .ok (.ireturn, 1) := z_dd_172 (by decide +kernel)
theorem dX6_grant_40 : decode cX6_grant 40 = .ok (.aload_n 1, 1) := z_dd_43 (by decide +kernel)
theorem dX6_grant_41 : decode cX6_grant 41 = .ok (.aload_n 2, 1) := z_dd_44 (by decide +kernel)
theorem dX6_grant_42 : decode cX6_grant 42 = .ok (.getfield 81, 3) := z_dd_180 (by decide +kernel)
theorem dX6_grant_45 : decode cX6_grant 45 = .ok (.iload_n 3, 1) := z_dd_29 (by decide +kernel)
theorem dX6_grant_46 : decode cX6_grant 46 = .ok (.iaload, 1) := z_dd_46 (by decide +kernel)
set_option maxRecDepth 20000 in
theorem ggX6_grant_X2_has : GoodIn wsX6_grant wsX2_has := goodIn_sub (fa_c (me_s (me_l (me_l (me_l (me_l (me_l (me_r (me_l (List.mem_of_getElem? (i := 6) rfl))))))))) (fa_a (fa_c (me_s (me_l (me_l (me_l (me_l (me_l (me_r (me_l (List.mem_of_getElem? (i := 7) rfl))))))))) fa_n) (fun w h => (me_s (me_l (me_r h)))))) (by decide +kernel)
set_option maxRecDepth 20000 in
theorem gX6_grant_X2_has : GoodIn wsX6_grant (wsV RX6 49 RX2 yX2_has wsX2_has) := goodIn_app (goodIn_sub (fa_c (me_s (me_l (me_l (me_l (me_l (me_l (me_r (me_l (List.mem_of_getElem? (i := 2) rfl))))))))) (fa_c (me_s (me_l (me_l (me_l (me_l (me_l (me_r (me_l (List.mem_of_getElem? (i := 3) rfl))))))))) (fa_c (me_s (me_l (me_l (me_l (me_l (me_l (me_r (me_l (List.mem_of_getElem? (i := 4) rfl))))))))) (fa_c (me_s (me_l (me_l (me_l (me_l (me_l (me_r (me_l (List.mem_of_getElem? (i := 5) rfl))))))))) fa_n)))) (by decide +kernel)) ggX6_grant_X2_has
theorem dX6_grant_47 : decode cX6_grant 47 = .ok (.invokevirtual 49, 3) := z_dd_182 (by decide +kernel)
theorem dX6_grant_50 : decode cX6_grant 50 = .ok (.ifCond .ne 5, 3) := z_dd_154 (by decide +kernel)
theorem dX6_grant_55 : decode cX6_grant 55 = .ok (.aload_n 0, 1) := z_dd_42 (by decide +kernel)
theorem dX6_grant_56 : decode cX6_grant 56 = .ok (.aload_n 1, 1) := z_dd_43 (by decide +kernel)
theorem dX6_grant_57 : decode cX6_grant 57 = .ok (.aload_n 2, 1) := z_dd_44 (by decide +kernel)
theorem dX6_grant_58 : decode cX6_grant 58 = .ok (.getfield 81, 3) := z_dd_180 (by decide +kernel)
theorem dX6_grant_61 : decode cX6_grant 61 = .ok (.iload_n 3, 1) := z_dd_29 (by decide +kernel)
theorem dX6_grant_62 : decode cX6_grant 62 = .ok (.iaload, 1) := z_dd_46 (by decide +kernel)
theorem dX6_grant_63 : decode cX6_grant 63 = .ok (.aload_n 2, 1) := z_dd_44 (by decide +kernel)
theorem dX6_grant_64 : decode cX6_grant 64 = .ok (.getfield 78, 3) := z_dd_180 (by decide +kernel)
theorem dX6_grant_67 : decode cX6_grant 67 = .ok (.iload_n 3, 1) := z_dd_29 (by decide +kernel)
theorem dX6_grant_68 : decode cX6_grant 68 = .ok (.iaload, 1) := z_dd_46 (by decide +kernel)
theorem dX6_grant_69 : decode cX6_grant 69 = .ok (.iload 4, 2) := z_dd_21 (by decide +kernel)
set_option maxRecDepth 20000 in
theorem ggX6_grant_X6_putHolder : GoodIn wsX6_grant wsX6_putHolder := goodIn_sub (fa_c (me_s (me_l (me_l (me_l (me_l (me_l (me_r (me_l (List.mem_of_getElem? (i := 11) rfl))))))))) (fa_a (fa_a (fa_a (fa_c (me_s (me_l (me_l (me_l (me_l (me_l (me_l (List.mem_of_getElem? (i := 6) rfl)))))))) (fa_c (me_s (me_l (me_l (me_l (me_l (me_l (me_r (me_l (List.mem_of_getElem? (i := 12) rfl))))))))) (fa_c (me_s (me_l (me_l (me_l (me_l (me_l (me_r (me_l (List.mem_of_getElem? (i := 13) rfl))))))))) (fa_c (me_s (me_l (me_l (me_l (me_l (me_l (me_r (me_l (List.mem_of_getElem? (i := 14) rfl))))))))) (fa_c (me_s (me_l (me_l (me_l (me_l (me_l (me_r (me_l (List.mem_of_getElem? (i := 2) rfl))))))))) (fa_c (me_s (me_l (me_l (me_l (me_l (me_l (me_r (me_l (List.mem_of_getElem? (i := 3) rfl))))))))) (fa_c (me_s (me_l (me_l (me_l (me_l (me_l (me_r (me_l (List.mem_of_getElem? (i := 4) rfl))))))))) (fa_c (me_s (me_l (me_l (me_l (me_l (me_l (me_r (me_l (List.mem_of_getElem? (i := 5) rfl))))))))) (fa_c (me_s (me_l (me_l (me_l (me_l (me_l (me_r (me_l (List.mem_of_getElem? (i := 6) rfl))))))))) (fa_c (me_s (me_l (me_l (me_l (me_l (me_l (me_r (me_l (List.mem_of_getElem? (i := 7) rfl))))))))) (fa_c (me_s (me_l (me_l (me_l (me_l (me_l (me_r (me_l (List.mem_of_getElem? (i := 15) rfl))))))))) (fa_c (me_s (me_l (me_l (me_l (me_l (me_l (me_r (me_l (List.mem_of_getElem? (i := 16) rfl))))))))) (fa_c (me_s (me_l (me_l (me_l (me_l (me_l (me_r (me_l (List.mem_of_getElem? (i := 17) rfl))))))))) (fa_c (me_s (me_l (me_l (me_l (me_l (me_l (me_r (me_l (List.mem_of_getElem? (i := 18) rfl))))))))) (fa_c (me_s (me_l (me_l (me_l (me_l (me_l (me_r (me_l (List.mem_of_getElem? (i := 19) rfl))))))))) (fa_c (me_s (me_l (me_l (me_l (me_l (me_l (me_r (me_l (List.mem_of_getElem? (i := 20) rfl))))))))) (fa_c (me_s (me_l (me_l (me_l (me_l (me_l (me_r (me_l (List.mem_of_getElem? (i := 21) rfl))))))))) (fa_c (me_s (me_l (me_l (me_l (me_l (me_l (me_r (me_l (List.mem_of_getElem? (i := 22) rfl))))))))) (fa_c (me_s (me_l (me_l (me_l (me_l (me_l (me_r (me_l (List.mem_of_getElem? (i := 23) rfl))))))))) (fa_c (me_s (me_l (me_l (me_l (me_l (me_l (me_r (me_r (me_l (List.mem_of_getElem? (i := 0) rfl)))))))))) fa_n)))))))))))))))))))) (fun w h => (me_s (me_l (me_l (me_l (me_r h))))))) (fun w h => (me_s (me_r h)))) (fun w h => (me_s (me_l (me_r h)))))) (by decide +kernel)
set_option maxRecDepth 20000 in
theorem gX6_grant_X6_putHolder : GoodIn wsX6_grant (wsV RX6 55 RX6 yX6_putHolder wsX6_putHolder) := goodIn_app (goodIn_sub (fa_c (me_s (me_l (me_l (me_l (me_l (me_l (me_r (me_l (List.mem_of_getElem? (i := 8) rfl))))))))) (fa_c (me_s (me_l (me_l (me_l (me_l (me_l (me_r (me_l (List.mem_of_getElem? (i := 9) rfl))))))))) (fa_c (me_s (me_l (me_l (me_l (me_l (me_l (me_r (me_l (List.mem_of_getElem? (i := 10) rfl))))))))) (fa_c (me_s (me_l (me_l (me_l (me_l (me_l (me_l (List.mem_of_getElem? (i := 16) rfl)))))))) fa_n)))) (by decide +kernel)) ggX6_grant_X6_putHolder
theorem dX6_grant_71 : decode cX6_grant 71 = .ok (.invokevirtual 55, 3) := z_dd_182 (by decide +kernel)
theorem dX6_grant_74 : decode cX6_grant 74 = .ok (.aload_n 0, 1) := z_dd_42 (by decide +kernel)
theorem dX6_grant_75 : decode cX6_grant 75 = .ok (.aload_n 2, 1) := z_dd_44 (by decide +kernel)
theorem dX6_grant_76 : decode cX6_grant 76 = .ok (.getfield 84, 3) := z_dd_180 (by decide +kernel)
theorem dX6_grant_79 : decode cX6_grant 79 = .ok (.iload_n 3, 1) := z_dd_29 (by decide +kernel)
theorem dX6_grant_80 : decode cX6_grant 80 = .ok (.iaload, 1) := z_dd_46 (by decide +kernel)
theorem dX6_grant_81 : decode cX6_grant 81 = .ok (.aload_n 2, 1) := z_dd_44 (by decide +kernel)
theorem dX6_grant_82 : decode cX6_grant 82 = .ok (.getfield 87, 3) := z_dd_180 (by decide +kernel)
theorem dX6_grant_85 : decode cX6_grant 85 = .ok (.iload_n 3, 1) := z_dd_29 (by decide +kernel)
theorem dX6_grant_86 : decode cX6_grant 86 = .ok (.iaload, 1) := z_dd_46 (by decide +kernel)
theorem dX6_grant_87 : decode cX6_grant 87 = .ok (.aload_n 2, 1) := z_dd_44 (by decide +kernel)
theorem dX6_grant_88 : decode cX6_grant 88 = .ok (.getfield 90, 3) := z_dd_180 (by decide +kernel)
theorem dX6_grant_91 : decode cX6_grant 91 = .ok (.iload_n 3, 1) := z_dd_29 (by decide +kernel)
theorem dX6_grant_92 : decode cX6_grant 92 = .ok (.iaload, 1) := z_dd_46 (by decide +kernel)
set_option maxRecDepth 20000 in
theorem ggX6_grant_X6_putJourney : GoodIn wsX6_grant wsX6_putJourney := goodIn_sub (fa_c (me_s (me_l (me_l (me_l (me_l (me_l (me_r (me_r (me_l (List.mem_of_getElem? (i := 4) rfl)))))))))) (fa_a (fa_a (fa_c (me_s (me_l (me_l (me_l (me_l (me_l (me_l (List.mem_of_getElem? (i := 6) rfl)))))))) (fa_c (me_s (me_l (me_l (me_l (me_l (me_l (me_r (me_l (List.mem_of_getElem? (i := 12) rfl))))))))) fa_n)) (fun w h => (me_s (me_l (me_l (me_l (me_r h))))))) (fun w h => (me_s (me_r h))))) (by decide +kernel)
set_option maxRecDepth 20000 in
theorem gX6_grant_X6_putJourney : GoodIn wsX6_grant (wsV RX6 59 RX6 yX6_putJourney wsX6_putJourney) := goodIn_app (goodIn_sub (fa_c (me_s (me_l (me_l (me_l (me_l (me_l (me_r (me_r (me_l (List.mem_of_getElem? (i := 1) rfl)))))))))) (fa_c (me_s (me_l (me_l (me_l (me_l (me_l (me_r (me_r (me_l (List.mem_of_getElem? (i := 2) rfl)))))))))) (fa_c (me_s (me_l (me_l (me_l (me_l (me_l (me_r (me_r (me_l (List.mem_of_getElem? (i := 3) rfl)))))))))) (fa_c (me_s (me_l (me_l (me_l (me_l (me_l (me_l (List.mem_of_getElem? (i := 16) rfl)))))))) fa_n)))) (by decide +kernel)) ggX6_grant_X6_putJourney
theorem dX6_grant_93 : decode cX6_grant 93 = .ok (.invokevirtual 59, 3) := z_dd_182 (by decide +kernel)
theorem dX6_grant_96 : decode cX6_grant 96 = .ok (.aload 5, 2) := z_dd_25 (by decide +kernel)
theorem dX6_grant_98 : decode cX6_grant 98 = .ok (.sipush 301, 3) := z_dd_17 (by decide +kernel)
theorem dX6_grant_101 : decode cX6_grant 101 = .ok (.aload_n 0, 1) := z_dd_42 (by decide +kernel)
theorem dX6_grant_102 : decode cX6_grant 102 = .ok (.getfield 20, 3) := z_dd_180 (by decide +kernel)
set_option maxRecDepth 20000 in
theorem ggX6_grant_X7_dealt : GoodIn wsX6_grant wsX7_dealt := goodIn_sub (fa_c (me_s (me_l (me_l (me_l (me_l (me_l (me_r (me_r (me_l (List.mem_of_getElem? (i := 9) rfl)))))))))) (fa_a (fa_a (fa_a (fa_c (me_s (me_l (me_l (me_l (me_l (me_l (me_r (me_r (me_l (List.mem_of_getElem? (i := 10) rfl)))))))))) (fa_c (me_s (me_l (me_l (me_l (me_l (me_l (me_r (me_r (me_l (List.mem_of_getElem? (i := 11) rfl)))))))))) (fa_c (me_s (me_l (me_l (me_l (me_l (me_l (me_r (me_r (me_l (List.mem_of_getElem? (i := 12) rfl)))))))))) (fa_c (me_s (me_l (me_l (me_l (me_l (me_l (me_r (me_r (me_l (List.mem_of_getElem? (i := 13) rfl)))))))))) (fa_c (me_s (me_l (me_l (me_l (me_l (me_l (me_r (me_r (me_l (List.mem_of_getElem? (i := 14) rfl)))))))))) (fa_c (me_s (me_l (me_l (me_l (me_l (me_l (me_r (me_r (me_l (List.mem_of_getElem? (i := 15) rfl)))))))))) (fa_c (me_s (me_l (me_l (me_l (me_l (me_l (me_r (me_r (me_l (List.mem_of_getElem? (i := 16) rfl)))))))))) (fa_c (me_s (me_l (me_l (me_l (me_l (me_l (me_r (me_r (me_l (List.mem_of_getElem? (i := 17) rfl)))))))))) (fa_c (me_s (me_l (me_l (me_l (me_l (me_l (me_r (me_r (me_l (List.mem_of_getElem? (i := 18) rfl)))))))))) (fa_c (me_s (me_l (me_l (me_l (me_l (me_l (me_r (me_r (me_l (List.mem_of_getElem? (i := 19) rfl)))))))))) (fa_c (me_s (me_l (me_l (me_l (me_l (me_l (me_r (me_r (me_l (List.mem_of_getElem? (i := 20) rfl)))))))))) (fa_c (me_s (me_l (me_l (me_l (me_l (me_l (me_r (me_r (me_l (List.mem_of_getElem? (i := 21) rfl)))))))))) (fa_c (me_s (me_l (me_l (me_l (me_l (me_l (me_r (me_r (me_l (List.mem_of_getElem? (i := 22) rfl)))))))))) (fa_c (me_s (me_l (me_l (me_l (me_l (me_l (me_r (me_r (me_l (List.mem_of_getElem? (i := 8) rfl)))))))))) (fa_c (me_s (me_l (me_l (me_l (me_l (me_l (me_r (me_r (me_l (List.mem_of_getElem? (i := 23) rfl)))))))))) (fa_c (me_s (me_l (me_l (me_l (me_l (me_l (me_r (me_r (me_r (List.mem_of_getElem? (i := 0) rfl)))))))))) (fa_c (me_s (me_l (me_l (me_l (me_l (me_l (me_r (me_r (me_r (List.mem_of_getElem? (i := 1) rfl)))))))))) (fa_c (me_s (me_l (me_l (me_l (me_l (me_l (me_r (me_r (me_r (List.mem_of_getElem? (i := 2) rfl)))))))))) (fa_c (me_s (me_l (me_l (me_l (me_l (me_l (me_r (me_r (me_r (List.mem_of_getElem? (i := 3) rfl)))))))))) (fa_c (me_s (me_l (me_l (me_l (me_l (me_l (me_r (me_r (me_r (List.mem_of_getElem? (i := 4) rfl)))))))))) (fa_c (me_s (me_l (me_l (me_l (me_l (me_l (me_r (me_r (me_r (List.mem_of_getElem? (i := 5) rfl)))))))))) (fa_c (me_s (me_l (me_l (me_l (me_l (me_l (me_r (me_r (me_r (List.mem_of_getElem? (i := 6) rfl)))))))))) (fa_c (me_s (me_l (me_l (me_l (me_l (me_l (me_r (me_r (me_r (List.mem_of_getElem? (i := 7) rfl)))))))))) (fa_c (me_s (me_l (me_l (me_l (me_l (me_l (me_r (me_r (me_r (List.mem_of_getElem? (i := 8) rfl)))))))))) fa_n)))))))))))))))))))))))) (fa_c (me_s (me_l (me_l (me_l (me_l (me_l (me_r (me_r (me_r (List.mem_of_getElem? (i := 9) rfl)))))))))) (fa_c (me_s (me_l (me_l (me_l (me_l (me_l (me_r (me_r (me_r (List.mem_of_getElem? (i := 10) rfl)))))))))) (fa_c (me_s (me_l (me_l (me_l (me_l (me_l (me_r (me_r (me_r (List.mem_of_getElem? (i := 11) rfl)))))))))) (fa_c (me_s (me_l (me_l (me_l (me_l (me_l (me_r (me_r (me_r (List.mem_of_getElem? (i := 12) rfl)))))))))) (fa_c (me_s (me_l (me_l (me_l (me_l (me_l (me_r (me_r (me_r (List.mem_of_getElem? (i := 13) rfl)))))))))) (fa_c (me_s (me_l (me_l (me_l (me_l (me_l (me_r (me_r (me_r (List.mem_of_getElem? (i := 14) rfl)))))))))) (fa_c (me_s (me_l (me_l (me_l (me_l (me_l (me_r (me_r (me_r (List.mem_of_getElem? (i := 15) rfl)))))))))) (fa_c (me_s (me_l (me_l (me_l (me_l (me_l (me_r (me_r (me_r (List.mem_of_getElem? (i := 16) rfl)))))))))) (fa_c (me_s (me_l (me_l (me_l (me_l (me_l (me_r (me_r (me_r (List.mem_of_getElem? (i := 17) rfl)))))))))) (fa_c (me_s (me_l (me_l (me_l (me_l (me_l (me_r (me_r (me_r (List.mem_of_getElem? (i := 18) rfl)))))))))) (fa_c (me_s (me_l (me_l (me_l (me_l (me_l (me_r (me_r (me_r (List.mem_of_getElem? (i := 19) rfl)))))))))) (fa_c (me_s (me_l (me_l (me_l (me_l (me_l (me_r (me_r (me_r (List.mem_of_getElem? (i := 20) rfl)))))))))) (fa_c (me_s (me_l (me_l (me_l (me_l (me_l (me_r (me_r (me_r (List.mem_of_getElem? (i := 21) rfl)))))))))) (fa_c (me_s (me_l (me_l (me_l (me_l (me_l (me_r (me_r (me_r (List.mem_of_getElem? (i := 22) rfl)))))))))) (fa_c (me_s (me_l (me_l (me_l (me_l (me_l (me_r (me_r (me_r (List.mem_of_getElem? (i := 23) rfl)))))))))) fa_n)))))))))))))))) (fun w h => (me_s (me_l (me_l (me_r h)))))) (fun w h => (me_s (me_r h))))) (by decide +kernel)
set_option maxRecDepth 20000 in
theorem gX6_grant_X7_dealt : GoodIn wsX6_grant (wsV RX6 67 RX7 yX7_dealt wsX7_dealt) := goodIn_app (goodIn_sub (fa_c (me_s (me_l (me_l (me_l (me_l (me_l (me_r (me_r (me_l (List.mem_of_getElem? (i := 5) rfl)))))))))) (fa_c (me_s (me_l (me_l (me_l (me_l (me_l (me_r (me_r (me_l (List.mem_of_getElem? (i := 6) rfl)))))))))) (fa_c (me_s (me_l (me_l (me_l (me_l (me_l (me_r (me_r (me_l (List.mem_of_getElem? (i := 7) rfl)))))))))) (fa_c (me_s (me_l (me_l (me_l (me_l (me_l (me_r (me_r (me_l (List.mem_of_getElem? (i := 8) rfl)))))))))) fa_n)))) (by decide +kernel)) ggX6_grant_X7_dealt
theorem dX6_grant_105 : decode cX6_grant 105 = .ok (.invokevirtual 67, 3) := z_dd_182 (by decide +kernel)
theorem dX6_grant_108 : decode cX6_grant 108 = .ok (.ireturn, 1) := z_dd_172 (by decide +kernel)
theorem dX6_grant_8 : decode cX6_grant 8 = .ok (.iconst 0, 1) := z_dd_3 (by decide +kernel)
theorem dX6_grant_9 : decode cX6_grant 9 = .ok (.ireturn, 1) := z_dd_172 (by decide +kernel)
theorem z_l301 : (301 : Int32).toInt = 301 := by decide
/-! the STATIONS' cells: the k-th lies at 100 + 8 k, its rows behind it -/
theorem z_ss0 {c : z_C} {k : Nat} (hk : k < c.1) (h10 : c.1 ≤ 10) : shC c (100 + 8 * k) = some (.inr 10) := by
  have h1 : (100 + 8 * k - 100) / 8 = k := by omega
  have h2 : (100 + 8 * k - 100) % 8 = 0 := by omega
  unfold shC
  rw [if_neg (by omega), if_pos (by omega), if_pos ⟨by omega, by rw [h1]; exact hk⟩, if_pos h2]
theorem z_ssj {c : z_C} {k j : Nat} (hk : k < c.1) (h10 : c.1 ≤ 10) (hj : 1 ≤ j ∧ j ≤ 7) : shC c (100 + 8 * k + j) = some (.inl (.int, 30)) := by
  have h1 : (100 + 8 * k + j - 100) / 8 = k := by omega
  have h2 : ¬ (100 + 8 * k + j - 100) % 8 = 0 := by omega
  unfold shC
  rw [if_neg (by omega), if_pos (by omega), if_pos ⟨by omega, by rw [h1]; exact hk⟩, if_neg h2]
theorem z_pS {c : z_C} {ad : Nat → Nat} {I : z_I} {J : z_J} {k f j : Nat} (hk : k < c.1) (h10 : c.1 ≤ 10) (hf : z_so f = some j) (ht : z_tf 10 f = .array .int) : z_v I J (PC c ad) (z_tf 10 f) (100 + 8 * k) f = .ref (ad (100 + 8 * k + j)) := by
  rw [ht]
  show va_rf (PC c ad (100 + 8 * k) f) = _
  unfold PC
  rw [if_neg (by omega), if_pos (by omega), if_pos (by omega), hf]
  rfl
theorem z_p39 {c : z_C} {ad : Nat → Nat} {I : z_I} {J : z_J} {C : String} {j k : Nat} (e : j = k) (hk : k < c.1) : z_v I J (PC c ad) (.object C) 39 j = .ref (ad (100 + 8 * k)) := by
  subst e
  show va_rf (PC c ad 39 j) = _
  unfold PC
  rw [if_pos (by omega), if_pos rfl, if_pos hk]
  rfl
theorem z_p39n {c : z_C} {ad : Nat → Nat} {I : z_I} {J : z_J} {C : String} {j : Nat} (hk : ¬ j < c.1) : z_v I J (PC c ad) (.object C) 39 j = .null := by
  show va_rf (PC c ad 39 j) = _
  unfold PC
  rw [if_pos (by omega), if_pos rfl, if_neg hk]
  rfl
theorem z_wad {L : z_L} {a : Nat} (h : L.any (fun e => e.1 == 1000 && e.2 == 999) = true) (ha : 100 ≤ a) : z_wa L a = true := by
  unfold z_wa
  rw [List.any_eq_true] at h ⊢
  obtain ⟨e, he, h2⟩ := h
  refine ⟨e, he, ?_⟩
  simp only [z_ce, Bool.and_eq_true, Bool.or_eq_true, beq_iff_eq, decide_eq_true_eq] at h2 ⊢
  exact ⟨Or.inr ⟨h2.1, ha⟩, h2.2⟩
/-- every STATION's DIPS: 0 to 30 -/
noncomputable def z_iS (c : z_C) (I : z_I) : Prop := ∀ k, k < c.1 → 0 ≤ (I (100 + 8 * k) 4).toInt ∧ (I (100 + 8 * k) 4).toInt ≤ 30
theorem z_iS_a {c : z_C} {I K : z_I} {q i j : Nat} {v : Int32} (h : z_iS c I) (hi : 1 ≤ i ∧ i ≤ 7) (e : K = z_up I (100 + 8 * q + i) j v) : z_iS c K := fun k hk => by
  rw [e, z_up_n (by omega)]
  exact h k hk
theorem z_iS_k {c : z_C} {I K : z_I} {a j : Nat} {v : Int32} (h : z_iS c I) (hj : j ≠ 4) (e : K = z_up I a j v) : z_iS c K := fun k hk => by
  rw [e, z_up_k (fun q => hj q.symm)]
  exact h k hk
theorem z_iS_4 {c : z_C} {I K : z_I} {q : Nat} {v : Int32} (h : z_iS c I) (hv : 0 ≤ v.toInt ∧ v.toInt ≤ 30) (e : K = z_up I (100 + 8 * q) 4 v) : z_iS c K := fun k hk => by
  by_cases w : k = q
  · rw [e, w, z_up_s]
    exact hv
  · rw [e, z_up_n (by omega)]
    exact h k hk
theorem z_iS_fr {c : z_C} {L : z_L} {I K : z_I} (h : z_iS c I) (hf : z_fr L K I) (hL : L.all (fun e => decide (e.1 < 100)) = true) : z_iS c K := fun k hk => by
  have hw : z_wr L (100 + 8 * k) 4 = false := by
    cases hq : z_wr L (100 + 8 * k) 4 with
    | false => rfl
    | true =>
      exfalso
      unfold z_wr at hq
      rw [List.any_eq_true] at hq
      obtain ⟨e, he, h2⟩ := hq
      rw [List.all_eq_true] at hL
      have h3 := hL e he
      simp only [z_ce, Bool.and_eq_true, Bool.or_eq_true, beq_iff_eq, decide_eq_true_eq] at h2 h3
      omega
  rw [hf _ _ hw]
  exact h k hk
theorem zj_X6_inForce_X6 : ∀ w ∈ wsX60, w ∈ wsX6_inForce := fun w h => (List.mem_cons_of_mem _ (List.mem_append_left _ (List.mem_append_right _ h)))
theorem zj_X6_inForce_X7 : ∀ w ∈ wsX70, w ∈ wsX6_inForce := fun w h => (List.mem_cons_of_mem _ (List.mem_append_right _ h))
set_option maxHeartbeats 8000000 in
set_option maxRecDepth 100000 in
theorem sx_X6_inForce (l : Launch) (G : z_G) (ad : Nat → Nat) (c : z_C) (I : z_I) (hO : z_iO I) (a1 : Int32) (a2 : Int32) : z_M l yX6_inForce wsX6_inForce { frames := 1, cells := 0, slots := 0, locals := 12 } [.ref (ad 21), .int a1, .int a2] G (shC c, ad, I, JX, PC c ad) (fun r u1 => u1 = (shC c, ad, I, JX, PC c ad) ∧ (-1 ≤ r.toInt ∧ r.toInt ≤ 11)) 0 0 := by
  intro sz
  refine z_headQ (cc := cX6_inForce) (maxL := 8) (ret := (some .int)) (by decide) rfl (Nat.le_of_ble_eq_true rfl) ?_
  intro p e s m below meth c0 ls hIn hK hsz hW hl
  obtain ⟨hx, hb, hr, hml, hown, hts, hlocks, hname⟩ := hIn
  subst hsz
  have hown : s.vm.findClass RX6 = some m.cls := hown
  have hA : ∀ q : Nat, s.heap.size ≤ q → z_A (shC c, ad, I, JX, PC c ad) s.heap.size q := fun q h => Or.inr h
  generalize hAe : z_A (shC c, ad, I, JX, PC c ad) s.heap.size = A at *
  have hS : va_S A s.heap s.heap [] := va_S.rf
  have hl : lv_has ls 8 [(0, .ref (ad 21)), (1, .int a1), (2, .int a2)] := hl
  refine lv_iconst (v := (-1)) hx hb dX6_inForce_0 (by decide) ?_
  refine lv_istore_n (lv' := [(3, .int (-1)), (0, .ref (ad 21)), (1, .int a1), (2, .int a2)]) hx hb dX6_inForce_1 rfl hl (by decide) rfl (fun ls hl => ?_)
  refine lv_iconst (v := (-1)) hx hb dX6_inForce_2 (by decide) ?_
  refine lv_istore (lv' := [(4, .int (-1)), (3, .int (-1)), (0, .ref (ad 21)), (1, .int a1), (2, .int a2)]) hx hb dX6_inForce_3 hl (by decide) rfl (fun ls hl => ?_)
  refine lv_iconst (v := 0) hx hb dX6_inForce_5 (by decide) ?_
  refine lv_istore (lv' := [(5, .int 0), (4, .int (-1)), (3, .int (-1)), (0, .ref (ad 21)), (1, .int a1), (2, .int a2)]) hx hb dX6_inForce_6 hl (by decide) rfl (fun ls hl => ?_)
  have lp1 : ∀ (f : Nat) (y2 : Int32) (y3 : Int32) (y4 : Int32) (H : Heap) (locs : List Loc) (ls : Array Slot), (2147483647 < y2.toInt + (f : Int)) → (0 ≤ y2.toInt) → ((-1) ≤ y4.toInt) → (y4.toInt ≤ 11) → z_W G A (shC c, ad, I, JX, PC c ad) H → va_S A s.heap H locs → lv_has ls 8 [(5, .int y2), (4, .int y3), (3, .int y4), (0, .ref (ad 21)), (1, .int a1), (2, .int a2)] → W p l e (headSpec wsX6_inForce { frames := 1, cells := 0, slots := 0, locals := 12 }).room s m ([.ref (ad 21), .int a1, .int a2] : List Value).toArray below meth c0 H locs 0 0 (MQ below (va_Qi (fun (r : Int32) (u1 : z_U) => u1 = (shC c, ad, I, JX, PC c ad) ∧ (-1 ≤ r.toInt ∧ r.toInt ≤ 11)) (z_B G A) A) ([.ref (ad 21), .int a1, .int a2] : List Value).toArray s 0 0 A) (F0 m 8 ls []) := by
    intro f
    induction f with
    | zero => intro y2 y3 y4 H locs ls lp1m lp1l5 lp1l3 lp1u3 hW hS hl; exact absurd lp1m (by have := Int32.toInt_lt y2; have := Int32.le_toInt y2; omega)
    | succ f lp1ih =>
      intro y2 y3 y4 H locs ls lp1m lp1l5 lp1l3 lp1u3 hW hS hl
      refine lv_iload hx hb dX6_inForce_8 (lv_at hl 0 rfl) ?_
      refine lv_aload_n hx hb dX6_inForce_10 rfl (lv_at hl 3 rfl) ?_
      have r5 : 0 ≤ (I 21 2).toInt ∧ (I 21 2).toInt ≤ 12 := hO
      refine z_get (T := TX6) (N := 3) (ci := 6) (i := 21) (v := .int (I 21 2)) hx hb hts zj_X6_inForce_X6 hown hK hW rfl rfl 2 (by decide) (hts (.fieldLink RX6 24 "PetrolBoard$OrderBook" "number" "I") (me_s (me_l (me_l (List.mem_of_getElem? (i := 0) rfl))))) (fun _ h => h) rfl dX6_inForce_11 ?_
      refine lv_icmp_ge (tgt := 97) hx hb dX6_inForce_14 (by decide) (fun c6 => ?_) (fun c6 => ?_)
      · have g7 := z_f_ge rfl rfl c6
        have b8 := Int32.toInt_lt y2
        refine lv_iload_n hx hb dX6_inForce_97 rfl (lv_at hl 2 rfl) ?_
        exact z_iret hx hb hr hK hS (Nat.le_of_ble_eq_true rfl) (Nat.le_of_ble_eq_true rfl) hlocks dX6_inForce_98 (shC c, ad, I, JX, PC c ad) hW ⟨rfl, (by omega)⟩
      · have g9 := z_f_nge rfl rfl c6
        have b10 := Int32.toInt_lt y2
        refine lv_iload hx hb dX6_inForce_17 (lv_at hl 0 rfl) ?_
        refine lv_aload_n hx hb dX6_inForce_19 rfl (lv_at hl 3 rfl) ?_
        refine z_get (T := TX6) (N := 3) (ci := 6) (i := 21) (v := .ref (ad 22)) hx hb hts zj_X6_inForce_X6 hown hK hW rfl rfl 0 (by decide) (hts (.fieldLink RX6 11 "PetrolBoard$OrderBook" "told" "[LPetrolBoard$Orders;") (me_s (me_l (me_l (List.mem_of_getElem? (i := 1) rfl))))) (fun _ h => h) rfl dX6_inForce_20 ?_
        refine z_alen (i := 22) (v := 12) hx hb hK hW rfl (by simp [z_tys]) (by rfl) dX6_inForce_23 ?_
        refine lv_icmp_ge (tgt := 97) hx hb dX6_inForce_24 (by decide) (fun c11 => (by have g := z_f_ge rfl z_l12 c11; omega)) (fun c11 => ?_)
        have g12 := z_f_nge rfl z_l12 c11
        refine lv_aload_n hx hb dX6_inForce_27 rfl (lv_at hl 3 rfl) ?_
        refine z_get (T := TX6) (N := 3) (ci := 6) (i := 21) (v := .ref (ad 22)) hx hb hts zj_X6_inForce_X6 hown hK hW rfl rfl 0 (by decide) (hts (.fieldLink RX6 11 "PetrolBoard$OrderBook" "told" "[LPetrolBoard$Orders;") (me_s (me_l (me_l (List.mem_of_getElem? (i := 1) rfl))))) (fun _ h => h) rfl dX6_inForce_28 ?_
        refine lv_iload hx hb dX6_inForce_31 (lv_at hl 0 rfl) ?_
        obtain ⟨k13, ek13⟩ : ∃ k : Nat, (y2 : Int32).toNatClampNeg = k := ⟨_, rfl⟩
        rcases Nat.lt_or_ge k13 c.2.1 with hk13 | hk13
        · refine z_aald (i := 22) (v := .ref (ad (200 + 5 * k13))) hx hb hK hW rfl (by simp [z_tys]) rfl (z_ix rfl (by omega) (by omega)) (z_p22 ek13 hk13) dX6_inForce_33 ?_
          refine lv_astore (lv' := [(6, .ref (ad (200 + 5 * k13))), (5, .int y2), (4, .int y3), (3, .int y4), (0, .ref (ad 21)), (1, .int a1), (2, .int a2)]) hx hb dX6_inForce_34 hl (by decide) rfl (fun ls hl => ?_)
          refine lv_aload hx hb dX6_inForce_36 (lv_at hl 0 rfl) ?_
          refine lv_ifnull hx hb dX6_inForce_38 ?_
          refine lv_aload hx hb dX6_inForce_41 (lv_at hl 0 rfl) ?_
          refine z_get (T := TX7) (N := 6) (ci := 7) (i := (200 + 5 * k13)) (v := .int (I (200 + 5 * k13) 1)) hx hb hts zj_X6_inForce_X7 hown hK hW (z_so0 hk13) rfl 1 (by decide) (hts (.fieldLink RX6 28 "PetrolBoard$Orders" "toldOn" "I") (me_s (me_l (me_l (List.mem_of_getElem? (i := 2) rfl))))) (fun _ h => h) rfl dX6_inForce_43 ?_
          refine lv_iload_n hx hb dX6_inForce_46 rfl (lv_at hl 6 rfl) ?_
          refine lv_icmp_gt (tgt := 63) hx hb dX6_inForce_47 (by decide) (fun c14 => ?_) (fun c14 => ?_)
          · have g15 := z_f_gt rfl rfl c14
            have b16 := Int32.toInt_lt (I (200 + 5 * k13) 1)
            have b17 := Int32.toInt_lt a2
            refine lv_iconst (v := 0) hx hb dX6_inForce_63 (by decide) ?_
            refine lv_istore (lv' := [(7, .int 0), (6, .ref (ad (200 + 5 * k13))), (5, .int y2), (4, .int y3), (3, .int y4), (0, .ref (ad 21)), (1, .int a1), (2, .int a2)]) hx hb dX6_inForce_64 hl (by decide) rfl (fun ls hl => ?_)
            refine lv_iload hx hb dX6_inForce_66 (lv_at hl 0 rfl) ?_
            refine lv_if_eq (tgt := 91) hx hb dX6_inForce_68 (by decide) (fun c18 => ?_) (fun c18 => absurd (by decide) c18)
            obtain ⟨x19, ex19⟩ : ∃ y : Int32, y = y2 + 1 := ⟨_, rfl⟩
            have tx19 : x19.toInt = y2.toInt + 1 := z_tadd ex19 rfl z_l1 (by omega) (by omega)
            refine lv_iinc (v := x19) (lv' := [(5, .int x19), (7, .int 0), (6, .ref (ad (200 + 5 * k13))), (4, .int y3), (3, .int y4), (0, .ref (ad 21)), (1, .int a1), (2, .int a2)]) hx hb dX6_inForce_91 hl (k := 2) rfl (by rw [ex19]; rfl) (by decide) rfl (fun ls hl => ?_)
            refine lv_goto (tgt := 8) hx hb dX6_inForce_94 (by decide) ?_
            exact lp1ih x19 y3 y4 _ _ _ (by omega) (by omega) (by omega) (by omega) hW hS (lv_sub hl [0, 3, 4, 5, 6, 7] rfl)
          · have g20 := z_f_ngt rfl rfl c14
            have b21 := Int32.toInt_lt (I (200 + 5 * k13) 1)
            have b22 := Int32.toInt_lt a2
            refine lv_aload hx hb dX6_inForce_50 (lv_at hl 0 rfl) ?_
            refine z_get (T := TX7) (N := 6) (ci := 7) (i := (200 + 5 * k13)) (v := .int (I (200 + 5 * k13) 0)) hx hb hts zj_X6_inForce_X7 hown hK hW (z_so0 hk13) rfl 0 (by decide) (hts (.fieldLink RX6 31 "PetrolBoard$Orders" "month" "I") (me_s (me_l (me_l (List.mem_of_getElem? (i := 3) rfl))))) (fun _ h => h) rfl dX6_inForce_52 ?_
            refine lv_iload_n hx hb dX6_inForce_55 rfl (lv_at hl 5 rfl) ?_
            refine lv_icmp_gt (tgt := 63) hx hb dX6_inForce_56 (by decide) (fun c23 => ?_) (fun c23 => ?_)
            · have g24 := z_f_gt rfl rfl c23
              have b25 := Int32.toInt_lt (I (200 + 5 * k13) 0)
              have b26 := Int32.toInt_lt a1
              refine lv_iconst (v := 0) hx hb dX6_inForce_63 (by decide) ?_
              refine lv_istore (lv' := [(7, .int 0), (6, .ref (ad (200 + 5 * k13))), (5, .int y2), (4, .int y3), (3, .int y4), (0, .ref (ad 21)), (1, .int a1), (2, .int a2)]) hx hb dX6_inForce_64 hl (by decide) rfl (fun ls hl => ?_)
              refine lv_iload hx hb dX6_inForce_66 (lv_at hl 0 rfl) ?_
              refine lv_if_eq (tgt := 91) hx hb dX6_inForce_68 (by decide) (fun c27 => ?_) (fun c27 => absurd (by decide) c27)
              obtain ⟨x28, ex28⟩ : ∃ y : Int32, y = y2 + 1 := ⟨_, rfl⟩
              have tx28 : x28.toInt = y2.toInt + 1 := z_tadd ex28 rfl z_l1 (by omega) (by omega)
              refine lv_iinc (v := x28) (lv' := [(5, .int x28), (7, .int 0), (6, .ref (ad (200 + 5 * k13))), (4, .int y3), (3, .int y4), (0, .ref (ad 21)), (1, .int a1), (2, .int a2)]) hx hb dX6_inForce_91 hl (k := 2) rfl (by rw [ex28]; rfl) (by decide) rfl (fun ls hl => ?_)
              refine lv_goto (tgt := 8) hx hb dX6_inForce_94 (by decide) ?_
              exact lp1ih x28 y3 y4 _ _ _ (by omega) (by omega) (by omega) (by omega) hW hS (lv_sub hl [0, 3, 4, 5, 6, 7] rfl)
            · have g29 := z_f_ngt rfl rfl c23
              have b30 := Int32.toInt_lt (I (200 + 5 * k13) 0)
              have b31 := Int32.toInt_lt a1
              refine lv_iconst (v := 1) hx hb dX6_inForce_59 (by decide) ?_
              refine lv_goto (tgt := 64) hx hb dX6_inForce_60 (by decide) ?_
              refine lv_istore (lv' := [(7, .int 1), (6, .ref (ad (200 + 5 * k13))), (5, .int y2), (4, .int y3), (3, .int y4), (0, .ref (ad 21)), (1, .int a1), (2, .int a2)]) hx hb dX6_inForce_64 hl (by decide) rfl (fun ls hl => ?_)
              refine lv_iload hx hb dX6_inForce_66 (lv_at hl 0 rfl) ?_
              refine lv_if_eq (tgt := 91) hx hb dX6_inForce_68 (by decide) (fun c32 => absurd c32 (by decide)) (fun c32 => ?_)
              refine lv_aload hx hb dX6_inForce_71 (lv_at hl 1 rfl) ?_
              refine z_get (T := TX7) (N := 6) (ci := 7) (i := (200 + 5 * k13)) (v := .int (I (200 + 5 * k13) 0)) hx hb hts zj_X6_inForce_X7 hown hK hW (z_so0 hk13) rfl 0 (by decide) (hts (.fieldLink RX6 31 "PetrolBoard$Orders" "month" "I") (me_s (me_l (me_l (List.mem_of_getElem? (i := 3) rfl))))) (fun _ h => h) rfl dX6_inForce_73 ?_
              refine lv_iload hx hb dX6_inForce_76 (lv_at hl 3 rfl) ?_
              refine lv_icmp_lt (tgt := 91) hx hb dX6_inForce_78 (by decide) (fun c33 => ?_) (fun c33 => ?_)
              · have g34 := z_f_lt rfl rfl c33
                have b35 := Int32.toInt_lt y3
                obtain ⟨x36, ex36⟩ : ∃ y : Int32, y = y2 + 1 := ⟨_, rfl⟩
                have tx36 : x36.toInt = y2.toInt + 1 := z_tadd ex36 rfl z_l1 (by omega) (by omega)
                refine lv_iinc (v := x36) (lv' := [(5, .int x36), (7, .int 1), (6, .ref (ad (200 + 5 * k13))), (4, .int y3), (3, .int y4), (0, .ref (ad 21)), (1, .int a1), (2, .int a2)]) hx hb dX6_inForce_91 hl (k := 2) rfl (by rw [ex36]; rfl) (by decide) rfl (fun ls hl => ?_)
                refine lv_goto (tgt := 8) hx hb dX6_inForce_94 (by decide) ?_
                exact lp1ih x36 y3 y4 _ _ _ (by omega) (by omega) (by omega) (by omega) hW hS (lv_sub hl [0, 3, 4, 5, 6, 7] rfl)
              · have g37 := z_f_nlt rfl rfl c33
                have b38 := Int32.toInt_lt y3
                refine lv_aload hx hb dX6_inForce_81 (lv_at hl 1 rfl) ?_
                refine z_get (T := TX7) (N := 6) (ci := 7) (i := (200 + 5 * k13)) (v := .int (I (200 + 5 * k13) 0)) hx hb hts zj_X6_inForce_X7 hown hK hW (z_so0 hk13) rfl 0 (by decide) (hts (.fieldLink RX6 31 "PetrolBoard$Orders" "month" "I") (me_s (me_l (me_l (List.mem_of_getElem? (i := 3) rfl))))) (fun _ h => h) rfl dX6_inForce_83 ?_
                refine lv_istore (lv' := [(4, .int (I (200 + 5 * k13) 0)), (7, .int 1), (6, .ref (ad (200 + 5 * k13))), (5, .int y2), (3, .int y4), (0, .ref (ad 21)), (1, .int a1), (2, .int a2)]) hx hb dX6_inForce_86 hl (by decide) rfl (fun ls hl => ?_)
                refine lv_iload hx hb dX6_inForce_88 (lv_at hl 3 rfl) ?_
                refine lv_istore_n (lv' := [(3, .int y2), (4, .int (I (200 + 5 * k13) 0)), (7, .int 1), (6, .ref (ad (200 + 5 * k13))), (5, .int y2), (0, .ref (ad 21)), (1, .int a1), (2, .int a2)]) hx hb dX6_inForce_90 rfl hl (by decide) rfl (fun ls hl => ?_)
                obtain ⟨x39, ex39⟩ : ∃ y : Int32, y = y2 + 1 := ⟨_, rfl⟩
                have tx39 : x39.toInt = y2.toInt + 1 := z_tadd ex39 rfl z_l1 (by omega) (by omega)
                refine lv_iinc (v := x39) (lv' := [(5, .int x39), (3, .int y2), (4, .int (I (200 + 5 * k13) 0)), (7, .int 1), (6, .ref (ad (200 + 5 * k13))), (0, .ref (ad 21)), (1, .int a1), (2, .int a2)]) hx hb dX6_inForce_91 hl (k := 4) rfl (by rw [ex39]; rfl) (by decide) rfl (fun ls hl => ?_)
                refine lv_goto (tgt := 8) hx hb dX6_inForce_94 (by decide) ?_
                exact lp1ih x39 (I (200 + 5 * k13) 0) y2 _ _ _ (by omega) (by omega) (by omega) (by omega) hW hS (lv_sub hl [0, 2, 1, 5, 6, 7] rfl)
        · refine z_aald (i := 22) (v := .null) hx hb hK hW rfl (by simp [z_tys]) rfl (z_ix rfl (by omega) (by omega)) (z_p22n (by rw [ek13]; omega)) dX6_inForce_33 ?_
          refine lv_astoreN (lv' := [(6, .null), (5, .int y2), (4, .int y3), (3, .int y4), (0, .ref (ad 21)), (1, .int a1), (2, .int a2)]) hx hb dX6_inForce_34 hl (by decide) rfl (fun ls hl => ?_)
          refine lv_aloadN hx hb dX6_inForce_36 (lv_at hl 0 rfl) ?_
          refine lv_ifnullN (tgt := 63) hx hb dX6_inForce_38 (by decide) ?_
          refine lv_iconst (v := 0) hx hb dX6_inForce_63 (by decide) ?_
          refine lv_istore (lv' := [(7, .int 0), (6, .null), (5, .int y2), (4, .int y3), (3, .int y4), (0, .ref (ad 21)), (1, .int a1), (2, .int a2)]) hx hb dX6_inForce_64 hl (by decide) rfl (fun ls hl => ?_)
          refine lv_iload hx hb dX6_inForce_66 (lv_at hl 0 rfl) ?_
          refine lv_if_eq (tgt := 91) hx hb dX6_inForce_68 (by decide) (fun c40 => ?_) (fun c40 => absurd (by decide) c40)
          obtain ⟨x41, ex41⟩ : ∃ y : Int32, y = y2 + 1 := ⟨_, rfl⟩
          have tx41 : x41.toInt = y2.toInt + 1 := z_tadd ex41 rfl z_l1 (by omega) (by omega)
          refine lv_iinc (v := x41) (lv' := [(5, .int x41), (7, .int 0), (6, .null), (4, .int y3), (3, .int y4), (0, .ref (ad 21)), (1, .int a1), (2, .int a2)]) hx hb dX6_inForce_91 hl (k := 2) rfl (by rw [ex41]; rfl) (by decide) rfl (fun ls hl => ?_)
          refine lv_goto (tgt := 8) hx hb dX6_inForce_94 (by decide) ?_
          exact lp1ih x41 y3 y4 _ _ _ (by omega) (by omega) (by omega) (by omega) hW hS (lv_sub hl [0, 3, 4, 5, 6, 7] rfl)
  exact lp1 4294967296 (0) ((-1)) ((-1)) _ _ _ (z_m0u _) (by rw [z_l0]; omega) (by rw [z_lm1]; omega) (by rw [z_lm1]; omega) hW hS (lv_sub hl [0, 1, 2, 3, 4, 5] rfl)
theorem zj_X6_ordersOf_X6 : ∀ w ∈ wsX60, w ∈ wsX6_ordersOf := fun w h => (List.mem_cons_of_mem _ (List.mem_append_left _ (List.mem_append_right _ h)))
set_option maxHeartbeats 8000000 in
set_option maxRecDepth 100000 in
theorem sx_X6_ordersOf (l : Launch) (G : z_G) (ad : Nat → Nat) (c : z_C) (I : z_I) (hO : z_iO I) (a1 : Int32) (a2 : Int32) : z_Mq l yX6_ordersOf wsX6_ordersOf { frames := 2, cells := 0, slots := 0, locals := 39 } [.ref (ad 21), .int a1, .int a2] G (shC c, ad, I, JX, PC c ad) (fun r u1 => u1 = (shC c, ad, I, JX, PC c ad) ∧ (r = none ∨ ∃ k, k < c.2.1 ∧ r = some (ad (200 + 5 * k)))) 0 0 := by
  intro sz
  refine z_headQ (cc := cX6_ordersOf) (maxL := 4) (ret := (some (.object "PetrolBoard$Orders"))) (by decide) rfl (Nat.le_of_ble_eq_true rfl) ?_
  intro p e s m below meth c0 ls hIn hK hsz hW hl
  obtain ⟨hx, hb, hr, hml, hown, hts, hlocks, hname⟩ := hIn
  subst hsz
  have hown : s.vm.findClass RX6 = some m.cls := hown
  have hA : ∀ q : Nat, s.heap.size ≤ q → z_A (shC c, ad, I, JX, PC c ad) s.heap.size q := fun q h => Or.inr h
  generalize hAe : z_A (shC c, ad, I, JX, PC c ad) s.heap.size = A at *
  have hS : va_S A s.heap s.heap [] := va_S.rf
  have hl : lv_has ls 4 [(0, .ref (ad 21)), (1, .int a1), (2, .int a2)] := hl
  refine lv_aload_n hx hb dX6_ordersOf_0 rfl (lv_at hl 0 rfl) ?_
  refine lv_iload_n hx hb dX6_ordersOf_1 rfl (lv_at hl 1 rfl) ?_
  refine lv_iload_n hx hb dX6_ordersOf_2 rfl (lv_at hl 2 rfl) ?_
  refine z_ci hW hS hA (va_runV (As := [.int a1, .int a2]) (rest := []) ⟨hx, hb, hml, hown, hts⟩ (sx_X6_inForce l G ad c I (by show 0 ≤ (I 21 2).toInt ∧ (I 21 2).toInt ≤ 12; exact hO) a1 a2 _) (cwV 2 hts gX6_ordersOf_X6_inForce rfl rfl rfl hy_X6_inForce ⟨Nat.le_of_ble_eq_true rfl, Nat.le_of_ble_eq_true rfl⟩) (z_preV (i := 21) hK hW rfl rfl) rfl rfl hl.1 rfl (lv_room (Nat.le_of_ble_eq_true rfl)) dX6_ordersOf_3 ⟨Nat.le_of_ble_eq_true rfl, Nat.le_of_ble_eq_true rfl⟩) (fun r u1 H locs hp hW hS => ?_)
  obtain ⟨e9, hp⟩ := hp
  rw [e9] at hW
  have hq := hp
  generalize r = x1 at hq ⊢
  have h2 := hq
  refine lv_istore_n (lv' := [(3, .int x1), (0, .ref (ad 21)), (1, .int a1), (2, .int a2)]) hx hb dX6_ordersOf_6 rfl hl (by decide) rfl (fun ls hl => ?_)
  refine lv_iload_n hx hb dX6_ordersOf_7 rfl (lv_at hl 0 rfl) ?_
  refine lv_if_lt (tgt := 29) hx hb dX6_ordersOf_8 (by decide) (fun c3 => ?_) (fun c3 => ?_)
  · have g4 := z_f_lt rfl z_l0 c3
    refine lv_null hx hb dX6_ordersOf_29 ?_
    exact z_nret hx hb hr hK hS (Nat.le_of_ble_eq_true rfl) (Nat.le_of_ble_eq_true rfl) hlocks dX6_ordersOf_30 (shC c, ad, I, JX, PC c ad) hW ⟨rfl, Or.inl rfl⟩
  · have g5 := z_f_nlt rfl z_l0 c3
    refine lv_iload_n hx hb dX6_ordersOf_11 rfl (lv_at hl 0 rfl) ?_
    refine lv_aload_n hx hb dX6_ordersOf_12 rfl (lv_at hl 1 rfl) ?_
    refine z_get (T := TX6) (N := 3) (ci := 6) (i := 21) (v := .ref (ad 22)) hx hb hts zj_X6_ordersOf_X6 hown hK hW rfl rfl 0 (by decide) (hts (.fieldLink RX6 11 "PetrolBoard$OrderBook" "told" "[LPetrolBoard$Orders;") (me_s (me_l (me_l (List.mem_of_getElem? (i := 0) rfl))))) (fun _ h => h) rfl dX6_ordersOf_13 ?_
    refine z_alen (i := 22) (v := 12) hx hb hK hW rfl (by simp [z_tys]) (by rfl) dX6_ordersOf_16 ?_
    refine lv_icmp_ge (tgt := 29) hx hb dX6_ordersOf_17 (by decide) (fun c6 => (by have g := z_f_ge rfl z_l12 c6; omega)) (fun c6 => ?_)
    have g7 := z_f_nge rfl z_l12 c6
    refine lv_aload_n hx hb dX6_ordersOf_20 rfl (lv_at hl 1 rfl) ?_
    refine z_get (T := TX6) (N := 3) (ci := 6) (i := 21) (v := .ref (ad 22)) hx hb hts zj_X6_ordersOf_X6 hown hK hW rfl rfl 0 (by decide) (hts (.fieldLink RX6 11 "PetrolBoard$OrderBook" "told" "[LPetrolBoard$Orders;") (me_s (me_l (me_l (List.mem_of_getElem? (i := 0) rfl))))) (fun _ h => h) rfl dX6_ordersOf_21 ?_
    refine lv_iload_n hx hb dX6_ordersOf_24 rfl (lv_at hl 0 rfl) ?_
    obtain ⟨k8, ek8⟩ : ∃ k : Nat, (x1 : Int32).toNatClampNeg = k := ⟨_, rfl⟩
    rcases Nat.lt_or_ge k8 c.2.1 with hk8 | hk8
    · refine z_aald (i := 22) (v := .ref (ad (200 + 5 * k8))) hx hb hK hW rfl (by simp [z_tys]) rfl (z_ix rfl (by omega) (by omega)) (z_p22 ek8 hk8) dX6_ordersOf_25 ?_
      refine lv_goto (tgt := 30) hx hb dX6_ordersOf_26 (by decide) ?_
      exact z_qretO hx hb hr hK hS (Nat.le_of_ble_eq_true rfl) (Nat.le_of_ble_eq_true rfl) hlocks dX6_ordersOf_30 (shC c, ad, I, JX, PC c ad) hW ⟨rfl, Or.inr ⟨k8, hk8, rfl⟩⟩
    · refine z_aald (i := 22) (v := .null) hx hb hK hW rfl (by simp [z_tys]) rfl (z_ix rfl (by omega) (by omega)) (z_p22n (by rw [ek8]; omega)) dX6_ordersOf_25 ?_
      refine lv_goto (tgt := 30) hx hb dX6_ordersOf_26 (by decide) ?_
      exact z_nret hx hb hr hK hS (Nat.le_of_ble_eq_true rfl) (Nat.le_of_ble_eq_true rfl) hlocks dX6_ordersOf_30 (shC c, ad, I, JX, PC c ad) hW ⟨rfl, Or.inl rfl⟩
set_option maxHeartbeats 8000000 in
set_option maxRecDepth 100000 in
theorem sx_X6_amount (l : Launch) (G : z_G) (ad : Nat → Nat) (c : z_C) (I : z_I) (hO : z_iO I) (a1 : Int32) (a2 : Int32) (a3 : Int32) (hc : z_okc c) : z_MS l yX6_amount wsX6_amount { frames := 3, cells := 0, slots := 0, locals := 62 } [.ref (ad 21), .int a1, .int a2, .int a3] G (shC c, ad, I, JX, PC c ad) (fun r u1 => u1 = (shC c, ad, I, JX, PC c ad)) 0 0 := by
  intro sz
  refine z_headS (cc := cX6_amount) (maxL := 5) (ret := (some .int)) (by decide) rfl (Nat.le_of_ble_eq_true rfl) ?_
  intro p e s m below meth c0 ls hIn hK hsz hW hl hSt
  obtain ⟨hx, hb, hr, hml, hown, hts, hlocks, hname⟩ := hIn
  subst hsz
  have hown : s.vm.findClass RX6 = some m.cls := hown
  have hA : ∀ q : Nat, s.heap.size ≤ q → z_A (shC c, ad, I, JX, PC c ad) s.heap.size q := fun q h => Or.inr h
  generalize hAe : z_A (shC c, ad, I, JX, PC c ad) s.heap.size = A at *
  have hS : va_S A s.heap s.heap [] := va_S.rf
  have hl : lv_has ls 5 [(0, .ref (ad 21)), (1, .int a1), (2, .int a2), (3, .int a3)] := hl
  refine lv_aload_n hx hb dX6_amount_0 rfl (lv_at hl 0 rfl) ?_
  refine lv_iload_n hx hb dX6_amount_1 rfl (lv_at hl 2 rfl) ?_
  refine lv_iload_n hx hb dX6_amount_2 rfl (lv_at hl 3 rfl) ?_
  refine z_cq hW hS hA (va_runV (As := [.int a2, .int a3]) (rest := []) ⟨hx, hb, hml, hown, hts⟩ (sx_X6_ordersOf l G ad c I (by show 0 ≤ (I 21 2).toInt ∧ (I 21 2).toInt ≤ 12; exact hO) a2 a3 _) (cwV 2 hts gX6_amount_X6_ordersOf rfl rfl rfl hy_X6_ordersOf ⟨Nat.le_of_ble_eq_true rfl, Nat.le_of_ble_eq_true rfl⟩) (z_preV (i := 21) hK hW rfl rfl) rfl rfl hl.1 rfl (lv_room (Nat.le_of_ble_eq_true rfl)) dX6_amount_3 ⟨Nat.le_of_ble_eq_true rfl, Nat.le_of_ble_eq_true rfl⟩) (fun r u1 H locs hp hW hS => ?_)
  obtain ⟨e9, hp⟩ := hp
  rw [e9] at hW
  rcases hp with rfl | ⟨k1, hk1, rfl⟩
  · refine W.eq (g2 := F0 m 6 ls (.null :: [])) rfl ?_
    refine lv_astoreN (lv' := [(4, .null), (0, .ref (ad 21)), (1, .int a1), (2, .int a2), (3, .int a3)]) hx hb dX6_amount_6 hl (by decide) rfl (fun ls hl => ?_)
    refine lv_aloadN hx hb dX6_amount_8 (lv_at hl 0 rfl) ?_
    refine lv_ifnonnullN hx hb dX6_amount_10 ?_
    refine lv_iload_n hx hb dX6_amount_13 rfl (lv_at hl 2 rfl) ?_
    refine z_ci hW hS hA (va_runSN (As := [.int a1]) (rest := []) ⟨hx, hb, hml, hown, hts⟩ (sx_X11_usual l G ad c I  a1 _) ⟨va_cnB 1 hts gX6_amount_X11_usual_n42 rfl rfl rfl (hK.2.2.1 _ (List.mem_of_getElem? (i := 9) rfl)) (hts (.initialized RX11) (me_s (me_l (me_l (List.mem_of_getElem? (i := 14) rfl))))) (by decide +kernel) ⟨Nat.le_of_ble_eq_true rfl, Nat.le_of_ble_eq_true rfl⟩, (hts (.static yX11_usual) (me_s (me_l (me_l (List.mem_of_getElem? (i := 13) rfl))))), trivial⟩ (z_preSS hK hW hS hA hSt) rfl rfl hl.1 rfl (lv_room (Nat.le_of_ble_eq_true rfl)) dX6_amount_14 ⟨Nat.le_of_ble_eq_true rfl, Nat.le_of_ble_eq_true rfl⟩) (fun r u1 H locs hp hW hS => ?_)
    rw [hp] at hW
    refine lv_topi (fun x2 ex2 => ?_)
    refine lv_goto (tgt := 26) hx hb dX6_amount_17 (by decide) ?_
    exact z_iret hx hb hr hK hS (Nat.le_of_ble_eq_true rfl) (Nat.le_of_ble_eq_true rfl) hlocks dX6_amount_26 (shC c, ad, I, JX, PC c ad) hW rfl
  · refine W.eq (g2 := F0 m 6 ls (.ref (ad (200 + 5 * k1)) :: [])) rfl ?_
    refine lv_astore (lv' := [(4, .ref (ad (200 + 5 * k1))), (0, .ref (ad 21)), (1, .int a1), (2, .int a2), (3, .int a3)]) hx hb dX6_amount_6 hl (by decide) rfl (fun ls hl => ?_)
    refine lv_aload hx hb dX6_amount_8 (lv_at hl 0 rfl) ?_
    refine lv_ifnonnull (tgt := 20) hx hb dX6_amount_10 (by decide) ?_
    refine lv_aload hx hb dX6_amount_20 (lv_at hl 0 rfl) ?_
    refine lv_iload_n hx hb dX6_amount_22 rfl (lv_at hl 2 rfl) ?_
    refine z_ci hW hS hA (va_runV (As := [.int a1]) (rest := []) ⟨hx, hb, hml, hown, hts⟩ (sx_X7_amount l G ad c I  k1 a1 hk1 hc _) (cwV 1 hts gX6_amount_X7_amount rfl rfl rfl hy_X7_amount ⟨Nat.le_of_ble_eq_true rfl, Nat.le_of_ble_eq_true rfl⟩) (z_preVS (i := (200 + 5 * k1)) hK hW hS hA hSt (z_so0 hk1) rfl) rfl rfl hl.1 rfl (lv_room (Nat.le_of_ble_eq_true rfl)) dX6_amount_23 ⟨Nat.le_of_ble_eq_true rfl, Nat.le_of_ble_eq_true rfl⟩) (fun r u1 H locs hp hW hS => ?_)
    rw [hp] at hW
    refine lv_topi (fun x3 ex3 => ?_)
    exact z_iret hx hb hr hK hS (Nat.le_of_ble_eq_true rfl) (Nat.le_of_ble_eq_true rfl) hlocks dX6_amount_26 (shC c, ad, I, JX, PC c ad) hW rfl
noncomputable def L_X6_putHolder : z_L := [(24, 999)]
theorem zj_X6_putHolder_X2 : ∀ w ∈ wsX20, w ∈ wsX6_putHolder := fun w h => (List.mem_cons_of_mem _ (List.mem_append_right _ h))
theorem zj_X6_putHolder_X5 : ∀ w ∈ wsX50, w ∈ wsX6_putHolder := fun w h => (List.mem_cons_of_mem _ (List.mem_append_left _ (List.mem_append_right _ h)))
theorem zj_X6_putHolder_X6 : ∀ w ∈ wsX60, w ∈ wsX6_putHolder := fun w h => (List.mem_cons_of_mem _ (List.mem_append_left _ (List.mem_append_left _ (List.mem_append_right _ h))))
set_option maxHeartbeats 8000000 in
set_option maxRecDepth 100000 in
theorem sx_X6_putHolder (l : Launch) (G : z_G) (ad : Nat → Nat) (c : z_C) (I : z_I) (hH : z_iH I) (a2 : Int32) (a3 : Int32) (a4 : Int32) : z_Mv l yX6_putHolder wsX6_putHolder { frames := 2, cells := 0, slots := 0, locals := 39 } [.ref (ad 21), .ref (ad 1), .int a2, .int a3, .int a4] G (shC c, ad, I, JX, PC c ad) (fun u1 => ∃ I1 : z_I, u1 = (shC c, ad, I1, JX, PC c ad) ∧ z_iH I1 ∧ z_fr L_X6_putHolder I1 I) 0 0 := by
  intro sz
  refine z_headQ (cc := cX6_putHolder) (maxL := 5) (ret := none) (by decide) rfl (Nat.le_of_ble_eq_true rfl) ?_
  intro p e s m below meth c0 ls hIn hK hsz hW hl
  obtain ⟨hx, hb, hr, hml, hown, hts, hlocks, hname⟩ := hIn
  subst hsz
  have hown : s.vm.findClass RX6 = some m.cls := hown
  have hA : ∀ q : Nat, s.heap.size ≤ q → z_A (shC c, ad, I, JX, PC c ad) s.heap.size q := fun q h => Or.inr h
  generalize hAe : z_A (shC c, ad, I, JX, PC c ad) s.heap.size = A at *
  have hS : va_S A s.heap s.heap [] := va_S.rf
  have hl : lv_has ls 5 [(0, .ref (ad 21)), (1, .ref (ad 1)), (2, .int a2), (3, .int a3), (4, .int a4)] := hl
  refine lv_aload_n hx hb dX6_putHolder_0 rfl (lv_at hl 1 rfl) ?_
  refine lv_iload_n hx hb dX6_putHolder_1 rfl (lv_at hl 2 rfl) ?_
  refine z_ci hW hS hA (va_runV (As := [.int a2]) (rest := []) ⟨hx, hb, hml, hown, hts⟩ (sx_X2_has l G ad c I ⟨(by show 0 ≤ (I 1 5).toInt ∧ (I 1 5).toInt ≤ 30; exact hH.1), (by show 0 ≤ (I 1 11).toInt ∧ (I 1 11).toInt ≤ 200; exact hH.2)⟩ a2 _) (cwV 1 hts gX6_putHolder_X2_has rfl rfl rfl hy_X2_has ⟨Nat.le_of_ble_eq_true rfl, Nat.le_of_ble_eq_true rfl⟩) (z_preV (i := 1) hK hW rfl rfl) rfl rfl hl.1 rfl (lv_room (Nat.le_of_ble_eq_true rfl)) dX6_putHolder_2 ⟨Nat.le_of_ble_eq_true rfl, Nat.le_of_ble_eq_true rfl⟩) (fun r u1 H locs hp hW hS => ?_)
  obtain ⟨e9, hp⟩ := hp
  rw [e9] at hW
  rcases hp with ⟨rfl, h1, h2⟩ | rfl
  · refine lv_if_eq (tgt := 68) hx hb dX6_putHolder_5 (by decide) (fun c3 => absurd c3 (by decide)) (fun c3 => ?_)
    refine lv_aload_n hx hb dX6_putHolder_8 rfl (lv_at hl 0 rfl) ?_
    refine z_get (T := TX6) (N := 3) (ci := 6) (i := 21) (v := .ref (ad 23)) hx hb hts zj_X6_putHolder_X6 hown hK hW rfl rfl 1 (by decide) (hts (.fieldLink RX6 20 "PetrolBoard$OrderBook" "machine" "LPetrolBoard$Machine;") (me_s (me_l (me_l (me_l (List.mem_of_getElem? (i := 0) rfl)))))) (fun _ h => h) rfl dX6_putHolder_9 ?_
    refine z_get (T := TX5) (N := 2) (ci := 5) (i := 23) (v := .ref (ad 24)) hx hb hts zj_X6_putHolder_X5 hown hK hW rfl rfl 0 (by decide) (hts (.fieldLink RX6 93 "PetrolBoard$Machine" "names" "[I") (me_s (me_l (me_l (me_l (List.mem_of_getElem? (i := 1) rfl)))))) (fun _ h => h) rfl dX6_putHolder_12 ?_
    refine lv_iconst (v := 0) hx hb dX6_putHolder_15 (by decide) ?_
    refine lv_aload_n hx hb dX6_putHolder_16 rfl (lv_at hl 1 rfl) ?_
    refine lv_iload_n hx hb dX6_putHolder_17 rfl (lv_at hl 2 rfl) ?_
    refine lv_iload_n hx hb dX6_putHolder_18 rfl (lv_at hl 3 rfl) ?_
    refine lv_iload hx hb dX6_putHolder_19 (lv_at hl 4 rfl) ?_
    refine z_ci hW hS hA (va_runV (As := [.int a2, .int a3, .int a4]) (rest := [.int 0, .ref (ad 24)]) ⟨hx, hb, hml, hown, hts⟩ (sx_X2_kindOn l G ad c I ⟨(by show 0 ≤ (I 1 5).toInt ∧ (I 1 5).toInt ≤ 30; exact hH.1), (by show 0 ≤ (I 1 11).toInt ∧ (I 1 11).toInt ≤ 200; exact hH.2)⟩ a2 a3 a4 _) (cwV 3 hts gX6_putHolder_X2_kindOn rfl rfl rfl hy_X2_kindOn ⟨Nat.le_of_ble_eq_true rfl, Nat.le_of_ble_eq_true rfl⟩) (z_preV (i := 1) hK hW rfl rfl) rfl rfl hl.1 rfl (lv_room (Nat.le_of_ble_eq_true rfl)) dX6_putHolder_21 ⟨Nat.le_of_ble_eq_true rfl, Nat.le_of_ble_eq_true rfl⟩) (fun r u1 H locs hp hW hS => ?_)
    rw [hp] at hW
    refine lv_topi (fun x4 ex4 => ?_)
    refine z_iast (i := 24) hx hb hK hW hS rfl (z_inl (by decide)) dX6_putHolder_24 (fun H locs hz1 hW hS => ?_)
    obtain ⟨I5, eI5⟩ : ∃ K : z_I, K = z_up I 24 (0 : Int32).toNatClampNeg x4 := ⟨_, rfl⟩
    rw [← eI5] at hW
    have f6 := z_fr_a z_fr_0 (show z_wa L_X6_putHolder 24 = true by decide) eI5
    refine lv_aload_n hx hb dX6_putHolder_25 rfl (lv_at hl 0 rfl) ?_
    refine z_get (T := TX6) (N := 3) (ci := 6) (i := 21) (v := .ref (ad 23)) hx hb hts zj_X6_putHolder_X6 hown hK hW rfl rfl 1 (by decide) (hts (.fieldLink RX6 20 "PetrolBoard$OrderBook" "machine" "LPetrolBoard$Machine;") (me_s (me_l (me_l (me_l (List.mem_of_getElem? (i := 0) rfl)))))) (fun _ h => h) rfl dX6_putHolder_26 ?_
    refine z_get (T := TX5) (N := 2) (ci := 5) (i := 23) (v := .ref (ad 24)) hx hb hts zj_X6_putHolder_X5 hown hK hW rfl rfl 0 (by decide) (hts (.fieldLink RX6 93 "PetrolBoard$Machine" "names" "[I") (me_s (me_l (me_l (me_l (List.mem_of_getElem? (i := 1) rfl)))))) (fun _ h => h) rfl dX6_putHolder_29 ?_
    refine lv_iconst (v := 1) hx hb dX6_putHolder_32 (by decide) ?_
    refine lv_aload_n hx hb dX6_putHolder_33 rfl (lv_at hl 1 rfl) ?_
    refine z_get (T := TX2) (N := 12) (ci := 2) (i := 1) (v := .ref (ad 2)) hx hb hts zj_X6_putHolder_X2 hown hK hW rfl rfl 0 (by decide) (hts (.fieldLink RX6 100 "PetrolBoard$Holders" "size" "[I") (me_s (me_l (me_l (me_l (List.mem_of_getElem? (i := 2) rfl)))))) (fun _ h => h) rfl dX6_putHolder_34 ?_
    refine lv_iload_n hx hb dX6_putHolder_37 rfl (lv_at hl 2 rfl) ?_
    refine z_iald (i := 2) hx hb hK hW rfl (z_ix rfl (by omega) (by omega)) dX6_putHolder_38 ?_
    refine lv_topi (fun x7 ex7 => ?_)
    refine z_iast (i := 24) hx hb hK hW hS rfl (z_inl (by decide)) dX6_putHolder_39 (fun H locs hz1 hW hS => ?_)
    obtain ⟨I8, eI8⟩ : ∃ K : z_I, K = z_up I5 24 (1 : Int32).toNatClampNeg x7 := ⟨_, rfl⟩
    rw [← eI8] at hW
    have f9 := z_fr_a f6 (show z_wa L_X6_putHolder 24 = true by decide) eI8
    refine lv_aload_n hx hb dX6_putHolder_40 rfl (lv_at hl 0 rfl) ?_
    refine z_get (T := TX6) (N := 3) (ci := 6) (i := 21) (v := .ref (ad 23)) hx hb hts zj_X6_putHolder_X6 hown hK hW rfl rfl 1 (by decide) (hts (.fieldLink RX6 20 "PetrolBoard$OrderBook" "machine" "LPetrolBoard$Machine;") (me_s (me_l (me_l (me_l (List.mem_of_getElem? (i := 0) rfl)))))) (fun _ h => h) rfl dX6_putHolder_41 ?_
    refine z_get (T := TX5) (N := 2) (ci := 5) (i := 23) (v := .ref (ad 24)) hx hb hts zj_X6_putHolder_X5 hown hK hW rfl rfl 0 (by decide) (hts (.fieldLink RX6 93 "PetrolBoard$Machine" "names" "[I") (me_s (me_l (me_l (me_l (List.mem_of_getElem? (i := 1) rfl)))))) (fun _ h => h) rfl dX6_putHolder_44 ?_
    refine lv_iconst (v := 2) hx hb dX6_putHolder_47 (by decide) ?_
    refine lv_aload_n hx hb dX6_putHolder_48 rfl (lv_at hl 1 rfl) ?_
    refine z_get (T := TX2) (N := 12) (ci := 2) (i := 1) (v := .ref (ad 3)) hx hb hts zj_X6_putHolder_X2 hown hK hW rfl rfl 1 (by decide) (hts (.fieldLink RX6 103 "PetrolBoard$Holders" "town" "[I") (me_s (me_l (me_l (me_l (List.mem_of_getElem? (i := 3) rfl)))))) (fun _ h => h) rfl dX6_putHolder_49 ?_
    refine lv_iload_n hx hb dX6_putHolder_52 rfl (lv_at hl 2 rfl) ?_
    refine z_iald (i := 3) hx hb hK hW rfl (z_ix rfl (by omega) (by omega)) dX6_putHolder_53 ?_
    refine lv_topi (fun x10 ex10 => ?_)
    refine z_iast (i := 24) hx hb hK hW hS rfl (z_inl (by decide)) dX6_putHolder_54 (fun H locs hz1 hW hS => ?_)
    obtain ⟨I11, eI11⟩ : ∃ K : z_I, K = z_up I8 24 (2 : Int32).toNatClampNeg x10 := ⟨_, rfl⟩
    rw [← eI11] at hW
    have f12 := z_fr_a f9 (show z_wa L_X6_putHolder 24 = true by decide) eI11
    refine lv_aload_n hx hb dX6_putHolder_55 rfl (lv_at hl 0 rfl) ?_
    refine z_get (T := TX6) (N := 3) (ci := 6) (i := 21) (v := .ref (ad 23)) hx hb hts zj_X6_putHolder_X6 hown hK hW rfl rfl 1 (by decide) (hts (.fieldLink RX6 20 "PetrolBoard$OrderBook" "machine" "LPetrolBoard$Machine;") (me_s (me_l (me_l (me_l (List.mem_of_getElem? (i := 0) rfl)))))) (fun _ h => h) rfl dX6_putHolder_56 ?_
    refine z_get (T := TX5) (N := 2) (ci := 5) (i := 23) (v := .ref (ad 24)) hx hb hts zj_X6_putHolder_X5 hown hK hW rfl rfl 0 (by decide) (hts (.fieldLink RX6 93 "PetrolBoard$Machine" "names" "[I") (me_s (me_l (me_l (me_l (List.mem_of_getElem? (i := 1) rfl)))))) (fun _ h => h) rfl dX6_putHolder_59 ?_
    refine lv_iconst (v := 3) hx hb dX6_putHolder_62 (by decide) ?_
    refine lv_iload_n hx hb dX6_putHolder_63 rfl (lv_at hl 3 rfl) ?_
    refine lv_bipush (v := 30) hx hb dX6_putHolder_64 (by decide) ?_
    refine lv_idiv hx hb dX6_putHolder_66 (by decide) ?_
    refine lv_topi (fun x13 ex13 => ?_)
    have tx13 := z_tdiv ex13 rfl z_l30 (by decide)
    refine z_iast (i := 24) hx hb hK hW hS rfl (z_inl (by decide)) dX6_putHolder_67 (fun H locs hz1 hW hS => ?_)
    obtain ⟨I14, eI14⟩ : ∃ K : z_I, K = z_up I11 24 (3 : Int32).toNatClampNeg x13 := ⟨_, rfl⟩
    rw [← eI14] at hW
    have f15 := z_fr_a f12 (show z_wa L_X6_putHolder 24 = true by decide) eI14
    exact z_vret hx hb hr hK hS (Nat.le_of_ble_eq_true rfl) (Nat.le_of_ble_eq_true rfl) hlocks dX6_putHolder_68 (shC c, ad, I14, JX, PC c ad) hW ⟨I14, rfl, ⟨(by show 0 ≤ (I14 1 5).toInt ∧ (I14 1 5).toInt ≤ 30; rw [eI14, z_up_n (by decide), eI11, z_up_n (by decide), eI8, z_up_n (by decide), eI5, z_up_n (by decide)]; exact hH.1), (by show 0 ≤ (I14 1 11).toInt ∧ (I14 1 11).toInt ≤ 200; rw [eI14, z_up_n (by decide), eI11, z_up_n (by decide), eI8, z_up_n (by decide), eI5, z_up_n (by decide)]; exact hH.2)⟩, f15⟩
  · refine lv_if_eq (tgt := 68) hx hb dX6_putHolder_5 (by decide) (fun c16 => ?_) (fun c16 => absurd (by decide) c16)
    exact z_vret hx hb hr hK hS (Nat.le_of_ble_eq_true rfl) (Nat.le_of_ble_eq_true rfl) hlocks dX6_putHolder_68 (shC c, ad, I, JX, PC c ad) hW ⟨I, rfl, ⟨(by show 0 ≤ (I 1 5).toInt ∧ (I 1 5).toInt ≤ 30; exact hH.1), (by show 0 ≤ (I 1 11).toInt ∧ (I 1 11).toInt ≤ 200; exact hH.2)⟩, z_fr_0⟩
noncomputable def L_X6_putJourney : z_L := [(24, 999)]
theorem zj_X6_putJourney_X5 : ∀ w ∈ wsX50, w ∈ wsX6_putJourney := fun w h => (List.mem_cons_of_mem _ (List.mem_append_right _ h))
theorem zj_X6_putJourney_X6 : ∀ w ∈ wsX60, w ∈ wsX6_putJourney := fun w h => (List.mem_cons_of_mem _ (List.mem_append_left _ (List.mem_append_right _ h)))
set_option maxHeartbeats 8000000 in
set_option maxRecDepth 100000 in
theorem sx_X6_putJourney (l : Launch) (G : z_G) (ad : Nat → Nat) (c : z_C) (I : z_I) (a1 : Int32) (a2 : Int32) (a3 : Int32) : z_Mv l yX6_putJourney wsX6_putJourney { frames := 1, cells := 0, slots := 0, locals := 12 } [.ref (ad 21), .int a1, .int a2, .int a3] G (shC c, ad, I, JX, PC c ad) (fun u1 => ∃ I1 : z_I, u1 = (shC c, ad, I1, JX, PC c ad) ∧ z_fr L_X6_putJourney I1 I) 0 0 := by
  intro sz
  refine z_headQ (cc := cX6_putJourney) (maxL := 4) (ret := none) (by decide) rfl (Nat.le_of_ble_eq_true rfl) ?_
  intro p e s m below meth c0 ls hIn hK hsz hW hl
  obtain ⟨hx, hb, hr, hml, hown, hts, hlocks, hname⟩ := hIn
  subst hsz
  have hown : s.vm.findClass RX6 = some m.cls := hown
  have hA : ∀ q : Nat, s.heap.size ≤ q → z_A (shC c, ad, I, JX, PC c ad) s.heap.size q := fun q h => Or.inr h
  generalize hAe : z_A (shC c, ad, I, JX, PC c ad) s.heap.size = A at *
  have hS : va_S A s.heap s.heap [] := va_S.rf
  have hl : lv_has ls 4 [(0, .ref (ad 21)), (1, .int a1), (2, .int a2), (3, .int a3)] := hl
  refine lv_aload_n hx hb dX6_putJourney_0 rfl (lv_at hl 0 rfl) ?_
  refine z_get (T := TX6) (N := 3) (ci := 6) (i := 21) (v := .ref (ad 23)) hx hb hts zj_X6_putJourney_X6 hown hK hW rfl rfl 1 (by decide) (hts (.fieldLink RX6 20 "PetrolBoard$OrderBook" "machine" "LPetrolBoard$Machine;") (me_s (me_l (me_l (List.mem_of_getElem? (i := 0) rfl))))) (fun _ h => h) rfl dX6_putJourney_1 ?_
  refine z_get (T := TX5) (N := 2) (ci := 5) (i := 23) (v := .ref (ad 24)) hx hb hts zj_X6_putJourney_X5 hown hK hW rfl rfl 0 (by decide) (hts (.fieldLink RX6 93 "PetrolBoard$Machine" "names" "[I") (me_s (me_l (me_l (List.mem_of_getElem? (i := 1) rfl))))) (fun _ h => h) rfl dX6_putJourney_4 ?_
  refine lv_iconst (v := 4) hx hb dX6_putJourney_7 (by decide) ?_
  refine lv_iload_n hx hb dX6_putJourney_8 rfl (lv_at hl 1 rfl) ?_
  refine z_iast (i := 24) hx hb hK hW hS rfl (z_inl (by decide)) dX6_putJourney_9 (fun H locs hz1 hW hS => ?_)
  obtain ⟨I1, eI1⟩ : ∃ K : z_I, K = z_up I 24 (4 : Int32).toNatClampNeg a1 := ⟨_, rfl⟩
  rw [← eI1] at hW
  have f2 := z_fr_a z_fr_0 (show z_wa L_X6_putJourney 24 = true by decide) eI1
  refine lv_aload_n hx hb dX6_putJourney_10 rfl (lv_at hl 0 rfl) ?_
  refine z_get (T := TX6) (N := 3) (ci := 6) (i := 21) (v := .ref (ad 23)) hx hb hts zj_X6_putJourney_X6 hown hK hW rfl rfl 1 (by decide) (hts (.fieldLink RX6 20 "PetrolBoard$OrderBook" "machine" "LPetrolBoard$Machine;") (me_s (me_l (me_l (List.mem_of_getElem? (i := 0) rfl))))) (fun _ h => h) rfl dX6_putJourney_11 ?_
  refine z_get (T := TX5) (N := 2) (ci := 5) (i := 23) (v := .ref (ad 24)) hx hb hts zj_X6_putJourney_X5 hown hK hW rfl rfl 0 (by decide) (hts (.fieldLink RX6 93 "PetrolBoard$Machine" "names" "[I") (me_s (me_l (me_l (List.mem_of_getElem? (i := 1) rfl))))) (fun _ h => h) rfl dX6_putJourney_14 ?_
  refine lv_iconst (v := 5) hx hb dX6_putJourney_17 (by decide) ?_
  refine lv_iload_n hx hb dX6_putJourney_18 rfl (lv_at hl 2 rfl) ?_
  refine z_iast (i := 24) hx hb hK hW hS rfl (z_inl (by decide)) dX6_putJourney_19 (fun H locs hz1 hW hS => ?_)
  obtain ⟨I3, eI3⟩ : ∃ K : z_I, K = z_up I1 24 (5 : Int32).toNatClampNeg a2 := ⟨_, rfl⟩
  rw [← eI3] at hW
  have f4 := z_fr_a f2 (show z_wa L_X6_putJourney 24 = true by decide) eI3
  refine lv_aload_n hx hb dX6_putJourney_20 rfl (lv_at hl 0 rfl) ?_
  refine z_get (T := TX6) (N := 3) (ci := 6) (i := 21) (v := .ref (ad 23)) hx hb hts zj_X6_putJourney_X6 hown hK hW rfl rfl 1 (by decide) (hts (.fieldLink RX6 20 "PetrolBoard$OrderBook" "machine" "LPetrolBoard$Machine;") (me_s (me_l (me_l (List.mem_of_getElem? (i := 0) rfl))))) (fun _ h => h) rfl dX6_putJourney_21 ?_
  refine z_get (T := TX5) (N := 2) (ci := 5) (i := 23) (v := .ref (ad 24)) hx hb hts zj_X6_putJourney_X5 hown hK hW rfl rfl 0 (by decide) (hts (.fieldLink RX6 93 "PetrolBoard$Machine" "names" "[I") (me_s (me_l (me_l (List.mem_of_getElem? (i := 1) rfl))))) (fun _ h => h) rfl dX6_putJourney_24 ?_
  refine lv_bipush (v := 6) hx hb dX6_putJourney_27 (by decide) ?_
  refine lv_iload_n hx hb dX6_putJourney_29 rfl (lv_at hl 3 rfl) ?_
  refine z_iast (i := 24) hx hb hK hW hS rfl (z_inl (by decide)) dX6_putJourney_30 (fun H locs hz1 hW hS => ?_)
  obtain ⟨I5, eI5⟩ : ∃ K : z_I, K = z_up I3 24 (6 : Int32).toNatClampNeg a3 := ⟨_, rfl⟩
  rw [← eI5] at hW
  have f6 := z_fr_a f4 (show z_wa L_X6_putJourney 24 = true by decide) eI5
  exact z_vret hx hb hr hK hS (Nat.le_of_ble_eq_true rfl) (Nat.le_of_ble_eq_true rfl) hlocks dX6_putJourney_31 (shC c, ad, I5, JX, PC c ad) hW ⟨I5, rfl, f6⟩
noncomputable def L_X6_unitsOf : z_L := [(24, 999), (25, 999)]
theorem zj_X6_unitsOf_X6 : ∀ w ∈ wsX60, w ∈ wsX6_unitsOf := fun w h => (List.mem_cons_of_mem _ (List.mem_append_left _ (List.mem_append_left _ (List.mem_append_left _ (List.mem_append_right _ h)))))
set_option maxHeartbeats 8000000 in
set_option maxRecDepth 100000 in
theorem sx_X6_unitsOf (l : Launch) (G : z_G) (ad : Nat → Nat) (c : z_C) (I : z_I) (hO : z_iO I) (hH : z_iH I) (a2 : Int32) (a3 : Int32) (a4 : Int32) (hc : z_okc c) : z_M l yX6_unitsOf wsX6_unitsOf { frames := 5, cells := 0, slots := 0, locals := 135 } [.ref (ad 21), .ref (ad 1), .int a2, .int a3, .int a4] G (shC c, ad, I, JX, PC c ad) (fun r u1 => ∃ I1 : z_I, u1 = (shC c, ad, I1, JX, PC c ad) ∧ z_iO I1 ∧ z_iH I1 ∧ z_fr L_X6_unitsOf I1 I) 0 0 := by
  intro sz
  refine z_headQ (cc := cX6_unitsOf) (maxL := 6) (ret := (some .int)) (by decide) rfl (Nat.le_of_ble_eq_true rfl) ?_
  intro p e s m below meth c0 ls hIn hK hsz hW hl
  obtain ⟨hx, hb, hr, hml, hown, hts, hlocks, hname⟩ := hIn
  subst hsz
  have hown : s.vm.findClass RX6 = some m.cls := hown
  have hA : ∀ q : Nat, s.heap.size ≤ q → z_A (shC c, ad, I, JX, PC c ad) s.heap.size q := fun q h => Or.inr h
  generalize hAe : z_A (shC c, ad, I, JX, PC c ad) s.heap.size = A at *
  have hS : va_S A s.heap s.heap [] := va_S.rf
  have hl : lv_has ls 6 [(0, .ref (ad 21)), (1, .ref (ad 1)), (2, .int a2), (3, .int a3), (4, .int a4)] := hl
  refine lv_aload_n hx hb dX6_unitsOf_0 rfl (lv_at hl 0 rfl) ?_
  refine lv_iload_n hx hb dX6_unitsOf_1 rfl (lv_at hl 3 rfl) ?_
  refine lv_iload hx hb dX6_unitsOf_2 (lv_at hl 4 rfl) ?_
  refine z_cq hW hS hA (va_runV (As := [.int a3, .int a4]) (rest := []) ⟨hx, hb, hml, hown, hts⟩ (sx_X6_ordersOf l G ad c I (by show 0 ≤ (I 21 2).toInt ∧ (I 21 2).toInt ≤ 12; exact hO) a3 a4 _) (cwV 2 hts gX6_unitsOf_X6_ordersOf rfl rfl rfl hy_X6_ordersOf ⟨Nat.le_of_ble_eq_true rfl, Nat.le_of_ble_eq_true rfl⟩) (z_preV (i := 21) hK hW rfl rfl) rfl rfl hl.1 rfl (lv_room (Nat.le_of_ble_eq_true rfl)) dX6_unitsOf_4 ⟨Nat.le_of_ble_eq_true rfl, Nat.le_of_ble_eq_true rfl⟩) (fun r u1 H locs hp hW hS => ?_)
  obtain ⟨e9, hp⟩ := hp
  rw [e9] at hW
  rcases hp with rfl | ⟨k1, hk1, rfl⟩
  · refine W.eq (g2 := F0 m 7 ls (.null :: [])) rfl ?_
    refine lv_astoreN (lv' := [(5, .null), (0, .ref (ad 21)), (1, .ref (ad 1)), (2, .int a2), (3, .int a3), (4, .int a4)]) hx hb dX6_unitsOf_7 hl (by decide) rfl (fun ls hl => ?_)
    refine lv_aloadN hx hb dX6_unitsOf_9 (lv_at hl 0 rfl) ?_
    refine lv_ifnullN (tgt := 22) hx hb dX6_unitsOf_11 (by decide) ?_
    refine lv_iconst (v := 0) hx hb dX6_unitsOf_22 (by decide) ?_
    exact z_iret hx hb hr hK hS (Nat.le_of_ble_eq_true rfl) (Nat.le_of_ble_eq_true rfl) hlocks dX6_unitsOf_23 (shC c, ad, I, JX, PC c ad) hW ⟨I, rfl, (by show 0 ≤ (I 21 2).toInt ∧ (I 21 2).toInt ≤ 12; exact hO), ⟨(by show 0 ≤ (I 1 5).toInt ∧ (I 1 5).toInt ≤ 30; exact hH.1), (by show 0 ≤ (I 1 11).toInt ∧ (I 1 11).toInt ≤ 200; exact hH.2)⟩, z_fr_0⟩
  · refine W.eq (g2 := F0 m 7 ls (.ref (ad (200 + 5 * k1)) :: [])) rfl ?_
    refine lv_astore (lv' := [(5, .ref (ad (200 + 5 * k1))), (0, .ref (ad 21)), (1, .ref (ad 1)), (2, .int a2), (3, .int a3), (4, .int a4)]) hx hb dX6_unitsOf_7 hl (by decide) rfl (fun ls hl => ?_)
    refine lv_aload hx hb dX6_unitsOf_9 (lv_at hl 0 rfl) ?_
    refine lv_ifnull hx hb dX6_unitsOf_11 ?_
    refine lv_aload_n hx hb dX6_unitsOf_14 rfl (lv_at hl 2 rfl) ?_
    refine lv_iload_n hx hb dX6_unitsOf_15 rfl (lv_at hl 3 rfl) ?_
    refine z_ci hW hS hA (va_runV (As := [.int a2]) (rest := []) ⟨hx, hb, hml, hown, hts⟩ (sx_X2_has l G ad c I ⟨(by show 0 ≤ (I 1 5).toInt ∧ (I 1 5).toInt ≤ 30; exact hH.1), (by show 0 ≤ (I 1 11).toInt ∧ (I 1 11).toInt ≤ 200; exact hH.2)⟩ a2 _) (cwV 1 hts gX6_unitsOf_X2_has rfl rfl rfl hy_X2_has ⟨Nat.le_of_ble_eq_true rfl, Nat.le_of_ble_eq_true rfl⟩) (z_preV (i := 1) hK hW rfl rfl) rfl rfl hl.1 rfl (lv_room (Nat.le_of_ble_eq_true rfl)) dX6_unitsOf_16 ⟨Nat.le_of_ble_eq_true rfl, Nat.le_of_ble_eq_true rfl⟩) (fun r u1 H locs hp hW hS => ?_)
    obtain ⟨e9, hp⟩ := hp
    rw [e9] at hW
    rcases hp with ⟨rfl, h2, h3⟩ | rfl
    · refine lv_if_ne (tgt := 24) hx hb dX6_unitsOf_19 (by decide) (fun c4 => ?_) (fun c4 => absurd c4 (by decide))
      refine lv_aload_n hx hb dX6_unitsOf_24 rfl (lv_at hl 1 rfl) ?_
      refine lv_aload_n hx hb dX6_unitsOf_25 rfl (lv_at hl 2 rfl) ?_
      refine lv_iload_n hx hb dX6_unitsOf_26 rfl (lv_at hl 3 rfl) ?_
      refine lv_iload_n hx hb dX6_unitsOf_27 rfl (lv_at hl 4 rfl) ?_
      refine lv_bipush (v := 30) hx hb dX6_unitsOf_28 (by decide) ?_
      refine lv_imul hx hb dX6_unitsOf_30 ?_
      refine lv_topi (fun x5 ex5 => ?_)
      refine lv_iload hx hb dX6_unitsOf_31 (lv_at hl 5 rfl) ?_
      refine z_cv hW hS hA (va_runV (As := [.ref (ad 1), .int a2, .int x5, .int a4]) (rest := []) ⟨hx, hb, hml, hown, hts⟩ (sx_X6_putHolder l G ad c I ⟨(by show 0 ≤ (I 1 5).toInt ∧ (I 1 5).toInt ≤ 30; exact hH.1), (by show 0 ≤ (I 1 11).toInt ∧ (I 1 11).toInt ≤ 200; exact hH.2)⟩ a2 x5 a4 _) (cwV 4 hts gX6_unitsOf_X6_putHolder rfl rfl rfl hy_X6_putHolder ⟨Nat.le_of_ble_eq_true rfl, Nat.le_of_ble_eq_true rfl⟩) (z_preV (i := 21) hK hW rfl rfl) rfl rfl hl.1 rfl (lv_room (Nat.le_of_ble_eq_true rfl)) dX6_unitsOf_33 ⟨Nat.le_of_ble_eq_true rfl, Nat.le_of_ble_eq_true rfl⟩) (fun u1 H locs hp hW hS => ?_)
      obtain ⟨I6, e9, hI6H, fI6⟩ := hp
      rw [e9] at hW
      have f7 := z_fr_sub (L := L_X6_unitsOf) z_fr_0 fI6 (by decide)
      have k8 : 0 ≤ (I6 21 2).toInt ∧ (I6 21 2).toInt ≤ 12 := by rw [fI6 21 2 (by decide)]; exact (by show 0 ≤ (I 21 2).toInt ∧ (I 21 2).toInt ≤ 12; exact hO)
      refine lv_aload_n hx hb dX6_unitsOf_36 rfl (lv_at hl 1 rfl) ?_
      refine lv_iconst (v := 0) hx hb dX6_unitsOf_37 (by decide) ?_
      refine lv_iconst (v := 0) hx hb dX6_unitsOf_38 (by decide) ?_
      refine lv_iconst (v := 0) hx hb dX6_unitsOf_39 (by decide) ?_
      refine z_cv hW hS hA (va_runV (As := [.int 0, .int 0, .int 0]) (rest := []) ⟨hx, hb, hml, hown, hts⟩ (sx_X6_putJourney l G ad c I6  0 0 0 _) (cwV 3 hts gX6_unitsOf_X6_putJourney rfl rfl rfl hy_X6_putJourney ⟨Nat.le_of_ble_eq_true rfl, Nat.le_of_ble_eq_true rfl⟩) (z_preV (i := 21) hK hW rfl rfl) rfl rfl hl.1 rfl (lv_room (Nat.le_of_ble_eq_true rfl)) dX6_unitsOf_40 ⟨Nat.le_of_ble_eq_true rfl, Nat.le_of_ble_eq_true rfl⟩) (fun u1 H locs hp hW hS => ?_)
      obtain ⟨I9, e9, fI9⟩ := hp
      rw [e9] at hW
      have f10 := z_fr_sub (L := L_X6_unitsOf) f7 fI9 (by decide)
      have k11 : 0 ≤ (I9 21 2).toInt ∧ (I9 21 2).toInt ≤ 12 := by rw [fI9 21 2 (by decide)]; exact (by show 0 ≤ (I6 21 2).toInt ∧ (I6 21 2).toInt ≤ 12; exact k8)
      have k12 : 0 ≤ (I9 1 5).toInt ∧ (I9 1 5).toInt ≤ 30 := by rw [fI9 1 5 (by decide)]; exact (by show 0 ≤ (I6 1 5).toInt ∧ (I6 1 5).toInt ≤ 30; exact hI6H.1)
      have k13 : 0 ≤ (I9 1 11).toInt ∧ (I9 1 11).toInt ≤ 200 := by rw [fI9 1 11 (by decide)]; exact (by show 0 ≤ (I6 1 11).toInt ∧ (I6 1 11).toInt ≤ 200; exact hI6H.2)
      refine lv_aload hx hb dX6_unitsOf_43 (lv_at hl 0 rfl) ?_
      refine lv_aload_n hx hb dX6_unitsOf_45 rfl (lv_at hl 1 rfl) ?_
      refine z_get (T := TX6) (N := 3) (ci := 6) (i := 21) (v := .ref (ad 23)) hx hb hts zj_X6_unitsOf_X6 hown hK hW rfl rfl 1 (by decide) (hts (.fieldLink RX6 20 "PetrolBoard$OrderBook" "machine" "LPetrolBoard$Machine;") (me_s (me_l (me_l (me_l (me_l (me_l (List.mem_of_getElem? (i := 0) rfl)))))))) (fun _ h => h) rfl dX6_unitsOf_46 ?_
      refine z_ci hW hS hA (va_runV (As := [.ref (ad 23)]) (rest := []) ⟨hx, hb, hml, hown, hts⟩ (sx_X7_stops l G ad c I9  k1  hk1 hc _) (cwV 1 hts gX6_unitsOf_X7_stops rfl rfl rfl hy_X7_stops ⟨Nat.le_of_ble_eq_true rfl, Nat.le_of_ble_eq_true rfl⟩) (z_preV (i := (200 + 5 * k1)) hK hW (z_so0 hk1) rfl) rfl rfl hl.1 rfl (lv_room (Nat.le_of_ble_eq_true rfl)) dX6_unitsOf_49 ⟨Nat.le_of_ble_eq_true rfl, Nat.le_of_ble_eq_true rfl⟩) (fun r u1 H locs hp hW hS => ?_)
      obtain ⟨I14, e9, fI14, hp⟩ := hp
      rw [e9] at hW
      have f15 := z_fr_sub (L := L_X6_unitsOf) f10 fI14 (by decide)
      have k16 : 0 ≤ (I14 21 2).toInt ∧ (I14 21 2).toInt ≤ 12 := by rw [fI14 21 2 (by decide)]; exact (by show 0 ≤ (I9 21 2).toInt ∧ (I9 21 2).toInt ≤ 12; exact k11)
      have k17 : 0 ≤ (I14 1 5).toInt ∧ (I14 1 5).toInt ≤ 30 := by rw [fI14 1 5 (by decide)]; exact (by show 0 ≤ (I9 1 5).toInt ∧ (I9 1 5).toInt ≤ 30; exact k12)
      have k18 : 0 ≤ (I14 1 11).toInt ∧ (I14 1 11).toInt ≤ 200 := by rw [fI14 1 11 (by decide)]; exact (by show 0 ≤ (I9 1 11).toInt ∧ (I9 1 11).toInt ≤ 200; exact k13)
      rcases hp with rfl | rfl
      · refine lv_if_eq (tgt := 59) hx hb dX6_unitsOf_52 (by decide) (fun c19 => absurd c19 (by decide)) (fun c19 => ?_)
        refine lv_iconst (v := 0) hx hb dX6_unitsOf_55 (by decide) ?_
        refine lv_goto (tgt := 71) hx hb dX6_unitsOf_56 (by decide) ?_
        exact z_iret hx hb hr hK hS (Nat.le_of_ble_eq_true rfl) (Nat.le_of_ble_eq_true rfl) hlocks dX6_unitsOf_71 (shC c, ad, I14, JX, PC c ad) hW ⟨I14, rfl, (by show 0 ≤ (I14 21 2).toInt ∧ (I14 21 2).toInt ≤ 12; exact k16), ⟨(by show 0 ≤ (I14 1 5).toInt ∧ (I14 1 5).toInt ≤ 30; exact k17), (by show 0 ≤ (I14 1 11).toInt ∧ (I14 1 11).toInt ≤ 200; exact k18)⟩, f15⟩
      · refine lv_if_eq (tgt := 59) hx hb dX6_unitsOf_52 (by decide) (fun c20 => ?_) (fun c20 => absurd (by decide) c20)
        refine lv_aload hx hb dX6_unitsOf_59 (lv_at hl 0 rfl) ?_
        refine lv_sipush (v := 300) hx hb dX6_unitsOf_61 (by decide) ?_
        refine lv_aload_n hx hb dX6_unitsOf_64 rfl (lv_at hl 1 rfl) ?_
        refine z_get (T := TX6) (N := 3) (ci := 6) (i := 21) (v := .ref (ad 23)) hx hb hts zj_X6_unitsOf_X6 hown hK hW rfl rfl 1 (by decide) (hts (.fieldLink RX6 20 "PetrolBoard$OrderBook" "machine" "LPetrolBoard$Machine;") (me_s (me_l (me_l (me_l (me_l (me_l (List.mem_of_getElem? (i := 0) rfl)))))))) (fun _ h => h) rfl dX6_unitsOf_65 ?_
        refine z_ci hW hS hA (va_runV (As := [.int 300, .ref (ad 23)]) (rest := []) ⟨hx, hb, hml, hown, hts⟩ (sx_X7_dealt l G ad c I14  k1 300 hk1 hc _) (cwV 2 hts gX6_unitsOf_X7_dealt rfl rfl rfl hy_X7_dealt ⟨Nat.le_of_ble_eq_true rfl, Nat.le_of_ble_eq_true rfl⟩) (z_preV (i := (200 + 5 * k1)) hK hW (z_so0 hk1) rfl) rfl rfl hl.1 rfl (lv_room (Nat.le_of_ble_eq_true rfl)) dX6_unitsOf_68 ⟨Nat.le_of_ble_eq_true rfl, Nat.le_of_ble_eq_true rfl⟩) (fun r u1 H locs hp hW hS => ?_)
        obtain ⟨I21, e9, fI21⟩ := hp
        rw [e9] at hW
        have f22 := z_fr_sub (L := L_X6_unitsOf) f15 fI21 (by decide)
        have k23 : 0 ≤ (I21 21 2).toInt ∧ (I21 21 2).toInt ≤ 12 := by rw [fI21 21 2 (by decide)]; exact (by show 0 ≤ (I14 21 2).toInt ∧ (I14 21 2).toInt ≤ 12; exact k16)
        have k24 : 0 ≤ (I21 1 5).toInt ∧ (I21 1 5).toInt ≤ 30 := by rw [fI21 1 5 (by decide)]; exact (by show 0 ≤ (I14 1 5).toInt ∧ (I14 1 5).toInt ≤ 30; exact k17)
        have k25 : 0 ≤ (I21 1 11).toInt ∧ (I21 1 11).toInt ≤ 200 := by rw [fI21 1 11 (by decide)]; exact (by show 0 ≤ (I14 1 11).toInt ∧ (I14 1 11).toInt ≤ 200; exact k18)
        refine lv_topi (fun x26 ex26 => ?_)
        exact z_iret hx hb hr hK hS (Nat.le_of_ble_eq_true rfl) (Nat.le_of_ble_eq_true rfl) hlocks dX6_unitsOf_71 (shC c, ad, I21, JX, PC c ad) hW ⟨I21, rfl, (by show 0 ≤ (I21 21 2).toInt ∧ (I21 21 2).toInt ≤ 12; exact k23), ⟨(by show 0 ≤ (I21 1 5).toInt ∧ (I21 1 5).toInt ≤ 30; exact k24), (by show 0 ≤ (I21 1 11).toInt ∧ (I21 1 11).toInt ≤ 200; exact k25)⟩, f22⟩
    · refine lv_if_ne (tgt := 24) hx hb dX6_unitsOf_19 (by decide) (fun c27 => absurd (by decide) c27) (fun c27 => ?_)
      refine lv_iconst (v := 0) hx hb dX6_unitsOf_22 (by decide) ?_
      exact z_iret hx hb hr hK hS (Nat.le_of_ble_eq_true rfl) (Nat.le_of_ble_eq_true rfl) hlocks dX6_unitsOf_23 (shC c, ad, I, JX, PC c ad) hW ⟨I, rfl, (by show 0 ≤ (I 21 2).toInt ∧ (I 21 2).toInt ≤ 12; exact hO), ⟨(by show 0 ≤ (I 1 5).toInt ∧ (I 1 5).toInt ≤ 30; exact hH.1), (by show 0 ≤ (I 1 11).toInt ∧ (I 1 11).toInt ≤ 200; exact hH.2)⟩, z_fr_0⟩
noncomputable def L_X6_grant : z_L := [(24, 999), (25, 999)]
theorem zj_X6_grant_X3 : ∀ w ∈ wsX30, w ∈ wsX6_grant := fun w h => (List.mem_cons_of_mem _ (List.mem_append_left _ (List.mem_append_left _ (List.mem_append_left _ (List.mem_append_left _ (List.mem_append_right _ h))))))
theorem zj_X6_grant_X6 : ∀ w ∈ wsX60, w ∈ wsX6_grant := fun w h => (List.mem_cons_of_mem _ (List.mem_append_left _ (List.mem_append_left _ (List.mem_append_left _ (List.mem_append_right _ h)))))
set_option maxHeartbeats 8000000 in
set_option maxRecDepth 100000 in
theorem sx_X6_grant (l : Launch) (G : z_G) (ad : Nat → Nat) (c : z_C) (I : z_I) (hO : z_iO I) (hH : z_iH I) (hJ : z_iJ I) (a3 : Int32) (hc : z_okc c) : z_M l yX6_grant wsX6_grant { frames := 5, cells := 0, slots := 0, locals := 135 } [.ref (ad 21), .ref (ad 1), .ref (ad 60), .int a3] G (shC c, ad, I, JX, PC c ad) (fun r u1 => ∃ I1 : z_I, u1 = (shC c, ad, I1, JX, PC c ad) ∧ z_iO I1 ∧ z_iH I1 ∧ z_iJ I1 ∧ z_fr L_X6_grant I1 I) 0 0 := by
  intro sz
  refine z_headQ (cc := cX6_grant) (maxL := 6) (ret := (some .int)) (by decide) rfl (Nat.le_of_ble_eq_true rfl) ?_
  intro p e s m below meth c0 ls hIn hK hsz hW hl
  obtain ⟨hx, hb, hr, hml, hown, hts, hlocks, hname⟩ := hIn
  subst hsz
  have hown : s.vm.findClass RX6 = some m.cls := hown
  have hA : ∀ q : Nat, s.heap.size ≤ q → z_A (shC c, ad, I, JX, PC c ad) s.heap.size q := fun q h => Or.inr h
  generalize hAe : z_A (shC c, ad, I, JX, PC c ad) s.heap.size = A at *
  have hS : va_S A s.heap s.heap [] := va_S.rf
  have hl : lv_has ls 6 [(0, .ref (ad 21)), (1, .ref (ad 1)), (2, .ref (ad 60)), (3, .int a3)] := hl
  refine lv_aload_n hx hb dX6_grant_0 rfl (lv_at hl 2 rfl) ?_
  refine lv_iload_n hx hb dX6_grant_1 rfl (lv_at hl 3 rfl) ?_
  refine z_ci hW hS hA (va_runV (As := [.int a3]) (rest := []) ⟨hx, hb, hml, hown, hts⟩ (sx_X3_has l G ad c I ⟨(by show 0 ≤ (I 60 9).toInt ∧ (I 60 9).toInt ≤ 60; exact hJ.1), (by show 0 ≤ (I 60 12).toInt ∧ (I 60 12).toInt ≤ 12; exact hJ.2)⟩ a3 _) (cwV 1 hts gX6_grant_X3_has rfl rfl rfl hy_X3_has ⟨Nat.le_of_ble_eq_true rfl, Nat.le_of_ble_eq_true rfl⟩) (z_preV (i := 60) hK hW rfl rfl) rfl rfl hl.1 rfl (lv_room (Nat.le_of_ble_eq_true rfl)) dX6_grant_2 ⟨Nat.le_of_ble_eq_true rfl, Nat.le_of_ble_eq_true rfl⟩) (fun r u1 H locs hp hW hS => ?_)
  obtain ⟨e9, hp⟩ := hp
  rw [e9] at hW
  rcases hp with ⟨rfl, h1, h2⟩ | rfl
  · refine lv_if_ne (tgt := 10) hx hb dX6_grant_5 (by decide) (fun c3 => ?_) (fun c3 => absurd c3 (by decide))
    refine lv_aload_n hx hb dX6_grant_10 rfl (lv_at hl 2 rfl) ?_
    refine z_get (T := TX3) (N := 17) (ci := 3) (i := 60) (v := .ref (ad 67)) hx hb hts zj_X6_grant_X3 hown hK hW rfl rfl 6 (by decide) (hts (.fieldLink RX6 74 "PetrolBoard$Journeys" "asked" "[I") (me_s (me_l (me_l (me_l (me_l (me_l (me_l (List.mem_of_getElem? (i := 0) rfl))))))))) (fun _ h => h) rfl dX6_grant_11 ?_
    refine lv_iload_n hx hb dX6_grant_14 rfl (lv_at hl 3 rfl) ?_
    refine z_iald (i := 67) hx hb hK hW rfl (z_ix rfl (by omega) (by omega)) dX6_grant_15 ?_
    refine lv_topi (fun x4 ex4 => ?_)
    refine lv_istore (lv' := [(4, .int x4), (0, .ref (ad 21)), (1, .ref (ad 1)), (2, .ref (ad 60)), (3, .int a3)]) hx hb dX6_grant_16 hl (by decide) rfl (fun ls hl => ?_)
    refine lv_aload_n hx hb dX6_grant_18 rfl (lv_at hl 1 rfl) ?_
    refine lv_aload_n hx hb dX6_grant_19 rfl (lv_at hl 3 rfl) ?_
    refine z_get (T := TX3) (N := 17) (ci := 3) (i := 60) (v := .ref (ad 65)) hx hb hts zj_X6_grant_X3 hown hK hW rfl rfl 4 (by decide) (hts (.fieldLink RX6 78 "PetrolBoard$Journeys" "day" "[I") (me_s (me_l (me_l (me_l (me_l (me_l (me_l (List.mem_of_getElem? (i := 1) rfl))))))))) (fun _ h => h) rfl dX6_grant_20 ?_
    refine lv_iload_n hx hb dX6_grant_23 rfl (lv_at hl 4 rfl) ?_
    refine z_iald (i := 65) hx hb hK hW rfl (z_ix rfl (by omega) (by omega)) dX6_grant_24 ?_
    refine lv_topi (fun x5 ex5 => ?_)
    refine lv_bipush (v := 30) hx hb dX6_grant_25 (by decide) ?_
    refine lv_idiv hx hb dX6_grant_27 (by decide) ?_
    refine lv_topi (fun x6 ex6 => ?_)
    have tx6 := z_tdiv ex6 rfl z_l30 (by decide)
    refine lv_iload hx hb dX6_grant_28 (lv_at hl 0 rfl) ?_
    refine z_cq hW hS hA (va_runV (As := [.int x6, .int x4]) (rest := []) ⟨hx, hb, hml, hown, hts⟩ (sx_X6_ordersOf l G ad c I (by show 0 ≤ (I 21 2).toInt ∧ (I 21 2).toInt ≤ 12; exact hO) x6 x4 _) (cwV 2 hts gX6_grant_X6_ordersOf rfl rfl rfl hy_X6_ordersOf ⟨Nat.le_of_ble_eq_true rfl, Nat.le_of_ble_eq_true rfl⟩) (z_preV (i := 21) hK hW rfl rfl) rfl rfl hl.1 rfl (lv_room (Nat.le_of_ble_eq_true rfl)) dX6_grant_30 ⟨Nat.le_of_ble_eq_true rfl, Nat.le_of_ble_eq_true rfl⟩) (fun r u1 H locs hp hW hS => ?_)
    obtain ⟨e9, hp⟩ := hp
    rw [e9] at hW
    rcases hp with rfl | ⟨k7, hk7, rfl⟩
    · refine W.eq (g2 := F0 m 33 ls (.null :: [])) rfl ?_
      refine lv_astoreN (lv' := [(5, .null), (4, .int x4), (0, .ref (ad 21)), (1, .ref (ad 1)), (2, .ref (ad 60)), (3, .int a3)]) hx hb dX6_grant_33 hl (by decide) rfl (fun ls hl => ?_)
      refine lv_aloadN hx hb dX6_grant_35 (lv_at hl 0 rfl) ?_
      refine lv_ifnullN (tgt := 53) hx hb dX6_grant_37 (by decide) ?_
      refine lv_iconst (v := 0) hx hb dX6_grant_53 (by decide) ?_
      exact z_iret hx hb hr hK hS (Nat.le_of_ble_eq_true rfl) (Nat.le_of_ble_eq_true rfl) hlocks dX6_grant_54 (shC c, ad, I, JX, PC c ad) hW ⟨I, rfl, (by show 0 ≤ (I 21 2).toInt ∧ (I 21 2).toInt ≤ 12; exact hO), ⟨(by show 0 ≤ (I 1 5).toInt ∧ (I 1 5).toInt ≤ 30; exact hH.1), (by show 0 ≤ (I 1 11).toInt ∧ (I 1 11).toInt ≤ 200; exact hH.2)⟩, ⟨(by show 0 ≤ (I 60 9).toInt ∧ (I 60 9).toInt ≤ 60; exact hJ.1), (by show 0 ≤ (I 60 12).toInt ∧ (I 60 12).toInt ≤ 12; exact hJ.2)⟩, z_fr_0⟩
    · refine W.eq (g2 := F0 m 33 ls (.ref (ad (200 + 5 * k7)) :: [])) rfl ?_
      refine lv_astore (lv' := [(5, .ref (ad (200 + 5 * k7))), (4, .int x4), (0, .ref (ad 21)), (1, .ref (ad 1)), (2, .ref (ad 60)), (3, .int a3)]) hx hb dX6_grant_33 hl (by decide) rfl (fun ls hl => ?_)
      refine lv_aload hx hb dX6_grant_35 (lv_at hl 0 rfl) ?_
      refine lv_ifnull hx hb dX6_grant_37 ?_
      refine lv_aload_n hx hb dX6_grant_40 rfl (lv_at hl 3 rfl) ?_
      refine lv_aload_n hx hb dX6_grant_41 rfl (lv_at hl 4 rfl) ?_
      refine z_get (T := TX3) (N := 17) (ci := 3) (i := 60) (v := .ref (ad 61)) hx hb hts zj_X6_grant_X3 hown hK hW rfl rfl 0 (by decide) (hts (.fieldLink RX6 81 "PetrolBoard$Journeys" "holder" "[I") (me_s (me_l (me_l (me_l (me_l (me_l (me_l (List.mem_of_getElem? (i := 2) rfl))))))))) (fun _ h => h) rfl dX6_grant_42 ?_
      refine lv_iload_n hx hb dX6_grant_45 rfl (lv_at hl 5 rfl) ?_
      refine z_iald (i := 61) hx hb hK hW rfl (z_ix rfl (by omega) (by omega)) dX6_grant_46 ?_
      refine lv_topi (fun x8 ex8 => ?_)
      refine z_ci hW hS hA (va_runV (As := [.int x8]) (rest := []) ⟨hx, hb, hml, hown, hts⟩ (sx_X2_has l G ad c I ⟨(by show 0 ≤ (I 1 5).toInt ∧ (I 1 5).toInt ≤ 30; exact hH.1), (by show 0 ≤ (I 1 11).toInt ∧ (I 1 11).toInt ≤ 200; exact hH.2)⟩ x8 _) (cwV 1 hts gX6_grant_X2_has rfl rfl rfl hy_X2_has ⟨Nat.le_of_ble_eq_true rfl, Nat.le_of_ble_eq_true rfl⟩) (z_preV (i := 1) hK hW rfl rfl) rfl rfl hl.1 rfl (lv_room (Nat.le_of_ble_eq_true rfl)) dX6_grant_47 ⟨Nat.le_of_ble_eq_true rfl, Nat.le_of_ble_eq_true rfl⟩) (fun r u1 H locs hp hW hS => ?_)
      obtain ⟨e9, hp⟩ := hp
      rw [e9] at hW
      rcases hp with ⟨rfl, h9, h10⟩ | rfl
      · refine lv_if_ne (tgt := 55) hx hb dX6_grant_50 (by decide) (fun c11 => ?_) (fun c11 => absurd c11 (by decide))
        refine lv_aload_n hx hb dX6_grant_55 rfl (lv_at hl 2 rfl) ?_
        refine lv_aload_n hx hb dX6_grant_56 rfl (lv_at hl 3 rfl) ?_
        refine lv_aload_n hx hb dX6_grant_57 rfl (lv_at hl 4 rfl) ?_
        refine z_get (T := TX3) (N := 17) (ci := 3) (i := 60) (v := .ref (ad 61)) hx hb hts zj_X6_grant_X3 hown hK hW rfl rfl 0 (by decide) (hts (.fieldLink RX6 81 "PetrolBoard$Journeys" "holder" "[I") (me_s (me_l (me_l (me_l (me_l (me_l (me_l (List.mem_of_getElem? (i := 2) rfl))))))))) (fun _ h => h) rfl dX6_grant_58 ?_
        refine lv_iload_n hx hb dX6_grant_61 rfl (lv_at hl 5 rfl) ?_
        refine z_iald (i := 61) hx hb hK hW rfl (z_ix rfl (by omega) (by omega)) dX6_grant_62 ?_
        refine z_topi (v := x8) ex8.symm ?_
        refine lv_aload_n hx hb dX6_grant_63 rfl (lv_at hl 4 rfl) ?_
        refine z_get (T := TX3) (N := 17) (ci := 3) (i := 60) (v := .ref (ad 65)) hx hb hts zj_X6_grant_X3 hown hK hW rfl rfl 4 (by decide) (hts (.fieldLink RX6 78 "PetrolBoard$Journeys" "day" "[I") (me_s (me_l (me_l (me_l (me_l (me_l (me_l (List.mem_of_getElem? (i := 1) rfl))))))))) (fun _ h => h) rfl dX6_grant_64 ?_
        refine lv_iload_n hx hb dX6_grant_67 rfl (lv_at hl 5 rfl) ?_
        refine z_iald (i := 65) hx hb hK hW rfl (z_ix rfl (by omega) (by omega)) dX6_grant_68 ?_
        refine z_topi (v := x5) ex5.symm ?_
        refine lv_iload hx hb dX6_grant_69 (lv_at hl 1 rfl) ?_
        refine z_cv hW hS hA (va_runV (As := [.ref (ad 1), .int x8, .int x5, .int x4]) (rest := []) ⟨hx, hb, hml, hown, hts⟩ (sx_X6_putHolder l G ad c I ⟨(by show 0 ≤ (I 1 5).toInt ∧ (I 1 5).toInt ≤ 30; exact hH.1), (by show 0 ≤ (I 1 11).toInt ∧ (I 1 11).toInt ≤ 200; exact hH.2)⟩ x8 x5 x4 _) (cwV 4 hts gX6_grant_X6_putHolder rfl rfl rfl hy_X6_putHolder ⟨Nat.le_of_ble_eq_true rfl, Nat.le_of_ble_eq_true rfl⟩) (z_preV (i := 21) hK hW rfl rfl) rfl rfl hl.1 rfl (lv_room (Nat.le_of_ble_eq_true rfl)) dX6_grant_71 ⟨Nat.le_of_ble_eq_true rfl, Nat.le_of_ble_eq_true rfl⟩) (fun u1 H locs hp hW hS => ?_)
        obtain ⟨I12, e9, hI12H, fI12⟩ := hp
        rw [e9] at hW
        have f13 := z_fr_sub (L := L_X6_grant) z_fr_0 fI12 (by decide)
        have k14 : 0 ≤ (I12 21 2).toInt ∧ (I12 21 2).toInt ≤ 12 := by rw [fI12 21 2 (by decide)]; exact (by show 0 ≤ (I 21 2).toInt ∧ (I 21 2).toInt ≤ 12; exact hO)
        have k15 : 0 ≤ (I12 60 9).toInt ∧ (I12 60 9).toInt ≤ 60 := by rw [fI12 60 9 (by decide)]; exact (by show 0 ≤ (I 60 9).toInt ∧ (I 60 9).toInt ≤ 60; exact hJ.1)
        have k16 : 0 ≤ (I12 60 12).toInt ∧ (I12 60 12).toInt ≤ 12 := by rw [fI12 60 12 (by decide)]; exact (by show 0 ≤ (I 60 12).toInt ∧ (I 60 12).toInt ≤ 12; exact hJ.2)
        refine lv_aload_n hx hb dX6_grant_74 rfl (lv_at hl 2 rfl) ?_
        refine lv_aload_n hx hb dX6_grant_75 rfl (lv_at hl 4 rfl) ?_
        refine z_get (T := TX3) (N := 17) (ci := 3) (i := 60) (v := .ref (ad 62)) hx hb hts zj_X6_grant_X3 hown hK hW rfl rfl 1 (by decide) (hts (.fieldLink RX6 84 "PetrolBoard$Journeys" "miles" "[I") (me_s (me_l (me_l (me_l (me_l (me_l (me_l (List.mem_of_getElem? (i := 3) rfl))))))))) (fun _ h => h) rfl dX6_grant_76 ?_
        refine lv_iload_n hx hb dX6_grant_79 rfl (lv_at hl 5 rfl) ?_
        refine z_iald (i := 62) hx hb hK hW rfl (z_ix rfl (by omega) (by omega)) dX6_grant_80 ?_
        refine lv_topi (fun x17 ex17 => ?_)
        refine lv_aload_n hx hb dX6_grant_81 rfl (lv_at hl 4 rfl) ?_
        refine z_get (T := TX3) (N := 17) (ci := 3) (i := 60) (v := .ref (ad 63)) hx hb hts zj_X6_grant_X3 hown hK hW rfl rfl 2 (by decide) (hts (.fieldLink RX6 87 "PetrolBoard$Journeys" "people" "[I") (me_s (me_l (me_l (me_l (me_l (me_l (me_l (List.mem_of_getElem? (i := 4) rfl))))))))) (fun _ h => h) rfl dX6_grant_82 ?_
        refine lv_iload_n hx hb dX6_grant_85 rfl (lv_at hl 5 rfl) ?_
        refine z_iald (i := 63) hx hb hK hW rfl (z_ix rfl (by omega) (by omega)) dX6_grant_86 ?_
        refine lv_topi (fun x18 ex18 => ?_)
        refine lv_aload_n hx hb dX6_grant_87 rfl (lv_at hl 4 rfl) ?_
        refine z_get (T := TX3) (N := 17) (ci := 3) (i := 60) (v := .ref (ad 64)) hx hb hts zj_X6_grant_X3 hown hK hW rfl rfl 3 (by decide) (hts (.fieldLink RX6 90 "PetrolBoard$Journeys" "reason" "[I") (me_s (me_l (me_l (me_l (me_l (me_l (me_l (List.mem_of_getElem? (i := 5) rfl))))))))) (fun _ h => h) rfl dX6_grant_88 ?_
        refine lv_iload_n hx hb dX6_grant_91 rfl (lv_at hl 5 rfl) ?_
        refine z_iald (i := 64) hx hb hK hW rfl (z_ix rfl (by omega) (by omega)) dX6_grant_92 ?_
        refine lv_topi (fun x19 ex19 => ?_)
        refine z_cv hW hS hA (va_runV (As := [.int x17, .int x18, .int x19]) (rest := []) ⟨hx, hb, hml, hown, hts⟩ (sx_X6_putJourney l G ad c I12  x17 x18 x19 _) (cwV 3 hts gX6_grant_X6_putJourney rfl rfl rfl hy_X6_putJourney ⟨Nat.le_of_ble_eq_true rfl, Nat.le_of_ble_eq_true rfl⟩) (z_preV (i := 21) hK hW rfl rfl) rfl rfl hl.1 rfl (lv_room (Nat.le_of_ble_eq_true rfl)) dX6_grant_93 ⟨Nat.le_of_ble_eq_true rfl, Nat.le_of_ble_eq_true rfl⟩) (fun u1 H locs hp hW hS => ?_)
        obtain ⟨I20, e9, fI20⟩ := hp
        rw [e9] at hW
        have f21 := z_fr_sub (L := L_X6_grant) f13 fI20 (by decide)
        have k22 : 0 ≤ (I20 21 2).toInt ∧ (I20 21 2).toInt ≤ 12 := by rw [fI20 21 2 (by decide)]; exact (by show 0 ≤ (I12 21 2).toInt ∧ (I12 21 2).toInt ≤ 12; exact k14)
        have k23 : 0 ≤ (I20 1 5).toInt ∧ (I20 1 5).toInt ≤ 30 := by rw [fI20 1 5 (by decide)]; exact (by show 0 ≤ (I12 1 5).toInt ∧ (I12 1 5).toInt ≤ 30; exact hI12H.1)
        have k24 : 0 ≤ (I20 1 11).toInt ∧ (I20 1 11).toInt ≤ 200 := by rw [fI20 1 11 (by decide)]; exact (by show 0 ≤ (I12 1 11).toInt ∧ (I12 1 11).toInt ≤ 200; exact hI12H.2)
        have k25 : 0 ≤ (I20 60 9).toInt ∧ (I20 60 9).toInt ≤ 60 := by rw [fI20 60 9 (by decide)]; exact (by show 0 ≤ (I12 60 9).toInt ∧ (I12 60 9).toInt ≤ 60; exact k15)
        have k26 : 0 ≤ (I20 60 12).toInt ∧ (I20 60 12).toInt ≤ 12 := by rw [fI20 60 12 (by decide)]; exact (by show 0 ≤ (I12 60 12).toInt ∧ (I12 60 12).toInt ≤ 12; exact k16)
        refine lv_aload hx hb dX6_grant_96 (lv_at hl 0 rfl) ?_
        refine lv_sipush (v := 301) hx hb dX6_grant_98 (by decide) ?_
        refine lv_aload_n hx hb dX6_grant_101 rfl (lv_at hl 2 rfl) ?_
        refine z_get (T := TX6) (N := 3) (ci := 6) (i := 21) (v := .ref (ad 23)) hx hb hts zj_X6_grant_X6 hown hK hW rfl rfl 1 (by decide) (hts (.fieldLink RX6 20 "PetrolBoard$OrderBook" "machine" "LPetrolBoard$Machine;") (me_s (me_l (me_l (me_l (me_l (me_l (me_l (List.mem_of_getElem? (i := 6) rfl))))))))) (fun _ h => h) rfl dX6_grant_102 ?_
        refine z_ci hW hS hA (va_runV (As := [.int 301, .ref (ad 23)]) (rest := []) ⟨hx, hb, hml, hown, hts⟩ (sx_X7_dealt l G ad c I20  k7 301 hk7 hc _) (cwV 2 hts gX6_grant_X7_dealt rfl rfl rfl hy_X7_dealt ⟨Nat.le_of_ble_eq_true rfl, Nat.le_of_ble_eq_true rfl⟩) (z_preV (i := (200 + 5 * k7)) hK hW (z_so0 hk7) rfl) rfl rfl hl.1 rfl (lv_room (Nat.le_of_ble_eq_true rfl)) dX6_grant_105 ⟨Nat.le_of_ble_eq_true rfl, Nat.le_of_ble_eq_true rfl⟩) (fun r u1 H locs hp hW hS => ?_)
        obtain ⟨I27, e9, fI27⟩ := hp
        rw [e9] at hW
        have f28 := z_fr_sub (L := L_X6_grant) f21 fI27 (by decide)
        have k29 : 0 ≤ (I27 21 2).toInt ∧ (I27 21 2).toInt ≤ 12 := by rw [fI27 21 2 (by decide)]; exact (by show 0 ≤ (I20 21 2).toInt ∧ (I20 21 2).toInt ≤ 12; exact k22)
        have k30 : 0 ≤ (I27 1 5).toInt ∧ (I27 1 5).toInt ≤ 30 := by rw [fI27 1 5 (by decide)]; exact (by show 0 ≤ (I20 1 5).toInt ∧ (I20 1 5).toInt ≤ 30; exact k23)
        have k31 : 0 ≤ (I27 1 11).toInt ∧ (I27 1 11).toInt ≤ 200 := by rw [fI27 1 11 (by decide)]; exact (by show 0 ≤ (I20 1 11).toInt ∧ (I20 1 11).toInt ≤ 200; exact k24)
        have k32 : 0 ≤ (I27 60 9).toInt ∧ (I27 60 9).toInt ≤ 60 := by rw [fI27 60 9 (by decide)]; exact (by show 0 ≤ (I20 60 9).toInt ∧ (I20 60 9).toInt ≤ 60; exact k25)
        have k33 : 0 ≤ (I27 60 12).toInt ∧ (I27 60 12).toInt ≤ 12 := by rw [fI27 60 12 (by decide)]; exact (by show 0 ≤ (I20 60 12).toInt ∧ (I20 60 12).toInt ≤ 12; exact k26)
        refine lv_topi (fun x34 ex34 => ?_)
        exact z_iret hx hb hr hK hS (Nat.le_of_ble_eq_true rfl) (Nat.le_of_ble_eq_true rfl) hlocks dX6_grant_108 (shC c, ad, I27, JX, PC c ad) hW ⟨I27, rfl, (by show 0 ≤ (I27 21 2).toInt ∧ (I27 21 2).toInt ≤ 12; exact k29), ⟨(by show 0 ≤ (I27 1 5).toInt ∧ (I27 1 5).toInt ≤ 30; exact k30), (by show 0 ≤ (I27 1 11).toInt ∧ (I27 1 11).toInt ≤ 200; exact k31)⟩, ⟨(by show 0 ≤ (I27 60 9).toInt ∧ (I27 60 9).toInt ≤ 60; exact k32), (by show 0 ≤ (I27 60 12).toInt ∧ (I27 60 12).toInt ≤ 12; exact k33)⟩, f28⟩
      · refine lv_if_ne (tgt := 55) hx hb dX6_grant_50 (by decide) (fun c35 => absurd (by decide) c35) (fun c35 => ?_)
        refine lv_iconst (v := 0) hx hb dX6_grant_53 (by decide) ?_
        exact z_iret hx hb hr hK hS (Nat.le_of_ble_eq_true rfl) (Nat.le_of_ble_eq_true rfl) hlocks dX6_grant_54 (shC c, ad, I, JX, PC c ad) hW ⟨I, rfl, (by show 0 ≤ (I 21 2).toInt ∧ (I 21 2).toInt ≤ 12; exact hO), ⟨(by show 0 ≤ (I 1 5).toInt ∧ (I 1 5).toInt ≤ 30; exact hH.1), (by show 0 ≤ (I 1 11).toInt ∧ (I 1 11).toInt ≤ 200; exact hH.2)⟩, ⟨(by show 0 ≤ (I 60 9).toInt ∧ (I 60 9).toInt ≤ 60; exact hJ.1), (by show 0 ≤ (I 60 12).toInt ∧ (I 60 12).toInt ≤ 12; exact hJ.2)⟩, z_fr_0⟩
  · refine lv_if_ne (tgt := 10) hx hb dX6_grant_5 (by decide) (fun c36 => absurd (by decide) c36) (fun c36 => ?_)
    refine lv_iconst (v := 0) hx hb dX6_grant_8 (by decide) ?_
    exact z_iret hx hb hr hK hS (Nat.le_of_ble_eq_true rfl) (Nat.le_of_ble_eq_true rfl) hlocks dX6_grant_9 (shC c, ad, I, JX, PC c ad) hW ⟨I, rfl, (by show 0 ≤ (I 21 2).toInt ∧ (I 21 2).toInt ≤ 12; exact hO), ⟨(by show 0 ≤ (I 1 5).toInt ∧ (I 1 5).toInt ≤ 30; exact hH.1), (by show 0 ≤ (I 1 11).toInt ∧ (I 1 11).toInt ≤ 200; exact hH.2)⟩, ⟨(by show 0 ≤ (I 60 9).toInt ∧ (I 60 9).toInt ≤ 60; exact hJ.1), (by show 0 ≤ (I 60 12).toInt ∧ (I 60 12).toInt ≤ 12; exact hJ.2)⟩, z_fr_0⟩
