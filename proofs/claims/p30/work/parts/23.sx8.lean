theorem dX11_note_11 : decode cX11_note 11 = .ok (.iload_n 2, 1) := z_dd_28 (by decide +kernel)
theorem dX11_note_12 : decode cX11_note 12 = .ok (.iconst 0, 1) := z_dd_3 (by decide +kernel)
theorem dX11_note_13 : decode cX11_note 13 = .ok (.iconst 4, 1) := z_dd_7 (by decide +kernel)
set_option maxRecDepth 20000 in
theorem ggX11_note_X11_within : GoodIn wsX11_note wsX11_within := goodIn_sub (fa_c (me_s (me_l (me_l (me_l (List.mem_of_getElem? (i := 11) rfl))))) fa_n) (by decide +kernel)
set_option maxRecDepth 20000 in
theorem gX11_note_X11_within : GoodIn wsX11_note (va_wsS RX11 88 yX11_within wsX11_within) := goodIn_app (goodIn_sub (fa_c (me_s (me_l (me_l (me_l (List.mem_of_getElem? (i := 8) rfl))))) (fa_c (me_s (me_l (me_l (me_l (List.mem_of_getElem? (i := 9) rfl))))) (fa_c (me_s (me_l (me_l (me_l (List.mem_of_getElem? (i := 10) rfl))))) fa_n))) (by decide +kernel)) ggX11_note_X11_within
theorem dX11_note_14 : decode cX11_note 14 = .ok (.invokestatic 88, 3) := z_dd_184 (by decide +kernel)
theorem dX11_note_17 : decode cX11_note 17 = .ok (.ifCond .eq 10, 3) := z_dd_153 (by decide +kernel)
theorem dX11_note_20 : decode cX11_note 20 = .ok (.iload_n 3, 1) := z_dd_29 (by decide +kernel)
set_option maxRecDepth 20000 in
theorem ggX11_note_X11_isDay : GoodIn wsX11_note wsX11_isDay := goodIn_sub (fa_c (me_s (me_l (me_l (me_l (List.mem_of_getElem? (i := 14) rfl))))) (fa_c (me_s (me_l (me_l (me_l (List.mem_of_getElem? (i := 8) rfl))))) (fa_c (me_s (me_l (me_l (me_l (List.mem_of_getElem? (i := 9) rfl))))) (fa_c (me_s (me_l (me_l (me_l (List.mem_of_getElem? (i := 10) rfl))))) (fa_c (me_s (me_l (me_l (me_l (List.mem_of_getElem? (i := 11) rfl))))) fa_n))))) (by decide +kernel)
set_option maxRecDepth 20000 in
theorem gX11_note_X11_isDay : GoodIn wsX11_note (va_wsS RX11 100 yX11_isDay wsX11_isDay) := goodIn_app (goodIn_sub (fa_c (me_s (me_l (me_l (me_l (List.mem_of_getElem? (i := 12) rfl))))) (fa_c (me_s (me_l (me_l (me_l (List.mem_of_getElem? (i := 13) rfl))))) (fa_c (me_s (me_l (me_l (me_l (List.mem_of_getElem? (i := 10) rfl))))) fa_n))) (by decide +kernel)) ggX11_note_X11_isDay
theorem dX11_note_21 : decode cX11_note 21 = .ok (.invokestatic 100, 3) := z_dd_184 (by decide +kernel)
theorem dX11_note_24 : decode cX11_note 24 = .ok (.ifCond .ne 5, 3) := z_dd_154 (by decide +kernel)
theorem dX11_note_29 : decode cX11_note 29 = .ok (.aload_n 0, 1) := z_dd_42 (by decide +kernel)
theorem dX11_note_30 : decode cX11_note 30 = .ok (.getfield 16, 3) := z_dd_180 (by decide +kernel)
theorem dX11_note_33 : decode cX11_note 33 = .ok (.iload_n 1, 1) := z_dd_27 (by decide +kernel)
theorem dX11_note_34 : decode cX11_note 34 = .ok (.iload_n 2, 1) := z_dd_28 (by decide +kernel)
theorem dX11_note_35 : decode cX11_note 35 = .ok (.iload_n 3, 1) := z_dd_29 (by decide +kernel)
theorem dX11_note_36 : decode cX11_note 36 = .ok (.aload_n 0, 1) := z_dd_42 (by decide +kernel)
theorem dX11_note_37 : decode cX11_note 37 = .ok (.getfield 85, 3) := z_dd_180 (by decide +kernel)
set_option maxRecDepth 20000 in
theorem ggX11_note_X2_addNote : GoodIn wsX11_note wsX2_addNote := goodIn_sub (fa_c (me_s (me_l (me_l (me_l (List.mem_of_getElem? (i := 18) rfl))))) (fa_a (fa_c (me_s (me_l (me_l (me_l (List.mem_of_getElem? (i := 19) rfl))))) (fa_c (me_s (me_l (me_l (me_l (List.mem_of_getElem? (i := 20) rfl))))) (fa_c (me_s (me_l (me_l (me_l (List.mem_of_getElem? (i := 21) rfl))))) (fa_c (me_s (me_l (me_l (me_l (List.mem_of_getElem? (i := 22) rfl))))) (fa_c (me_s (me_l (me_l (me_l (List.mem_of_getElem? (i := 23) rfl))))) (fa_c (me_s (me_l (me_l (me_r (List.mem_of_getElem? (i := 0) rfl))))) fa_n)))))) (fun w h => (me_s (me_r h))))) (by decide +kernel)
set_option maxRecDepth 20000 in
theorem gX11_note_X2_addNote : GoodIn wsX11_note (wsV RX11 103 RX2 yX2_addNote wsX2_addNote) := goodIn_app (goodIn_sub (fa_c (me_s (me_l (me_l (me_l (List.mem_of_getElem? (i := 15) rfl))))) (fa_c (me_s (me_l (me_l (me_l (List.mem_of_getElem? (i := 16) rfl))))) (fa_c (me_s (me_l (me_l (me_l (List.mem_of_getElem? (i := 17) rfl))))) (fa_c (me_s (me_l (me_l (me_l (List.mem_of_getElem? (i := 5) rfl))))) fa_n)))) (by decide +kernel)) ggX11_note_X2_addNote
theorem dX11_note_40 : decode cX11_note 40 = .ok (.invokevirtual 103, 3) := z_dd_182 (by decide +kernel)
theorem dX11_note_43 : decode cX11_note 43 = .ok (.ireturn, 1) := z_dd_172 (by decide +kernel)
theorem dX11_classOf_11 : decode cX11_classOf 11 = .ok (.iload_n 2, 1) := z_dd_28 (by decide +kernel)
set_option maxRecDepth 20000 in
theorem ggX11_classOf_X11_isDay : GoodIn wsX11_classOf wsX11_isDay := goodIn_sub (fa_c (me_s (me_l (me_l (List.mem_of_getElem? (i := 10) rfl)))) (fa_c (me_s (me_l (me_l (List.mem_of_getElem? (i := 11) rfl)))) (fa_c (me_s (me_l (me_l (List.mem_of_getElem? (i := 12) rfl)))) (fa_c (me_s (me_l (me_l (List.mem_of_getElem? (i := 9) rfl)))) (fa_c (me_s (me_l (me_l (List.mem_of_getElem? (i := 13) rfl)))) fa_n))))) (by decide +kernel)
set_option maxRecDepth 20000 in
theorem gX11_classOf_X11_isDay : GoodIn wsX11_classOf (va_wsS RX11 100 yX11_isDay wsX11_isDay) := goodIn_app (goodIn_sub (fa_c (me_s (me_l (me_l (List.mem_of_getElem? (i := 7) rfl)))) (fa_c (me_s (me_l (me_l (List.mem_of_getElem? (i := 8) rfl)))) (fa_c (me_s (me_l (me_l (List.mem_of_getElem? (i := 9) rfl)))) fa_n))) (by decide +kernel)) ggX11_classOf_X11_isDay
theorem dX11_classOf_12 : decode cX11_classOf 12 = .ok (.invokestatic 100, 3) := z_dd_184 (by decide +kernel)
theorem dX11_classOf_15 : decode cX11_classOf 15 = .ok (.ifCond .eq 10, 3) := z_dd_153 (by decide +kernel)
theorem dX11_classOf_18 : decode cX11_classOf 18 = .ok (.iload_n 3, 1) := z_dd_29 (by decide +kernel)
theorem dX11_classOf_19 : decode cX11_classOf 19 = .ok (.invokestatic 100, 3) := z_dd_184 (by decide +kernel)
theorem dX11_classOf_22 : decode cX11_classOf 22 = .ok (.ifCond .ne 5, 3) := z_dd_154 (by decide +kernel)
theorem dX11_classOf_27 : decode cX11_classOf 27 = .ok (.aload_n 0, 1) := z_dd_42 (by decide +kernel)
theorem dX11_classOf_28 : decode cX11_classOf 28 = .ok (.getfield 16, 3) := z_dd_180 (by decide +kernel)
theorem dX11_classOf_31 : decode cX11_classOf 31 = .ok (.iload_n 1, 1) := z_dd_27 (by decide +kernel)
theorem dX11_classOf_32 : decode cX11_classOf 32 = .ok (.iload_n 2, 1) := z_dd_28 (by decide +kernel)
theorem dX11_classOf_33 : decode cX11_classOf 33 = .ok (.iload_n 3, 1) := z_dd_29 (by decide +kernel)
set_option maxRecDepth 20000 in
theorem ggX11_classOf_X2_kindOn : GoodIn wsX11_classOf wsX2_kindOn := goodIn_sub (fa_c (me_s (me_l (me_l (List.mem_of_getElem? (i := 17) rfl)))) (fa_a (fa_c (me_s (me_l (me_l (List.mem_of_getElem? (i := 18) rfl)))) (fa_c (me_s (me_l (me_l (List.mem_of_getElem? (i := 19) rfl)))) (fa_c (me_s (me_l (me_l (List.mem_of_getElem? (i := 20) rfl)))) (fa_c (me_s (me_l (me_l (List.mem_of_getElem? (i := 21) rfl)))) (fa_c (me_s (me_l (me_l (List.mem_of_getElem? (i := 22) rfl)))) (fa_c (me_s (me_l (me_l (List.mem_of_getElem? (i := 23) rfl)))) fa_n)))))) (fun w h => (me_s (me_r h))))) (by decide +kernel)
set_option maxRecDepth 20000 in
theorem gX11_classOf_X2_kindOn : GoodIn wsX11_classOf (wsV RX11 111 RX2 yX2_kindOn wsX2_kindOn) := goodIn_app (goodIn_sub (fa_c (me_s (me_l (me_l (List.mem_of_getElem? (i := 14) rfl)))) (fa_c (me_s (me_l (me_l (List.mem_of_getElem? (i := 15) rfl)))) (fa_c (me_s (me_l (me_l (List.mem_of_getElem? (i := 16) rfl)))) (fa_c (me_s (me_l (me_l (List.mem_of_getElem? (i := 4) rfl)))) fa_n)))) (by decide +kernel)) ggX11_classOf_X2_kindOn
theorem dX11_classOf_34 : decode cX11_classOf 34 = .ok (.invokevirtual 111, 3) := z_dd_182 (by decide +kernel)
theorem dX11_classOf_37 : decode cX11_classOf 37 = .ok (.ireturn, 1) := z_dd_172 (by decide +kernel)
theorem dX11_rule_0 : decode cX11_rule 0 = .ok (.iload_n 1, 1) := z_dd_27 (by decide +kernel)
set_option maxRecDepth 20000 in
theorem ggX11_rule_X11_isMonth : GoodIn wsX11_rule wsX11_isMonth := goodIn_sub (fa_c (me_s (me_l (me_l (me_l (me_l (List.mem_of_getElem? (i := 4) rfl)))))) (fa_c (me_s (me_l (me_l (me_l (me_l (List.mem_of_getElem? (i := 5) rfl)))))) (fa_c (me_s (me_l (me_l (me_l (me_l (List.mem_of_getElem? (i := 6) rfl)))))) (fa_c (me_s (me_l (me_l (me_l (me_l (List.mem_of_getElem? (i := 3) rfl)))))) (fa_c (me_s (me_l (me_l (me_l (me_l (List.mem_of_getElem? (i := 7) rfl)))))) fa_n))))) (by decide +kernel)
set_option maxRecDepth 20000 in
theorem gX11_rule_X11_isMonth : GoodIn wsX11_rule (va_wsS RX11 122 yX11_isMonth wsX11_isMonth) := goodIn_app (goodIn_sub (fa_c (me_s (me_l (me_l (me_l (me_l (List.mem_of_getElem? (i := 1) rfl)))))) (fa_c (me_s (me_l (me_l (me_l (me_l (List.mem_of_getElem? (i := 2) rfl)))))) (fa_c (me_s (me_l (me_l (me_l (me_l (List.mem_of_getElem? (i := 3) rfl)))))) fa_n))) (by decide +kernel)) ggX11_rule_X11_isMonth
theorem dX11_rule_1 : decode cX11_rule 1 = .ok (.invokestatic 122, 3) := z_dd_184 (by decide +kernel)
theorem dX11_rule_4 : decode cX11_rule 4 = .ok (.ifCond .eq 10, 3) := z_dd_153 (by decide +kernel)
theorem dX11_rule_7 : decode cX11_rule 7 = .ok (.iload_n 2, 1) := z_dd_28 (by decide +kernel)
set_option maxRecDepth 20000 in
theorem ggX11_rule_X11_isDay : GoodIn wsX11_rule wsX11_isDay := goodIn_sub (fa_c (me_s (me_l (me_l (me_l (me_l (List.mem_of_getElem? (i := 10) rfl)))))) (fa_c (me_s (me_l (me_l (me_l (me_l (List.mem_of_getElem? (i := 5) rfl)))))) (fa_c (me_s (me_l (me_l (me_l (me_l (List.mem_of_getElem? (i := 6) rfl)))))) (fa_c (me_s (me_l (me_l (me_l (me_l (List.mem_of_getElem? (i := 3) rfl)))))) (fa_c (me_s (me_l (me_l (me_l (me_l (List.mem_of_getElem? (i := 7) rfl)))))) fa_n))))) (by decide +kernel)
set_option maxRecDepth 20000 in
theorem gX11_rule_X11_isDay : GoodIn wsX11_rule (va_wsS RX11 100 yX11_isDay wsX11_isDay) := goodIn_app (goodIn_sub (fa_c (me_s (me_l (me_l (me_l (me_l (List.mem_of_getElem? (i := 8) rfl)))))) (fa_c (me_s (me_l (me_l (me_l (me_l (List.mem_of_getElem? (i := 9) rfl)))))) (fa_c (me_s (me_l (me_l (me_l (me_l (List.mem_of_getElem? (i := 3) rfl)))))) fa_n))) (by decide +kernel)) ggX11_rule_X11_isDay
theorem dX11_rule_8 : decode cX11_rule 8 = .ok (.invokestatic 100, 3) := z_dd_184 (by decide +kernel)
theorem dX11_rule_11 : decode cX11_rule 11 = .ok (.ifCond .ne 5, 3) := z_dd_154 (by decide +kernel)
theorem dX11_rule_16 : decode cX11_rule 16 = .ok (.iload_n 3, 1) := z_dd_29 (by decide +kernel)
theorem dX11_rule_17 : decode cX11_rule 17 = .ok (.iconst 5, 1) := z_dd_8 (by decide +kernel)
theorem dX11_rule_18 : decode cX11_rule 18 = .ok (.if_icmp .ne 13, 3) := z_dd_160 (by decide +kernel)
theorem dX11_rule_31 : decode cX11_rule 31 = .ok (.iload_n 3, 1) := z_dd_29 (by decide +kernel)
theorem dX11_rule_32 : decode cX11_rule 32 = .ok (.iconst 0, 1) := z_dd_3 (by decide +kernel)
theorem dX11_rule_33 : decode cX11_rule 33 = .ok (.iconst 4, 1) := z_dd_7 (by decide +kernel)
set_option maxRecDepth 20000 in
theorem ggX11_rule_X11_within : GoodIn wsX11_rule wsX11_within := goodIn_sub (fa_c (me_s (me_l (me_l (me_l (me_l (List.mem_of_getElem? (i := 7) rfl)))))) fa_n) (by decide +kernel)
set_option maxRecDepth 20000 in
theorem gX11_rule_X11_within : GoodIn wsX11_rule (va_wsS RX11 88 yX11_within wsX11_within) := goodIn_app (goodIn_sub (fa_c (me_s (me_l (me_l (me_l (me_l (List.mem_of_getElem? (i := 5) rfl)))))) (fa_c (me_s (me_l (me_l (me_l (me_l (List.mem_of_getElem? (i := 6) rfl)))))) (fa_c (me_s (me_l (me_l (me_l (me_l (List.mem_of_getElem? (i := 3) rfl)))))) fa_n))) (by decide +kernel)) ggX11_rule_X11_within
theorem dX11_rule_34 : decode cX11_rule 34 = .ok (.invokestatic 88, 3) := z_dd_184 (by decide +kernel)
theorem dX11_rule_37 : decode cX11_rule 37 = .ok (.ifCond .ne 5, 3) := z_dd_154 (by decide +kernel)
theorem dX11_rule_42 : decode cX11_rule 42 = .ok (.aload_n 0, 1) := z_dd_42 (by decide +kernel)
theorem dX11_rule_43 : decode cX11_rule 43 = .ok (.getfield 30, 3) := z_dd_180 (by decide +kernel)
theorem dX11_rule_46 : decode cX11_rule 46 = .ok (.iload_n 3, 1) := z_dd_29 (by decide +kernel)
theorem dX11_rule_47 : decode cX11_rule 47 = .ok (.iload_n 1, 1) := z_dd_27 (by decide +kernel)
theorem dX11_rule_48 : decode cX11_rule 48 = .ok (.iload_n 2, 1) := z_dd_28 (by decide +kernel)
set_option maxRecDepth 20000 in
theorem ggX11_rule_X6_amount : GoodIn wsX11_rule wsX6_amount := goodIn_sub (fa_c (me_s (me_l (me_l (me_l (me_l (List.mem_of_getElem? (i := 23) rfl)))))) (fa_a (fa_a (fa_c (me_s (me_l (me_l (me_l (me_r (List.mem_of_getElem? (i := 0) rfl)))))) (fa_c (me_s (me_l (me_l (me_l (me_r (List.mem_of_getElem? (i := 1) rfl)))))) (fa_c (me_s (me_l (me_l (me_l (me_r (List.mem_of_getElem? (i := 2) rfl)))))) (fa_c (me_s (me_l (me_l (me_l (me_l (List.mem_of_getElem? (i := 14) rfl)))))) (fa_c (me_s (me_l (me_l (me_l (me_r (List.mem_of_getElem? (i := 3) rfl)))))) (fa_c (me_s (me_l (me_l (me_l (me_l (List.mem_of_getElem? (i := 17) rfl)))))) (fa_c (me_s (me_l (me_l (me_l (me_r (List.mem_of_getElem? (i := 4) rfl)))))) (fa_c (me_s (me_l (me_l (me_l (me_l (List.mem_of_getElem? (i := 12) rfl)))))) (fa_c (me_s (me_l (me_l (me_l (me_l (List.mem_of_getElem? (i := 13) rfl)))))) (fa_c (me_s (me_l (me_l (me_l (me_l (List.mem_of_getElem? (i := 15) rfl)))))) (fa_c (me_s (me_l (me_l (me_l (me_l (List.mem_of_getElem? (i := 16) rfl)))))) (fa_c (me_s (me_l (me_l (me_l (me_l (List.mem_of_getElem? (i := 18) rfl)))))) (fa_c (me_s (me_l (me_l (me_l (me_l (List.mem_of_getElem? (i := 19) rfl)))))) (fa_c (me_s (me_l (me_l (me_l (me_r (List.mem_of_getElem? (i := 5) rfl)))))) (fa_c (me_s (me_l (me_l (me_l (me_l (List.mem_of_getElem? (i := 3) rfl)))))) (fa_c (me_s (me_l (me_l (me_l (me_r (List.mem_of_getElem? (i := 6) rfl)))))) (fa_c (me_s (me_l (me_l (me_l (me_r (List.mem_of_getElem? (i := 7) rfl)))))) (fa_c (me_s (me_l (me_l (me_l (me_r (List.mem_of_getElem? (i := 8) rfl)))))) (fa_c (me_s (me_l (me_l (me_l (me_r (List.mem_of_getElem? (i := 9) rfl)))))) (fa_c (me_s (me_l (me_l (me_l (me_r (List.mem_of_getElem? (i := 10) rfl)))))) (fa_c (me_s (me_l (me_l (me_l (me_r (List.mem_of_getElem? (i := 11) rfl)))))) (fa_c (me_s (me_l (me_l (me_l (me_r (List.mem_of_getElem? (i := 12) rfl)))))) (fa_c (me_s (me_l (me_l (me_l (me_r (List.mem_of_getElem? (i := 13) rfl)))))) (fa_c (me_s (me_l (me_l (me_l (me_r (List.mem_of_getElem? (i := 14) rfl)))))) fa_n)))))))))))))))))))))))) (fun w h => (me_s (me_l (me_r h))))) (fun w h => (me_s (me_r h))))) (by decide +kernel)
set_option maxRecDepth 20000 in
theorem gX11_rule_X6_amount : GoodIn wsX11_rule (wsV RX11 144 RX6 yX6_amount wsX6_amount) := goodIn_app (goodIn_sub (fa_c (me_s (me_l (me_l (me_l (me_l (List.mem_of_getElem? (i := 20) rfl)))))) (fa_c (me_s (me_l (me_l (me_l (me_l (List.mem_of_getElem? (i := 21) rfl)))))) (fa_c (me_s (me_l (me_l (me_l (me_l (List.mem_of_getElem? (i := 22) rfl)))))) (fa_c (me_s (me_l (me_l (me_l (me_l (List.mem_of_getElem? (i := 14) rfl)))))) fa_n)))) (by decide +kernel)) ggX11_rule_X6_amount
theorem dX11_rule_49 : decode cX11_rule 49 = .ok (.invokevirtual 144, 3) := z_dd_182 (by decide +kernel)
theorem dX11_rule_52 : decode cX11_rule 52 = .ok (.ireturn, 1) := z_dd_172 (by decide +kernel)
theorem dX11_rule_40 : decode cX11_rule 40 = .ok (.iconst (-1), 1) := z_dd_2 (by decide +kernel)
theorem dX11_rule_41 : decode cX11_rule 41 = .ok (.ireturn, 1) := z_dd_172 (by decide +kernel)
theorem dX11_rule_21 : decode cX11_rule 21 = .ok (.aload_n 0, 1) := z_dd_42 (by decide +kernel)
theorem dX11_rule_22 : decode cX11_rule 22 = .ok (.getfield 30, 3) := z_dd_180 (by decide +kernel)
theorem dX11_rule_25 : decode cX11_rule 25 = .ok (.iload_n 1, 1) := z_dd_27 (by decide +kernel)
theorem dX11_rule_26 : decode cX11_rule 26 = .ok (.iload_n 2, 1) := z_dd_28 (by decide +kernel)
set_option maxRecDepth 20000 in
theorem ggX11_rule_X6_inForce : GoodIn wsX11_rule wsX6_inForce := goodIn_sub (fa_c (me_s (me_l (me_l (me_l (me_l (List.mem_of_getElem? (i := 15) rfl)))))) (fa_a (fa_a (fa_c (me_s (me_l (me_l (me_l (me_l (List.mem_of_getElem? (i := 16) rfl)))))) (fa_c (me_s (me_l (me_l (me_l (me_l (List.mem_of_getElem? (i := 17) rfl)))))) (fa_c (me_s (me_l (me_l (me_l (me_l (List.mem_of_getElem? (i := 18) rfl)))))) (fa_c (me_s (me_l (me_l (me_l (me_l (List.mem_of_getElem? (i := 19) rfl)))))) fa_n)))) (fun w h => (me_s (me_l (me_r h))))) (fun w h => (me_s (me_r h))))) (by decide +kernel)
set_option maxRecDepth 20000 in
theorem gX11_rule_X6_inForce : GoodIn wsX11_rule (wsV RX11 140 RX6 yX6_inForce wsX6_inForce) := goodIn_app (goodIn_sub (fa_c (me_s (me_l (me_l (me_l (me_l (List.mem_of_getElem? (i := 11) rfl)))))) (fa_c (me_s (me_l (me_l (me_l (me_l (List.mem_of_getElem? (i := 12) rfl)))))) (fa_c (me_s (me_l (me_l (me_l (me_l (List.mem_of_getElem? (i := 13) rfl)))))) (fa_c (me_s (me_l (me_l (me_l (me_l (List.mem_of_getElem? (i := 14) rfl)))))) fa_n)))) (by decide +kernel)) ggX11_rule_X6_inForce
theorem dX11_rule_27 : decode cX11_rule 27 = .ok (.invokevirtual 140, 3) := z_dd_182 (by decide +kernel)
theorem dX11_rule_30 : decode cX11_rule 30 = .ok (.ireturn, 1) := z_dd_172 (by decide +kernel)
theorem dX11_rule_14 : decode cX11_rule 14 = .ok (.iconst (-1), 1) := z_dd_2 (by decide +kernel)
theorem dX11_rule_15 : decode cX11_rule 15 = .ok (.ireturn, 1) := z_dd_172 (by decide +kernel)
theorem dX11_units_11 : decode cX11_units 11 = .ok (.iload_n 2, 1) := z_dd_28 (by decide +kernel)
set_option maxRecDepth 20000 in
theorem ggX11_units_X11_isMonth : GoodIn wsX11_units wsX11_isMonth := goodIn_sub (fa_c (me_s (me_l (me_l (me_l (me_l (me_l (me_l (List.mem_of_getElem? (i := 11) rfl)))))))) (fa_c (me_s (me_l (me_l (me_l (me_l (me_l (me_l (List.mem_of_getElem? (i := 12) rfl)))))))) (fa_c (me_s (me_l (me_l (me_l (me_l (me_l (me_l (List.mem_of_getElem? (i := 13) rfl)))))))) (fa_c (me_s (me_l (me_l (me_l (me_l (me_l (me_l (List.mem_of_getElem? (i := 10) rfl)))))))) (fa_c (me_s (me_l (me_l (me_l (me_l (me_l (me_l (List.mem_of_getElem? (i := 14) rfl)))))))) fa_n))))) (by decide +kernel)
set_option maxRecDepth 20000 in
theorem gX11_units_X11_isMonth : GoodIn wsX11_units (va_wsS RX11 122 yX11_isMonth wsX11_isMonth) := goodIn_app (goodIn_sub (fa_c (me_s (me_l (me_l (me_l (me_l (me_l (me_l (List.mem_of_getElem? (i := 8) rfl)))))))) (fa_c (me_s (me_l (me_l (me_l (me_l (me_l (me_l (List.mem_of_getElem? (i := 9) rfl)))))))) (fa_c (me_s (me_l (me_l (me_l (me_l (me_l (me_l (List.mem_of_getElem? (i := 10) rfl)))))))) fa_n))) (by decide +kernel)) ggX11_units_X11_isMonth
theorem dX11_units_12 : decode cX11_units 12 = .ok (.invokestatic 122, 3) := z_dd_184 (by decide +kernel)
theorem dX11_units_15 : decode cX11_units 15 = .ok (.ifCond .eq 10, 3) := z_dd_153 (by decide +kernel)
theorem dX11_units_18 : decode cX11_units 18 = .ok (.iload_n 3, 1) := z_dd_29 (by decide +kernel)
set_option maxRecDepth 20000 in
theorem ggX11_units_X11_isDay : GoodIn wsX11_units wsX11_isDay := goodIn_sub (fa_c (me_s (me_l (me_l (me_l (me_l (me_l (me_l (List.mem_of_getElem? (i := 17) rfl)))))))) (fa_c (me_s (me_l (me_l (me_l (me_l (me_l (me_l (List.mem_of_getElem? (i := 12) rfl)))))))) (fa_c (me_s (me_l (me_l (me_l (me_l (me_l (me_l (List.mem_of_getElem? (i := 13) rfl)))))))) (fa_c (me_s (me_l (me_l (me_l (me_l (me_l (me_l (List.mem_of_getElem? (i := 10) rfl)))))))) (fa_c (me_s (me_l (me_l (me_l (me_l (me_l (me_l (List.mem_of_getElem? (i := 14) rfl)))))))) fa_n))))) (by decide +kernel)
set_option maxRecDepth 20000 in
theorem gX11_units_X11_isDay : GoodIn wsX11_units (va_wsS RX11 100 yX11_isDay wsX11_isDay) := goodIn_app (goodIn_sub (fa_c (me_s (me_l (me_l (me_l (me_l (me_l (me_l (List.mem_of_getElem? (i := 15) rfl)))))))) (fa_c (me_s (me_l (me_l (me_l (me_l (me_l (me_l (List.mem_of_getElem? (i := 16) rfl)))))))) (fa_c (me_s (me_l (me_l (me_l (me_l (me_l (me_l (List.mem_of_getElem? (i := 10) rfl)))))))) fa_n))) (by decide +kernel)) ggX11_units_X11_isDay
theorem dX11_units_19 : decode cX11_units 19 = .ok (.invokestatic 100, 3) := z_dd_184 (by decide +kernel)
theorem dX11_units_22 : decode cX11_units 22 = .ok (.ifCond .ne 5, 3) := z_dd_154 (by decide +kernel)
theorem dX11_units_27 : decode cX11_units 27 = .ok (.aload_n 0, 1) := z_dd_42 (by decide +kernel)
theorem dX11_units_28 : decode cX11_units 28 = .ok (.getfield 30, 3) := z_dd_180 (by decide +kernel)
theorem dX11_units_31 : decode cX11_units 31 = .ok (.aload_n 0, 1) := z_dd_42 (by decide +kernel)
theorem dX11_units_32 : decode cX11_units 32 = .ok (.getfield 16, 3) := z_dd_180 (by decide +kernel)
theorem dX11_units_35 : decode cX11_units 35 = .ok (.iload_n 1, 1) := z_dd_27 (by decide +kernel)
theorem dX11_units_36 : decode cX11_units 36 = .ok (.iload_n 2, 1) := z_dd_28 (by decide +kernel)
theorem dX11_units_37 : decode cX11_units 37 = .ok (.iload_n 3, 1) := z_dd_29 (by decide +kernel)
set_option maxRecDepth 20000 in
theorem ggX11_units_X6_unitsOf : GoodIn wsX11_units wsX6_unitsOf := goodIn_sub (fa_c (me_s (me_l (me_l (me_l (me_l (me_l (me_l (List.mem_of_getElem? (i := 22) rfl)))))))) (fa_a (fa_a (fa_a (fa_a (fa_a (fa_c (me_s (me_l (me_l (me_l (me_l (me_l (me_l (List.mem_of_getElem? (i := 23) rfl)))))))) (fa_c (me_s (me_l (me_l (me_l (me_l (me_l (me_r (me_l (List.mem_of_getElem? (i := 0) rfl))))))))) (fa_c (me_s (me_l (me_l (me_l (me_l (me_l (me_r (me_l (List.mem_of_getElem? (i := 1) rfl))))))))) (fa_c (me_s (me_l (me_l (me_l (me_l (me_l (me_r (me_l (List.mem_of_getElem? (i := 2) rfl))))))))) (fa_c (me_s (me_l (me_l (me_l (me_l (me_l (me_l (List.mem_of_getElem? (i := 21) rfl)))))))) (fa_c (me_s (me_l (me_l (me_l (me_l (me_l (me_r (me_l (List.mem_of_getElem? (i := 3) rfl))))))))) (fa_c (me_s (me_l (me_l (me_l (me_l (me_l (me_r (me_l (List.mem_of_getElem? (i := 4) rfl))))))))) (fa_c (me_s (me_l (me_l (me_l (me_l (me_l (me_r (me_l (List.mem_of_getElem? (i := 5) rfl))))))))) (fa_c (me_s (me_l (me_l (me_l (me_l (me_l (me_r (me_l (List.mem_of_getElem? (i := 6) rfl))))))))) (fa_c (me_s (me_l (me_l (me_l (me_l (me_l (me_r (me_l (List.mem_of_getElem? (i := 7) rfl))))))))) (fa_c (me_s (me_l (me_l (me_l (me_l (me_l (me_r (me_l (List.mem_of_getElem? (i := 8) rfl))))))))) (fa_c (me_s (me_l (me_l (me_l (me_l (me_l (me_r (me_l (List.mem_of_getElem? (i := 9) rfl))))))))) (fa_c (me_s (me_l (me_l (me_l (me_l (me_l (me_r (me_l (List.mem_of_getElem? (i := 10) rfl))))))))) (fa_c (me_s (me_l (me_l (me_l (me_l (me_l (me_r (me_l (List.mem_of_getElem? (i := 11) rfl))))))))) (fa_c (me_s (me_l (me_l (me_l (me_l (me_l (me_r (me_l (List.mem_of_getElem? (i := 12) rfl))))))))) (fa_c (me_s (me_l (me_l (me_l (me_l (me_l (me_l (List.mem_of_getElem? (i := 3) rfl)))))))) (fa_c (me_s (me_l (me_l (me_l (me_l (me_l (me_l (List.mem_of_getElem? (i := 4) rfl)))))))) (fa_c (me_s (me_l (me_l (me_l (me_l (me_l (me_l (List.mem_of_getElem? (i := 5) rfl)))))))) (fa_c (me_s (me_l (me_l (me_l (me_l (me_l (me_l (List.mem_of_getElem? (i := 6) rfl)))))))) (fa_c (me_s (me_l (me_l (me_l (me_l (me_l (me_l (List.mem_of_getElem? (i := 7) rfl)))))))) (fa_c (me_s (me_l (me_l (me_l (me_l (me_l (me_r (me_l (List.mem_of_getElem? (i := 13) rfl))))))))) (fa_c (me_s (me_l (me_l (me_l (me_l (me_l (me_r (me_l (List.mem_of_getElem? (i := 14) rfl))))))))) (fa_c (me_s (me_l (me_l (me_l (me_l (me_l (me_r (me_l (List.mem_of_getElem? (i := 15) rfl))))))))) (fa_c (me_s (me_l (me_l (me_l (me_l (me_l (me_r (me_l (List.mem_of_getElem? (i := 16) rfl))))))))) fa_n)))))))))))))))))))))))) (fa_a (fa_c (me_s (me_l (me_l (me_l (me_l (me_l (me_r (me_l (List.mem_of_getElem? (i := 17) rfl))))))))) (fa_c (me_s (me_l (me_l (me_l (me_l (me_l (me_r (me_l (List.mem_of_getElem? (i := 18) rfl))))))))) (fa_c (me_s (me_l (me_l (me_l (me_l (me_l (me_r (me_l (List.mem_of_getElem? (i := 19) rfl))))))))) (fa_c (me_s (me_l (me_l (me_l (me_l (me_l (me_r (me_l (List.mem_of_getElem? (i := 20) rfl))))))))) (fa_c (me_s (me_l (me_l (me_l (me_l (me_l (me_r (me_l (List.mem_of_getElem? (i := 21) rfl))))))))) (fa_c (me_s (me_l (me_l (me_l (me_l (me_l (me_r (me_l (List.mem_of_getElem? (i := 22) rfl))))))))) (fa_c (me_s (me_l (me_l (me_l (me_l (me_l (me_r (me_l (List.mem_of_getElem? (i := 23) rfl))))))))) (fa_c (me_s (me_l (me_l (me_l (me_l (me_l (me_r (me_r (me_l (List.mem_of_getElem? (i := 0) rfl)))))))))) (fa_c (me_s (me_l (me_l (me_l (me_l (me_l (me_r (me_r (me_l (List.mem_of_getElem? (i := 1) rfl)))))))))) (fa_c (me_s (me_l (me_l (me_l (me_l (me_l (me_r (me_r (me_l (List.mem_of_getElem? (i := 2) rfl)))))))))) (fa_c (me_s (me_l (me_l (me_l (me_l (me_l (me_r (me_r (me_l (List.mem_of_getElem? (i := 3) rfl)))))))))) (fa_c (me_s (me_l (me_l (me_l (me_l (me_l (me_r (me_r (me_l (List.mem_of_getElem? (i := 4) rfl)))))))))) (fa_c (me_s (me_l (me_l (me_l (me_l (me_l (me_r (me_r (me_l (List.mem_of_getElem? (i := 5) rfl)))))))))) (fa_c (me_s (me_l (me_l (me_l (me_l (me_l (me_r (me_r (me_l (List.mem_of_getElem? (i := 6) rfl)))))))))) (fa_c (me_s (me_l (me_l (me_l (me_l (me_l (me_r (me_r (me_l (List.mem_of_getElem? (i := 7) rfl)))))))))) (fa_c (me_s (me_l (me_l (me_l (me_l (me_l (me_r (me_r (me_l (List.mem_of_getElem? (i := 8) rfl)))))))))) (fa_c (me_s (me_l (me_l (me_l (me_l (me_l (me_r (me_r (me_l (List.mem_of_getElem? (i := 9) rfl)))))))))) (fa_c (me_s (me_l (me_l (me_l (me_l (me_l (me_r (me_r (me_l (List.mem_of_getElem? (i := 10) rfl)))))))))) (fa_c (me_s (me_l (me_l (me_l (me_l (me_l (me_r (me_r (me_l (List.mem_of_getElem? (i := 11) rfl)))))))))) (fa_c (me_s (me_l (me_l (me_l (me_l (me_l (me_r (me_r (me_l (List.mem_of_getElem? (i := 12) rfl)))))))))) (fa_c (me_s (me_l (me_l (me_l (me_l (me_l (me_r (me_r (me_l (List.mem_of_getElem? (i := 13) rfl)))))))))) (fa_c (me_s (me_l (me_l (me_l (me_l (me_l (me_r (me_r (me_l (List.mem_of_getElem? (i := 14) rfl)))))))))) (fa_c (me_s (me_l (me_l (me_l (me_l (me_l (me_r (me_r (me_l (List.mem_of_getElem? (i := 15) rfl)))))))))) (fa_c (me_s (me_l (me_l (me_l (me_l (me_l (me_r (me_r (me_l (List.mem_of_getElem? (i := 16) rfl)))))))))) fa_n)))))))))))))))))))))))) (fa_a (fa_c (me_s (me_l (me_l (me_l (me_l (me_l (me_r (me_r (me_l (List.mem_of_getElem? (i := 17) rfl)))))))))) (fa_c (me_s (me_l (me_l (me_l (me_l (me_l (me_r (me_r (me_l (List.mem_of_getElem? (i := 18) rfl)))))))))) (fa_c (me_s (me_l (me_l (me_l (me_l (me_l (me_r (me_r (me_l (List.mem_of_getElem? (i := 19) rfl)))))))))) (fa_c (me_s (me_l (me_l (me_l (me_l (me_l (me_r (me_r (me_l (List.mem_of_getElem? (i := 20) rfl)))))))))) (fa_c (me_s (me_l (me_l (me_l (me_l (me_l (me_r (me_r (me_l (List.mem_of_getElem? (i := 21) rfl)))))))))) (fa_c (me_s (me_l (me_l (me_l (me_l (me_l (me_r (me_r (me_l (List.mem_of_getElem? (i := 22) rfl)))))))))) (fa_c (me_s (me_l (me_l (me_l (me_l (me_l (me_r (me_r (me_l (List.mem_of_getElem? (i := 23) rfl)))))))))) (fa_c (me_s (me_l (me_l (me_l (me_l (me_l (me_r (me_r (me_r (me_l (List.mem_of_getElem? (i := 0) rfl))))))))))) (fa_c (me_s (me_l (me_l (me_l (me_l (me_l (me_r (me_r (me_r (me_l (List.mem_of_getElem? (i := 1) rfl))))))))))) (fa_c (me_s (me_l (me_l (me_l (me_l (me_l (me_r (me_r (me_r (me_l (List.mem_of_getElem? (i := 2) rfl))))))))))) (fa_c (me_s (me_l (me_l (me_l (me_l (me_l (me_r (me_r (me_r (me_l (List.mem_of_getElem? (i := 3) rfl))))))))))) (fa_c (me_s (me_l (me_l (me_l (me_l (me_l (me_r (me_r (me_r (me_l (List.mem_of_getElem? (i := 4) rfl))))))))))) (fa_c (me_s (me_l (me_l (me_l (me_l (me_l (me_r (me_r (me_r (me_l (List.mem_of_getElem? (i := 5) rfl))))))))))) (fa_c (me_s (me_l (me_l (me_l (me_l (me_l (me_r (me_r (me_r (me_l (List.mem_of_getElem? (i := 6) rfl))))))))))) (fa_c (me_s (me_l (me_l (me_l (me_l (me_l (me_r (me_r (me_r (me_l (List.mem_of_getElem? (i := 7) rfl))))))))))) (fa_c (me_s (me_l (me_l (me_l (me_l (me_l (me_r (me_r (me_r (me_l (List.mem_of_getElem? (i := 8) rfl))))))))))) (fa_c (me_s (me_l (me_l (me_l (me_l (me_l (me_r (me_r (me_r (me_l (List.mem_of_getElem? (i := 9) rfl))))))))))) (fa_c (me_s (me_l (me_l (me_l (me_l (me_l (me_r (me_r (me_r (me_l (List.mem_of_getElem? (i := 10) rfl))))))))))) (fa_c (me_s (me_l (me_l (me_l (me_l (me_l (me_r (me_r (me_r (me_l (List.mem_of_getElem? (i := 11) rfl))))))))))) (fa_c (me_s (me_l (me_l (me_l (me_l (me_l (me_r (me_r (me_r (me_l (List.mem_of_getElem? (i := 12) rfl))))))))))) (fa_c (me_s (me_l (me_l (me_l (me_l (me_l (me_r (me_r (me_r (me_l (List.mem_of_getElem? (i := 13) rfl))))))))))) (fa_c (me_s (me_l (me_l (me_l (me_l (me_l (me_r (me_r (me_r (me_l (List.mem_of_getElem? (i := 14) rfl))))))))))) (fa_c (me_s (me_l (me_l (me_l (me_l (me_l (me_r (me_r (me_r (me_l (List.mem_of_getElem? (i := 15) rfl))))))))))) (fa_c (me_s (me_l (me_l (me_l (me_l (me_l (me_r (me_r (me_r (me_l (List.mem_of_getElem? (i := 16) rfl))))))))))) fa_n)))))))))))))))))))))))) (fa_c (me_s (me_l (me_l (me_l (me_l (me_l (me_r (me_r (me_r (me_l (List.mem_of_getElem? (i := 17) rfl))))))))))) (fa_c (me_s (me_l (me_l (me_l (me_l (me_l (me_r (me_r (me_r (me_l (List.mem_of_getElem? (i := 18) rfl))))))))))) (fa_c (me_s (me_l (me_l (me_l (me_l (me_l (me_r (me_r (me_r (me_l (List.mem_of_getElem? (i := 19) rfl))))))))))) (fa_c (me_s (me_l (me_l (me_l (me_l (me_l (me_r (me_r (me_r (me_l (List.mem_of_getElem? (i := 20) rfl))))))))))) (fa_c (me_s (me_l (me_l (me_l (me_l (me_l (me_r (me_r (me_r (me_l (List.mem_of_getElem? (i := 21) rfl))))))))))) (fa_c (me_s (me_l (me_l (me_l (me_l (me_l (me_r (me_r (me_r (me_l (List.mem_of_getElem? (i := 22) rfl))))))))))) (fa_c (me_s (me_l (me_l (me_l (me_l (me_l (me_r (me_r (me_r (me_l (List.mem_of_getElem? (i := 23) rfl))))))))))) (fa_c (me_s (me_l (me_l (me_l (me_l (me_l (me_r (me_r (me_r (me_r (List.mem_of_getElem? (i := 0) rfl))))))))))) (fa_c (me_s (me_l (me_l (me_l (me_l (me_l (me_r (me_r (me_r (me_r (List.mem_of_getElem? (i := 1) rfl))))))))))) (fa_c (me_s (me_l (me_l (me_l (me_l (me_l (me_r (me_r (me_r (me_r (List.mem_of_getElem? (i := 2) rfl))))))))))) (fa_c (me_s (me_l (me_l (me_l (me_l (me_l (me_r (me_r (me_r (me_r (List.mem_of_getElem? (i := 3) rfl))))))))))) (fa_c (me_s (me_l (me_l (me_l (me_l (me_l (me_r (me_r (me_r (me_r (List.mem_of_getElem? (i := 4) rfl))))))))))) (fa_c (me_s (me_l (me_l (me_l (me_l (me_l (me_r (me_r (me_r (me_r (List.mem_of_getElem? (i := 5) rfl))))))))))) (fa_c (me_s (me_l (me_l (me_l (me_l (me_l (me_r (me_r (me_r (me_r (List.mem_of_getElem? (i := 6) rfl))))))))))) (fa_c (me_s (me_l (me_l (me_l (me_l (me_l (me_r (me_r (me_r (me_r (List.mem_of_getElem? (i := 7) rfl))))))))))) (fa_c (me_s (me_l (me_l (me_l (me_l (me_l (me_r (me_r (me_r (me_r (List.mem_of_getElem? (i := 8) rfl))))))))))) fa_n))))))))))))))))))) (fun w h => (me_s (me_l (me_l (me_r h)))))) (fun w h => (me_s (me_l (me_r h))))) (fun w h => (me_s (me_l (me_l (me_l (me_r h))))))) (fun w h => (me_s (me_r h))))) (by decide +kernel)
set_option maxRecDepth 20000 in
theorem gX11_units_X6_unitsOf : GoodIn wsX11_units (wsV RX11 147 RX6 yX6_unitsOf wsX6_unitsOf) := goodIn_app (goodIn_sub (fa_c (me_s (me_l (me_l (me_l (me_l (me_l (me_l (List.mem_of_getElem? (i := 18) rfl)))))))) (fa_c (me_s (me_l (me_l (me_l (me_l (me_l (me_l (List.mem_of_getElem? (i := 19) rfl)))))))) (fa_c (me_s (me_l (me_l (me_l (me_l (me_l (me_l (List.mem_of_getElem? (i := 20) rfl)))))))) (fa_c (me_s (me_l (me_l (me_l (me_l (me_l (me_l (List.mem_of_getElem? (i := 21) rfl)))))))) fa_n)))) (by decide +kernel)) ggX11_units_X6_unitsOf
theorem dX11_units_38 : decode cX11_units 38 = .ok (.invokevirtual 147, 3) := z_dd_182 (by decide +kernel)
theorem dX11_units_41 : decode cX11_units 41 = .ok (.ireturn, 1) := z_dd_172 (by decide +kernel)
theorem dX11_issue_19 : decode cX11_issue 19 = .ok (.iload_n 2, 1) := z_dd_28 (by decide +kernel)
set_option maxRecDepth 20000 in
theorem ggX11_issue_X11_isMonth : GoodIn wsX11_issue wsX11_isMonth := goodIn_sub (fa_c (me_s (me_l (me_l (me_l (me_l (me_l (me_l (me_l (List.mem_of_getElem? (i := 13) rfl))))))))) (fa_c (me_s (me_l (me_l (me_l (me_l (me_l (me_l (me_l (List.mem_of_getElem? (i := 14) rfl))))))))) (fa_c (me_s (me_l (me_l (me_l (me_l (me_l (me_l (me_l (List.mem_of_getElem? (i := 15) rfl))))))))) (fa_c (me_s (me_l (me_l (me_l (me_l (me_l (me_l (me_l (List.mem_of_getElem? (i := 12) rfl))))))))) (fa_c (me_s (me_l (me_l (me_l (me_l (me_l (me_l (me_l (List.mem_of_getElem? (i := 16) rfl))))))))) fa_n))))) (by decide +kernel)
set_option maxRecDepth 20000 in
theorem gX11_issue_X11_isMonth : GoodIn wsX11_issue (va_wsS RX11 122 yX11_isMonth wsX11_isMonth) := goodIn_app (goodIn_sub (fa_c (me_s (me_l (me_l (me_l (me_l (me_l (me_l (me_l (List.mem_of_getElem? (i := 10) rfl))))))))) (fa_c (me_s (me_l (me_l (me_l (me_l (me_l (me_l (me_l (List.mem_of_getElem? (i := 11) rfl))))))))) (fa_c (me_s (me_l (me_l (me_l (me_l (me_l (me_l (me_l (List.mem_of_getElem? (i := 12) rfl))))))))) fa_n))) (by decide +kernel)) ggX11_issue_X11_isMonth
theorem dX11_issue_20 : decode cX11_issue 20 = .ok (.invokestatic 122, 3) := z_dd_184 (by decide +kernel)
theorem dX11_issue_23 : decode cX11_issue 23 = .ok (.ifCond .eq 15, 3) := z_dd_153 (by decide +kernel)
theorem dX11_issue_26 : decode cX11_issue 26 = .ok (.iload_n 2, 1) := z_dd_28 (by decide +kernel)
theorem dX11_issue_27 : decode cX11_issue 27 = .ok (.iload_n 3, 1) := z_dd_29 (by decide +kernel)
theorem dX11_issue_28 : decode cX11_issue 28 = .ok (.if_icmp .lt 10, 3) := z_dd_161 (by decide +kernel)
theorem dX11_issue_31 : decode cX11_issue 31 = .ok (.iload_n 2, 1) := z_dd_28 (by decide +kernel)
theorem dX11_issue_32 : decode cX11_issue 32 = .ok (.iload_n 3, 1) := z_dd_29 (by decide +kernel)
theorem dX11_issue_33 : decode cX11_issue 33 = .ok (.iconst 1, 1) := z_dd_4 (by decide +kernel)
theorem dX11_issue_34 : decode cX11_issue 34 = .ok (.iadd, 1) := z_dd_96 (by decide +kernel)
theorem dX11_issue_35 : decode cX11_issue 35 = .ok (.if_icmp .le 5, 3) := z_dd_164 (by decide +kernel)
theorem dX11_issue_40 : decode cX11_issue 40 = .ok (.aload_n 0, 1) := z_dd_42 (by decide +kernel)
theorem dX11_issue_41 : decode cX11_issue 41 = .ok (.getfield 37, 3) := z_dd_180 (by decide +kernel)
theorem dX11_issue_44 : decode cX11_issue 44 = .ok (.iload_n 1, 1) := z_dd_27 (by decide +kernel)
theorem dX11_issue_45 : decode cX11_issue 45 = .ok (.iload_n 2, 1) := z_dd_28 (by decide +kernel)
set_option maxRecDepth 20000 in
theorem ggX11_issue_X0_isIssued : GoodIn wsX11_issue wsX0_isIssued := goodIn_sub (fa_c (me_s (me_l (me_l (me_l (me_l (me_l (me_l (me_l (List.mem_of_getElem? (i := 21) rfl))))))))) (fa_a (fa_c (me_s (me_l (me_l (me_l (me_l (me_l (me_l (me_l (List.mem_of_getElem? (i := 22) rfl))))))))) fa_n) (fun w h => (me_s (me_l (me_l (me_l (me_r h)))))))) (by decide +kernel)
set_option maxRecDepth 20000 in
theorem gX11_issue_X0_isIssued : GoodIn wsX11_issue (wsV RX11 151 RX0 yX0_isIssued wsX0_isIssued) := goodIn_app (goodIn_sub (fa_c (me_s (me_l (me_l (me_l (me_l (me_l (me_l (me_l (List.mem_of_getElem? (i := 17) rfl))))))))) (fa_c (me_s (me_l (me_l (me_l (me_l (me_l (me_l (me_l (List.mem_of_getElem? (i := 18) rfl))))))))) (fa_c (me_s (me_l (me_l (me_l (me_l (me_l (me_l (me_l (List.mem_of_getElem? (i := 19) rfl))))))))) (fa_c (me_s (me_l (me_l (me_l (me_l (me_l (me_l (me_l (List.mem_of_getElem? (i := 20) rfl))))))))) fa_n)))) (by decide +kernel)) ggX11_issue_X0_isIssued
theorem dX11_issue_46 : decode cX11_issue 46 = .ok (.invokevirtual 151, 3) := z_dd_182 (by decide +kernel)
theorem dX11_issue_49 : decode cX11_issue 49 = .ok (.ifCond .eq 5, 3) := z_dd_153 (by decide +kernel)
theorem dX11_issue_52 : decode cX11_issue 52 = .ok (.iconst (-1), 1) := z_dd_2 (by decide +kernel)
theorem dX11_issue_53 : decode cX11_issue 53 = .ok (.ireturn, 1) := z_dd_172 (by decide +kernel)
theorem dX11_issue_54 : decode cX11_issue 54 = .ok (.aload_n 0, 1) := z_dd_42 (by decide +kernel)
theorem dX11_issue_55 : decode cX11_issue 55 = .ok (.getfield 37, 3) := z_dd_180 (by decide +kernel)
theorem dX11_issue_58 : decode cX11_issue 58 = .ok (.iload_n 1, 1) := z_dd_27 (by decide +kernel)
theorem dX11_issue_59 : decode cX11_issue 59 = .ok (.iload_n 2, 1) := z_dd_28 (by decide +kernel)
theorem dX11_issue_60 : decode cX11_issue 60 = .ok (.aload_n 0, 1) := z_dd_42 (by decide +kernel)
theorem dX11_issue_61 : decode cX11_issue 61 = .ok (.getfield 30, 3) := z_dd_180 (by decide +kernel)
theorem dX11_issue_64 : decode cX11_issue 64 = .ok (.aload_n 0, 1) := z_dd_42 (by decide +kernel)
theorem dX11_issue_65 : decode cX11_issue 65 = .ok (.getfield 16, 3) := z_dd_180 (by decide +kernel)
theorem dX11_issue_68 : decode cX11_issue 68 = .ok (.iload_n 1, 1) := z_dd_27 (by decide +kernel)
theorem dX11_issue_69 : decode cX11_issue 69 = .ok (.iload_n 2, 1) := z_dd_28 (by decide +kernel)
theorem dX11_issue_70 : decode cX11_issue 70 = .ok (.aload_n 0, 1) := z_dd_42 (by decide +kernel)
theorem dX11_issue_71 : decode cX11_issue 71 = .ok (.getfield 85, 3) := z_dd_180 (by decide +kernel)
set_option maxRecDepth 20000 in
theorem ggX11_issue_X6_unitsOf : GoodIn wsX11_issue wsX6_unitsOf := goodIn_sub (fa_c (me_s (me_l (me_l (me_l (me_l (me_l (me_l (me_r (me_l (List.mem_of_getElem? (i := 3) rfl)))))))))) (fa_a (fa_a (fa_a (fa_a (fa_a (fa_c (me_s (me_l (me_l (me_l (me_l (me_l (me_l (me_r (me_l (List.mem_of_getElem? (i := 4) rfl)))))))))) (fa_c (me_s (me_l (me_l (me_l (me_l (me_l (me_l (me_r (me_l (List.mem_of_getElem? (i := 5) rfl)))))))))) (fa_c (me_s (me_l (me_l (me_l (me_l (me_l (me_l (me_r (me_l (List.mem_of_getElem? (i := 6) rfl)))))))))) (fa_c (me_s (me_l (me_l (me_l (me_l (me_l (me_l (me_r (me_l (List.mem_of_getElem? (i := 7) rfl)))))))))) (fa_c (me_s (me_l (me_l (me_l (me_l (me_l (me_l (me_r (me_l (List.mem_of_getElem? (i := 2) rfl)))))))))) (fa_c (me_s (me_l (me_l (me_l (me_l (me_l (me_l (me_r (me_l (List.mem_of_getElem? (i := 8) rfl)))))))))) (fa_c (me_s (me_l (me_l (me_l (me_l (me_l (me_l (me_r (me_l (List.mem_of_getElem? (i := 9) rfl)))))))))) (fa_c (me_s (me_l (me_l (me_l (me_l (me_l (me_l (me_r (me_l (List.mem_of_getElem? (i := 10) rfl)))))))))) (fa_c (me_s (me_l (me_l (me_l (me_l (me_l (me_l (me_r (me_l (List.mem_of_getElem? (i := 11) rfl)))))))))) (fa_c (me_s (me_l (me_l (me_l (me_l (me_l (me_l (me_r (me_l (List.mem_of_getElem? (i := 12) rfl)))))))))) (fa_c (me_s (me_l (me_l (me_l (me_l (me_l (me_l (me_r (me_l (List.mem_of_getElem? (i := 13) rfl)))))))))) (fa_c (me_s (me_l (me_l (me_l (me_l (me_l (me_l (me_r (me_l (List.mem_of_getElem? (i := 14) rfl)))))))))) (fa_c (me_s (me_l (me_l (me_l (me_l (me_l (me_l (me_r (me_l (List.mem_of_getElem? (i := 15) rfl)))))))))) (fa_c (me_s (me_l (me_l (me_l (me_l (me_l (me_l (me_r (me_l (List.mem_of_getElem? (i := 16) rfl)))))))))) (fa_c (me_s (me_l (me_l (me_l (me_l (me_l (me_l (me_r (me_l (List.mem_of_getElem? (i := 17) rfl)))))))))) (fa_c (me_s (me_l (me_l (me_l (me_l (me_l (me_l (me_l (List.mem_of_getElem? (i := 5) rfl))))))))) (fa_c (me_s (me_l (me_l (me_l (me_l (me_l (me_l (me_l (List.mem_of_getElem? (i := 6) rfl))))))))) (fa_c (me_s (me_l (me_l (me_l (me_l (me_l (me_l (me_l (List.mem_of_getElem? (i := 7) rfl))))))))) (fa_c (me_s (me_l (me_l (me_l (me_l (me_l (me_l (me_l (List.mem_of_getElem? (i := 8) rfl))))))))) (fa_c (me_s (me_l (me_l (me_l (me_l (me_l (me_l (me_l (List.mem_of_getElem? (i := 9) rfl))))))))) (fa_c (me_s (me_l (me_l (me_l (me_l (me_l (me_l (me_r (me_l (List.mem_of_getElem? (i := 18) rfl)))))))))) (fa_c (me_s (me_l (me_l (me_l (me_l (me_l (me_l (me_r (me_l (List.mem_of_getElem? (i := 19) rfl)))))))))) (fa_c (me_s (me_l (me_l (me_l (me_l (me_l (me_l (me_r (me_l (List.mem_of_getElem? (i := 20) rfl)))))))))) (fa_c (me_s (me_l (me_l (me_l (me_l (me_l (me_l (me_r (me_l (List.mem_of_getElem? (i := 21) rfl)))))))))) fa_n)))))))))))))))))))))))) (fa_a (fa_c (me_s (me_l (me_l (me_l (me_l (me_l (me_l (me_r (me_l (List.mem_of_getElem? (i := 22) rfl)))))))))) (fa_c (me_s (me_l (me_l (me_l (me_l (me_l (me_l (me_r (me_l (List.mem_of_getElem? (i := 23) rfl)))))))))) (fa_c (me_s (me_l (me_l (me_l (me_l (me_l (me_l (me_r (me_r (me_l (List.mem_of_getElem? (i := 0) rfl))))))))))) (fa_c (me_s (me_l (me_l (me_l (me_l (me_l (me_l (me_r (me_r (me_l (List.mem_of_getElem? (i := 1) rfl))))))))))) (fa_c (me_s (me_l (me_l (me_l (me_l (me_l (me_l (me_r (me_r (me_l (List.mem_of_getElem? (i := 2) rfl))))))))))) (fa_c (me_s (me_l (me_l (me_l (me_l (me_l (me_l (me_r (me_r (me_l (List.mem_of_getElem? (i := 3) rfl))))))))))) (fa_c (me_s (me_l (me_l (me_l (me_l (me_l (me_l (me_r (me_r (me_l (List.mem_of_getElem? (i := 4) rfl))))))))))) (fa_c (me_s (me_l (me_l (me_l (me_l (me_l (me_l (me_r (me_r (me_l (List.mem_of_getElem? (i := 5) rfl))))))))))) (fa_c (me_s (me_l (me_l (me_l (me_l (me_l (me_l (me_r (me_r (me_l (List.mem_of_getElem? (i := 6) rfl))))))))))) (fa_c (me_s (me_l (me_l (me_l (me_l (me_l (me_l (me_r (me_r (me_l (List.mem_of_getElem? (i := 7) rfl))))))))))) (fa_c (me_s (me_l (me_l (me_l (me_l (me_l (me_l (me_r (me_r (me_l (List.mem_of_getElem? (i := 8) rfl))))))))))) (fa_c (me_s (me_l (me_l (me_l (me_l (me_l (me_l (me_r (me_r (me_l (List.mem_of_getElem? (i := 9) rfl))))))))))) (fa_c (me_s (me_l (me_l (me_l (me_l (me_l (me_l (me_r (me_r (me_l (List.mem_of_getElem? (i := 10) rfl))))))))))) (fa_c (me_s (me_l (me_l (me_l (me_l (me_l (me_l (me_r (me_r (me_l (List.mem_of_getElem? (i := 11) rfl))))))))))) (fa_c (me_s (me_l (me_l (me_l (me_l (me_l (me_l (me_r (me_r (me_l (List.mem_of_getElem? (i := 12) rfl))))))))))) (fa_c (me_s (me_l (me_l (me_l (me_l (me_l (me_l (me_r (me_r (me_l (List.mem_of_getElem? (i := 13) rfl))))))))))) (fa_c (me_s (me_l (me_l (me_l (me_l (me_l (me_l (me_r (me_r (me_l (List.mem_of_getElem? (i := 14) rfl))))))))))) (fa_c (me_s (me_l (me_l (me_l (me_l (me_l (me_l (me_r (me_r (me_l (List.mem_of_getElem? (i := 15) rfl))))))))))) (fa_c (me_s (me_l (me_l (me_l (me_l (me_l (me_l (me_r (me_r (me_l (List.mem_of_getElem? (i := 16) rfl))))))))))) (fa_c (me_s (me_l (me_l (me_l (me_l (me_l (me_l (me_r (me_r (me_l (List.mem_of_getElem? (i := 17) rfl))))))))))) (fa_c (me_s (me_l (me_l (me_l (me_l (me_l (me_l (me_r (me_r (me_l (List.mem_of_getElem? (i := 18) rfl))))))))))) (fa_c (me_s (me_l (me_l (me_l (me_l (me_l (me_l (me_r (me_r (me_l (List.mem_of_getElem? (i := 19) rfl))))))))))) (fa_c (me_s (me_l (me_l (me_l (me_l (me_l (me_l (me_r (me_r (me_l (List.mem_of_getElem? (i := 20) rfl))))))))))) (fa_c (me_s (me_l (me_l (me_l (me_l (me_l (me_l (me_r (me_r (me_l (List.mem_of_getElem? (i := 21) rfl))))))))))) fa_n)))))))))))))))))))))))) (fa_a (fa_c (me_s (me_l (me_l (me_l (me_l (me_l (me_l (me_r (me_r (me_l (List.mem_of_getElem? (i := 22) rfl))))))))))) (fa_c (me_s (me_l (me_l (me_l (me_l (me_l (me_l (me_r (me_r (me_l (List.mem_of_getElem? (i := 23) rfl))))))))))) (fa_c (me_s (me_l (me_l (me_l (me_l (me_l (me_l (me_r (me_r (me_r (me_l (List.mem_of_getElem? (i := 0) rfl)))))))))))) (fa_c (me_s (me_l (me_l (me_l (me_l (me_l (me_l (me_r (me_r (me_r (me_l (List.mem_of_getElem? (i := 1) rfl)))))))))))) (fa_c (me_s (me_l (me_l (me_l (me_l (me_l (me_l (me_r (me_r (me_r (me_l (List.mem_of_getElem? (i := 2) rfl)))))))))))) (fa_c (me_s (me_l (me_l (me_l (me_l (me_l (me_l (me_r (me_r (me_r (me_l (List.mem_of_getElem? (i := 3) rfl)))))))))))) (fa_c (me_s (me_l (me_l (me_l (me_l (me_l (me_l (me_r (me_r (me_r (me_l (List.mem_of_getElem? (i := 4) rfl)))))))))))) (fa_c (me_s (me_l (me_l (me_l (me_l (me_l (me_l (me_r (me_r (me_r (me_l (List.mem_of_getElem? (i := 5) rfl)))))))))))) (fa_c (me_s (me_l (me_l (me_l (me_l (me_l (me_l (me_r (me_r (me_r (me_l (List.mem_of_getElem? (i := 6) rfl)))))))))))) (fa_c (me_s (me_l (me_l (me_l (me_l (me_l (me_l (me_r (me_r (me_r (me_l (List.mem_of_getElem? (i := 7) rfl)))))))))))) (fa_c (me_s (me_l (me_l (me_l (me_l (me_l (me_l (me_r (me_r (me_r (me_l (List.mem_of_getElem? (i := 8) rfl)))))))))))) (fa_c (me_s (me_l (me_l (me_l (me_l (me_l (me_l (me_r (me_r (me_r (me_l (List.mem_of_getElem? (i := 9) rfl)))))))))))) (fa_c (me_s (me_l (me_l (me_l (me_l (me_l (me_l (me_r (me_r (me_r (me_l (List.mem_of_getElem? (i := 10) rfl)))))))))))) (fa_c (me_s (me_l (me_l (me_l (me_l (me_l (me_l (me_r (me_r (me_r (me_l (List.mem_of_getElem? (i := 11) rfl)))))))))))) (fa_c (me_s (me_l (me_l (me_l (me_l (me_l (me_l (me_r (me_r (me_r (me_l (List.mem_of_getElem? (i := 12) rfl)))))))))))) (fa_c (me_s (me_l (me_l (me_l (me_l (me_l (me_l (me_r (me_r (me_r (me_l (List.mem_of_getElem? (i := 13) rfl)))))))))))) (fa_c (me_s (me_l (me_l (me_l (me_l (me_l (me_l (me_r (me_r (me_r (me_l (List.mem_of_getElem? (i := 14) rfl)))))))))))) (fa_c (me_s (me_l (me_l (me_l (me_l (me_l (me_l (me_r (me_r (me_r (me_l (List.mem_of_getElem? (i := 15) rfl)))))))))))) (fa_c (me_s (me_l (me_l (me_l (me_l (me_l (me_l (me_r (me_r (me_r (me_l (List.mem_of_getElem? (i := 16) rfl)))))))))))) (fa_c (me_s (me_l (me_l (me_l (me_l (me_l (me_l (me_r (me_r (me_r (me_l (List.mem_of_getElem? (i := 17) rfl)))))))))))) (fa_c (me_s (me_l (me_l (me_l (me_l (me_l (me_l (me_r (me_r (me_r (me_l (List.mem_of_getElem? (i := 18) rfl)))))))))))) (fa_c (me_s (me_l (me_l (me_l (me_l (me_l (me_l (me_r (me_r (me_r (me_l (List.mem_of_getElem? (i := 19) rfl)))))))))))) (fa_c (me_s (me_l (me_l (me_l (me_l (me_l (me_l (me_r (me_r (me_r (me_l (List.mem_of_getElem? (i := 20) rfl)))))))))))) (fa_c (me_s (me_l (me_l (me_l (me_l (me_l (me_l (me_r (me_r (me_r (me_l (List.mem_of_getElem? (i := 21) rfl)))))))))))) fa_n)))))))))))))))))))))))) (fa_c (me_s (me_l (me_l (me_l (me_l (me_l (me_l (me_r (me_r (me_r (me_l (List.mem_of_getElem? (i := 22) rfl)))))))))))) (fa_c (me_s (me_l (me_l (me_l (me_l (me_l (me_l (me_r (me_r (me_r (me_l (List.mem_of_getElem? (i := 23) rfl)))))))))))) (fa_c (me_s (me_l (me_l (me_l (me_l (me_l (me_l (me_r (me_r (me_r (me_r (List.mem_of_getElem? (i := 0) rfl)))))))))))) (fa_c (me_s (me_l (me_l (me_l (me_l (me_l (me_l (me_r (me_r (me_r (me_r (List.mem_of_getElem? (i := 1) rfl)))))))))))) (fa_c (me_s (me_l (me_l (me_l (me_l (me_l (me_l (me_r (me_r (me_r (me_r (List.mem_of_getElem? (i := 2) rfl)))))))))))) (fa_c (me_s (me_l (me_l (me_l (me_l (me_l (me_l (me_r (me_r (me_r (me_r (List.mem_of_getElem? (i := 3) rfl)))))))))))) (fa_c (me_s (me_l (me_l (me_l (me_l (me_l (me_l (me_r (me_r (me_r (me_r (List.mem_of_getElem? (i := 4) rfl)))))))))))) (fa_c (me_s (me_l (me_l (me_l (me_l (me_l (me_l (me_r (me_r (me_r (me_r (List.mem_of_getElem? (i := 5) rfl)))))))))))) (fa_c (me_s (me_l (me_l (me_l (me_l (me_l (me_l (me_r (me_r (me_r (me_r (List.mem_of_getElem? (i := 6) rfl)))))))))))) (fa_c (me_s (me_l (me_l (me_l (me_l (me_l (me_l (me_r (me_r (me_r (me_r (List.mem_of_getElem? (i := 7) rfl)))))))))))) (fa_c (me_s (me_l (me_l (me_l (me_l (me_l (me_l (me_r (me_r (me_r (me_r (List.mem_of_getElem? (i := 8) rfl)))))))))))) (fa_c (me_s (me_l (me_l (me_l (me_l (me_l (me_l (me_r (me_r (me_r (me_r (List.mem_of_getElem? (i := 9) rfl)))))))))))) (fa_c (me_s (me_l (me_l (me_l (me_l (me_l (me_l (me_r (me_r (me_r (me_r (List.mem_of_getElem? (i := 10) rfl)))))))))))) (fa_c (me_s (me_l (me_l (me_l (me_l (me_l (me_l (me_r (me_r (me_r (me_r (List.mem_of_getElem? (i := 11) rfl)))))))))))) (fa_c (me_s (me_l (me_l (me_l (me_l (me_l (me_l (me_r (me_r (me_r (me_r (List.mem_of_getElem? (i := 12) rfl)))))))))))) (fa_c (me_s (me_l (me_l (me_l (me_l (me_l (me_l (me_r (me_r (me_r (me_r (List.mem_of_getElem? (i := 13) rfl)))))))))))) fa_n))))))))))))))))))) (fun w h => (me_s (me_l (me_l (me_r h)))))) (fun w h => (me_s (me_l (me_r h))))) (fun w h => (me_s (me_l (me_l (me_l (me_l (me_r h)))))))) (fun w h => (me_s (me_r h))))) (by decide +kernel)
set_option maxRecDepth 20000 in
theorem gX11_issue_X6_unitsOf : GoodIn wsX11_issue (wsV RX11 147 RX6 yX6_unitsOf wsX6_unitsOf) := goodIn_app (goodIn_sub (fa_c (me_s (me_l (me_l (me_l (me_l (me_l (me_l (me_l (List.mem_of_getElem? (i := 23) rfl))))))))) (fa_c (me_s (me_l (me_l (me_l (me_l (me_l (me_l (me_r (me_l (List.mem_of_getElem? (i := 0) rfl)))))))))) (fa_c (me_s (me_l (me_l (me_l (me_l (me_l (me_l (me_r (me_l (List.mem_of_getElem? (i := 1) rfl)))))))))) (fa_c (me_s (me_l (me_l (me_l (me_l (me_l (me_l (me_r (me_l (List.mem_of_getElem? (i := 2) rfl)))))))))) fa_n)))) (by decide +kernel)) ggX11_issue_X6_unitsOf
theorem dX11_issue_74 : decode cX11_issue 74 = .ok (.invokevirtual 147, 3) := z_dd_182 (by decide +kernel)
set_option maxRecDepth 20000 in
theorem ggX11_issue_X0_add : GoodIn wsX11_issue wsX0_add := goodIn_sub (fa_c (me_s (me_l (me_l (me_l (me_l (me_l (me_l (me_r (me_r (me_r (me_r (List.mem_of_getElem? (i := 17) rfl)))))))))))) (fa_a (fa_c (me_s (me_l (me_l (me_l (me_l (me_l (me_l (me_l (List.mem_of_getElem? (i := 22) rfl))))))))) (fa_c (me_s (me_l (me_l (me_l (me_l (me_l (me_l (me_r (me_r (me_r (me_r (List.mem_of_getElem? (i := 18) rfl)))))))))))) fa_n)) (fun w h => (me_s (me_l (me_l (me_l (me_r h)))))))) (by decide +kernel)
set_option maxRecDepth 20000 in
theorem gX11_issue_X0_add : GoodIn wsX11_issue (wsV RX11 154 RX0 yX0_add wsX0_add) := goodIn_app (goodIn_sub (fa_c (me_s (me_l (me_l (me_l (me_l (me_l (me_l (me_r (me_r (me_r (me_r (List.mem_of_getElem? (i := 14) rfl)))))))))))) (fa_c (me_s (me_l (me_l (me_l (me_l (me_l (me_l (me_r (me_r (me_r (me_r (List.mem_of_getElem? (i := 15) rfl)))))))))))) (fa_c (me_s (me_l (me_l (me_l (me_l (me_l (me_l (me_r (me_r (me_r (me_r (List.mem_of_getElem? (i := 16) rfl)))))))))))) (fa_c (me_s (me_l (me_l (me_l (me_l (me_l (me_l (me_l (List.mem_of_getElem? (i := 20) rfl))))))))) fa_n)))) (by decide +kernel)) ggX11_issue_X0_add
theorem dX11_issue_77 : decode cX11_issue 77 = .ok (.invokevirtual 154, 3) := z_dd_182 (by decide +kernel)
theorem dX11_issue_80 : decode cX11_issue 80 = .ok (.ireturn, 1) := z_dd_172 (by decide +kernel)
theorem dX11_lend_11 : decode cX11_lend 11 = .ok (.aload_n 0, 1) := z_dd_42 (by decide +kernel)
theorem dX11_lend_12 : decode cX11_lend 12 = .ok (.getfield 16, 3) := z_dd_180 (by decide +kernel)
theorem dX11_lend_15 : decode cX11_lend 15 = .ok (.iload_n 2, 1) := z_dd_28 (by decide +kernel)
set_option maxRecDepth 20000 in
theorem ggX11_lend_X2_has : GoodIn wsX11_lend wsX2_has := goodIn_sub (fa_c (me_s (me_l (me_l (me_l (me_l (me_l (me_l (me_l (List.mem_of_getElem? (i := 15) rfl))))))))) (fa_a (fa_c (me_s (me_l (me_l (me_l (me_l (me_l (me_l (me_l (List.mem_of_getElem? (i := 16) rfl))))))))) fa_n) (fun w h => (me_s (me_l (me_l (me_l (me_r h)))))))) (by decide +kernel)
set_option maxRecDepth 20000 in
theorem gX11_lend_X2_has : GoodIn wsX11_lend (wsV RX11 96 RX2 yX2_has wsX2_has) := goodIn_app (goodIn_sub (fa_c (me_s (me_l (me_l (me_l (me_l (me_l (me_l (me_l (List.mem_of_getElem? (i := 11) rfl))))))))) (fa_c (me_s (me_l (me_l (me_l (me_l (me_l (me_l (me_l (List.mem_of_getElem? (i := 12) rfl))))))))) (fa_c (me_s (me_l (me_l (me_l (me_l (me_l (me_l (me_l (List.mem_of_getElem? (i := 13) rfl))))))))) (fa_c (me_s (me_l (me_l (me_l (me_l (me_l (me_l (me_l (List.mem_of_getElem? (i := 14) rfl))))))))) fa_n)))) (by decide +kernel)) ggX11_lend_X2_has
theorem dX11_lend_16 : decode cX11_lend 16 = .ok (.invokevirtual 96, 3) := z_dd_182 (by decide +kernel)
theorem dX11_lend_19 : decode cX11_lend 19 = .ok (.ifCond .eq 11, 3) := z_dd_153 (by decide +kernel)
theorem dX11_lend_22 : decode cX11_lend 22 = .ok (.iload_n 1, 1) := z_dd_27 (by decide +kernel)
set_option maxRecDepth 20000 in
theorem ggX11_lend_X0_holderOf : GoodIn wsX11_lend wsX0_holderOf := goodIn_sub (fa_c (me_s (me_l (me_l (me_l (me_l (me_l (me_l (me_l (List.mem_of_getElem? (i := 19) rfl))))))))) fa_n) (by decide +kernel)
set_option maxRecDepth 20000 in
theorem gX11_lend_X0_holderOf : GoodIn wsX11_lend (va_wsS RX11 157 yX0_holderOf wsX0_holderOf) := goodIn_app (goodIn_sub (fa_c (me_s (me_l (me_l (me_l (me_l (me_l (me_l (me_l (List.mem_of_getElem? (i := 17) rfl))))))))) (fa_c (me_s (me_l (me_l (me_l (me_l (me_l (me_l (me_l (List.mem_of_getElem? (i := 18) rfl))))))))) (fa_c (me_s (me_l (me_l (me_l (me_l (me_l (me_l (me_l (List.mem_of_getElem? (i := 8) rfl))))))))) fa_n))) (by decide +kernel)) ggX11_lend_X0_holderOf
theorem dX11_lend_23 : decode cX11_lend 23 = .ok (.invokestatic 157, 3) := z_dd_184 (by decide +kernel)
theorem dX11_lend_26 : decode cX11_lend 26 = .ok (.iload_n 2, 1) := z_dd_28 (by decide +kernel)
theorem dX11_lend_27 : decode cX11_lend 27 = .ok (.if_icmp .ne 5, 3) := z_dd_160 (by decide +kernel)
theorem dX11_lend_32 : decode cX11_lend 32 = .ok (.aload_n 0, 1) := z_dd_42 (by decide +kernel)
theorem dX11_lend_33 : decode cX11_lend 33 = .ok (.getfield 37, 3) := z_dd_180 (by decide +kernel)
theorem dX11_lend_36 : decode cX11_lend 36 = .ok (.iload_n 1, 1) := z_dd_27 (by decide +kernel)
set_option maxRecDepth 20000 in
theorem ggX11_lend_X0_isLent : GoodIn wsX11_lend wsX0_isLent := goodIn_sub (fa_c (me_s (me_l (me_l (me_l (me_l (me_l (me_l (me_l (List.mem_of_getElem? (i := 23) rfl))))))))) (fa_a (fa_c (me_s (me_l (me_l (me_l (me_l (me_l (me_l (me_r (me_l (List.mem_of_getElem? (i := 0) rfl)))))))))) (fa_c (me_s (me_l (me_l (me_l (me_l (me_l (me_l (me_r (me_l (List.mem_of_getElem? (i := 1) rfl)))))))))) (fa_c (me_s (me_l (me_l (me_l (me_l (me_l (me_l (me_r (me_l (List.mem_of_getElem? (i := 2) rfl)))))))))) (fa_c (me_s (me_l (me_l (me_l (me_l (me_l (me_l (me_l (List.mem_of_getElem? (i := 8) rfl))))))))) (fa_c (me_s (me_l (me_l (me_l (me_l (me_l (me_l (me_r (me_l (List.mem_of_getElem? (i := 3) rfl)))))))))) (fa_c (me_s (me_l (me_l (me_l (me_l (me_l (me_l (me_r (me_l (List.mem_of_getElem? (i := 4) rfl)))))))))) (fa_c (me_s (me_l (me_l (me_l (me_l (me_l (me_l (me_r (me_l (List.mem_of_getElem? (i := 5) rfl)))))))))) fa_n))))))) (fun w h => (me_s (me_l (me_l (me_l (me_l (me_r h))))))))) (by decide +kernel)
set_option maxRecDepth 20000 in
theorem gX11_lend_X0_isLent : GoodIn wsX11_lend (wsV RX11 160 RX0 yX0_isLent wsX0_isLent) := goodIn_app (goodIn_sub (fa_c (me_s (me_l (me_l (me_l (me_l (me_l (me_l (me_l (List.mem_of_getElem? (i := 20) rfl))))))))) (fa_c (me_s (me_l (me_l (me_l (me_l (me_l (me_l (me_l (List.mem_of_getElem? (i := 21) rfl))))))))) (fa_c (me_s (me_l (me_l (me_l (me_l (me_l (me_l (me_l (List.mem_of_getElem? (i := 22) rfl))))))))) (fa_c (me_s (me_l (me_l (me_l (me_l (me_l (me_l (me_l (List.mem_of_getElem? (i := 8) rfl))))))))) fa_n)))) (by decide +kernel)) ggX11_lend_X0_isLent
theorem dX11_lend_37 : decode cX11_lend 37 = .ok (.invokevirtual 160, 3) := z_dd_182 (by decide +kernel)
theorem dX11_lend_40 : decode cX11_lend 40 = .ok (.ifCond .ne 14, 3) := z_dd_154 (by decide +kernel)
theorem dX11_lend_54 : decode cX11_lend 54 = .ok (.iconst 0, 1) := z_dd_3 (by decide +kernel)
theorem dX11_lend_55 : decode cX11_lend 55 = .ok (.ireturn, 1) := z_dd_172 (by decide +kernel)
theorem dX11_lend_43 : decode cX11_lend 43 = .ok (.aload_n 0, 1) := z_dd_42 (by decide +kernel)
theorem dX11_lend_44 : decode cX11_lend 44 = .ok (.getfield 44, 3) := z_dd_180 (by decide +kernel)
theorem dX11_lend_47 : decode cX11_lend 47 = .ok (.iload_n 1, 1) := z_dd_27 (by decide +kernel)
set_option maxRecDepth 20000 in
theorem ggX11_lend_X8_wasHandedIn : GoodIn wsX11_lend wsX8_wasHandedIn := goodIn_sub (fa_c (me_s (me_l (me_l (me_l (me_l (me_l (me_l (me_r (me_l (List.mem_of_getElem? (i := 10) rfl)))))))))) (fa_a (fa_c (me_s (me_l (me_l (me_l (me_l (me_l (me_l (me_r (me_l (List.mem_of_getElem? (i := 11) rfl)))))))))) (fa_c (me_s (me_l (me_l (me_l (me_l (me_l (me_l (me_r (me_l (List.mem_of_getElem? (i := 12) rfl)))))))))) (fa_c (me_s (me_l (me_l (me_l (me_l (me_l (me_l (me_r (me_l (List.mem_of_getElem? (i := 13) rfl)))))))))) fa_n))) (fun w h => (me_s (me_l (me_l (me_r h))))))) (by decide +kernel)
set_option maxRecDepth 20000 in
theorem gX11_lend_X8_wasHandedIn : GoodIn wsX11_lend (wsV RX11 163 RX8 yX8_wasHandedIn wsX8_wasHandedIn) := goodIn_app (goodIn_sub (fa_c (me_s (me_l (me_l (me_l (me_l (me_l (me_l (me_r (me_l (List.mem_of_getElem? (i := 6) rfl)))))))))) (fa_c (me_s (me_l (me_l (me_l (me_l (me_l (me_l (me_r (me_l (List.mem_of_getElem? (i := 7) rfl)))))))))) (fa_c (me_s (me_l (me_l (me_l (me_l (me_l (me_l (me_r (me_l (List.mem_of_getElem? (i := 8) rfl)))))))))) (fa_c (me_s (me_l (me_l (me_l (me_l (me_l (me_l (me_r (me_l (List.mem_of_getElem? (i := 9) rfl)))))))))) fa_n)))) (by decide +kernel)) ggX11_lend_X8_wasHandedIn
theorem dX11_lend_48 : decode cX11_lend 48 = .ok (.invokevirtual 163, 3) := z_dd_182 (by decide +kernel)
theorem dX11_lend_51 : decode cX11_lend 51 = .ok (.ifCond .eq 5, 3) := z_dd_153 (by decide +kernel)
theorem dX11_lend_56 : decode cX11_lend 56 = .ok (.aload_n 0, 1) := z_dd_42 (by decide +kernel)
theorem dX11_lend_57 : decode cX11_lend 57 = .ok (.getfield 30, 3) := z_dd_180 (by decide +kernel)
theorem dX11_lend_60 : decode cX11_lend 60 = .ok (.iconst 2, 1) := z_dd_5 (by decide +kernel)
theorem dX11_lend_61 : decode cX11_lend 61 = .ok (.iload_n 1, 1) := z_dd_27 (by decide +kernel)
set_option maxRecDepth 20000 in
theorem ggX11_lend_X0_monthOf : GoodIn wsX11_lend wsX0_monthOf := goodIn_sub (fa_c (me_s (me_l (me_l (me_l (me_l (me_l (me_l (me_r (me_l (List.mem_of_getElem? (i := 16) rfl)))))))))) fa_n) (by decide +kernel)
set_option maxRecDepth 20000 in
theorem gX11_lend_X0_monthOf : GoodIn wsX11_lend (va_wsS RX11 166 yX0_monthOf wsX0_monthOf) := goodIn_app (goodIn_sub (fa_c (me_s (me_l (me_l (me_l (me_l (me_l (me_l (me_r (me_l (List.mem_of_getElem? (i := 14) rfl)))))))))) (fa_c (me_s (me_l (me_l (me_l (me_l (me_l (me_l (me_r (me_l (List.mem_of_getElem? (i := 15) rfl)))))))))) (fa_c (me_s (me_l (me_l (me_l (me_l (me_l (me_l (me_l (List.mem_of_getElem? (i := 8) rfl))))))))) fa_n))) (by decide +kernel)) ggX11_lend_X0_monthOf
theorem dX11_lend_62 : decode cX11_lend 62 = .ok (.invokestatic 166, 3) := z_dd_184 (by decide +kernel)
theorem dX11_lend_65 : decode cX11_lend 65 = .ok (.aload_n 0, 1) := z_dd_42 (by decide +kernel)
theorem dX11_lend_66 : decode cX11_lend 66 = .ok (.getfield 85, 3) := z_dd_180 (by decide +kernel)
set_option maxRecDepth 20000 in
theorem ggX11_lend_X6_amount : GoodIn wsX11_lend wsX6_amount := goodIn_sub (fa_c (me_s (me_l (me_l (me_l (me_l (me_l (me_l (me_r (me_l (List.mem_of_getElem? (i := 21) rfl)))))))))) (fa_a (fa_a (fa_c (me_s (me_l (me_l (me_l (me_l (me_l (me_l (me_r (me_l (List.mem_of_getElem? (i := 22) rfl)))))))))) (fa_c (me_s (me_l (me_l (me_l (me_l (me_l (me_l (me_r (me_l (List.mem_of_getElem? (i := 23) rfl)))))))))) (fa_c (me_s (me_l (me_l (me_l (me_l (me_l (me_l (me_r (me_r (me_l (List.mem_of_getElem? (i := 0) rfl))))))))))) (fa_c (me_s (me_l (me_l (me_l (me_l (me_l (me_l (me_r (me_l (List.mem_of_getElem? (i := 20) rfl)))))))))) (fa_c (me_s (me_l (me_l (me_l (me_l (me_l (me_l (me_r (me_r (me_l (List.mem_of_getElem? (i := 1) rfl))))))))))) (fa_c (me_s (me_l (me_l (me_l (me_l (me_l (me_l (me_r (me_r (me_l (List.mem_of_getElem? (i := 2) rfl))))))))))) (fa_c (me_s (me_l (me_l (me_l (me_l (me_l (me_l (me_r (me_r (me_l (List.mem_of_getElem? (i := 3) rfl))))))))))) (fa_c (me_s (me_l (me_l (me_l (me_l (me_l (me_l (me_r (me_r (me_l (List.mem_of_getElem? (i := 4) rfl))))))))))) (fa_c (me_s (me_l (me_l (me_l (me_l (me_l (me_l (me_r (me_r (me_l (List.mem_of_getElem? (i := 5) rfl))))))))))) (fa_c (me_s (me_l (me_l (me_l (me_l (me_l (me_l (me_r (me_r (me_l (List.mem_of_getElem? (i := 6) rfl))))))))))) (fa_c (me_s (me_l (me_l (me_l (me_l (me_l (me_l (me_r (me_r (me_l (List.mem_of_getElem? (i := 7) rfl))))))))))) (fa_c (me_s (me_l (me_l (me_l (me_l (me_l (me_l (me_r (me_r (me_l (List.mem_of_getElem? (i := 8) rfl))))))))))) (fa_c (me_s (me_l (me_l (me_l (me_l (me_l (me_l (me_r (me_r (me_l (List.mem_of_getElem? (i := 9) rfl))))))))))) (fa_c (me_s (me_l (me_l (me_l (me_l (me_l (me_l (me_r (me_r (me_l (List.mem_of_getElem? (i := 10) rfl))))))))))) (fa_c (me_s (me_l (me_l (me_l (me_l (me_l (me_l (me_r (me_r (me_l (List.mem_of_getElem? (i := 11) rfl))))))))))) (fa_c (me_s (me_l (me_l (me_l (me_l (me_l (me_l (me_r (me_r (me_l (List.mem_of_getElem? (i := 12) rfl))))))))))) (fa_c (me_s (me_l (me_l (me_l (me_l (me_l (me_l (me_r (me_r (me_l (List.mem_of_getElem? (i := 13) rfl))))))))))) (fa_c (me_s (me_l (me_l (me_l (me_l (me_l (me_l (me_r (me_r (me_l (List.mem_of_getElem? (i := 14) rfl))))))))))) (fa_c (me_s (me_l (me_l (me_l (me_l (me_l (me_l (me_r (me_r (me_l (List.mem_of_getElem? (i := 15) rfl))))))))))) (fa_c (me_s (me_l (me_l (me_l (me_l (me_l (me_l (me_r (me_r (me_l (List.mem_of_getElem? (i := 16) rfl))))))))))) (fa_c (me_s (me_l (me_l (me_l (me_l (me_l (me_l (me_r (me_r (me_l (List.mem_of_getElem? (i := 17) rfl))))))))))) (fa_c (me_s (me_l (me_l (me_l (me_l (me_l (me_l (me_r (me_r (me_l (List.mem_of_getElem? (i := 18) rfl))))))))))) (fa_c (me_s (me_l (me_l (me_l (me_l (me_l (me_l (me_r (me_r (me_l (List.mem_of_getElem? (i := 19) rfl))))))))))) (fa_c (me_s (me_l (me_l (me_l (me_l (me_l (me_l (me_r (me_r (me_l (List.mem_of_getElem? (i := 20) rfl))))))))))) fa_n)))))))))))))))))))))))) (fun w h => (me_s (me_l (me_r h))))) (fun w h => (me_s (me_r h))))) (by decide +kernel)
set_option maxRecDepth 20000 in
theorem gX11_lend_X6_amount : GoodIn wsX11_lend (wsV RX11 144 RX6 yX6_amount wsX6_amount) := goodIn_app (goodIn_sub (fa_c (me_s (me_l (me_l (me_l (me_l (me_l (me_l (me_r (me_l (List.mem_of_getElem? (i := 17) rfl)))))))))) (fa_c (me_s (me_l (me_l (me_l (me_l (me_l (me_l (me_r (me_l (List.mem_of_getElem? (i := 18) rfl)))))))))) (fa_c (me_s (me_l (me_l (me_l (me_l (me_l (me_l (me_r (me_l (List.mem_of_getElem? (i := 19) rfl)))))))))) (fa_c (me_s (me_l (me_l (me_l (me_l (me_l (me_l (me_r (me_l (List.mem_of_getElem? (i := 20) rfl)))))))))) fa_n)))) (by decide +kernel)) ggX11_lend_X6_amount
theorem dX11_lend_69 : decode cX11_lend 69 = .ok (.invokevirtual 144, 3) := z_dd_182 (by decide +kernel)
theorem dX11_lend_72 : decode cX11_lend 72 = .ok (.istore_n 3, 1) := z_dd_62 (by decide +kernel)
theorem dX11_lend_73 : decode cX11_lend 73 = .ok (.aload_n 0, 1) := z_dd_42 (by decide +kernel)
theorem dX11_lend_74 : decode cX11_lend 74 = .ok (.getfield 37, 3) := z_dd_180 (by decide +kernel)
theorem dX11_lend_77 : decode cX11_lend 77 = .ok (.iload_n 1, 1) := z_dd_27 (by decide +kernel)
set_option maxRecDepth 20000 in
theorem ggX11_lend_X0_lentOfBook : GoodIn wsX11_lend wsX0_lentOfBook := goodIn_sub (fa_c (me_s (me_l (me_l (me_l (me_l (me_l (me_l (me_r (me_r (me_r (List.mem_of_getElem? (i := 0) rfl))))))))))) (fa_a (fa_c (me_s (me_l (me_l (me_l (me_l (me_l (me_l (me_r (me_l (List.mem_of_getElem? (i := 4) rfl)))))))))) (fa_c (me_s (me_l (me_l (me_l (me_l (me_l (me_l (me_r (me_l (List.mem_of_getElem? (i := 5) rfl)))))))))) fa_n)) (fun w h => (me_s (me_l (me_l (me_l (me_l (me_r h))))))))) (by decide +kernel)
set_option maxRecDepth 20000 in
theorem gX11_lend_X0_lentOfBook : GoodIn wsX11_lend (wsV RX11 169 RX0 yX0_lentOfBook wsX0_lentOfBook) := goodIn_app (goodIn_sub (fa_c (me_s (me_l (me_l (me_l (me_l (me_l (me_l (me_r (me_r (me_l (List.mem_of_getElem? (i := 21) rfl))))))))))) (fa_c (me_s (me_l (me_l (me_l (me_l (me_l (me_l (me_r (me_r (me_l (List.mem_of_getElem? (i := 22) rfl))))))))))) (fa_c (me_s (me_l (me_l (me_l (me_l (me_l (me_l (me_r (me_r (me_l (List.mem_of_getElem? (i := 23) rfl))))))))))) (fa_c (me_s (me_l (me_l (me_l (me_l (me_l (me_l (me_l (List.mem_of_getElem? (i := 8) rfl))))))))) fa_n)))) (by decide +kernel)) ggX11_lend_X0_lentOfBook
theorem dX11_lend_78 : decode cX11_lend 78 = .ok (.invokevirtual 169, 3) := z_dd_182 (by decide +kernel)
theorem dX11_lend_81 : decode cX11_lend 81 = .ok (.iload_n 3, 1) := z_dd_29 (by decide +kernel)
theorem dX11_lend_82 : decode cX11_lend 82 = .ok (.if_icmp .lt 5, 3) := z_dd_161 (by decide +kernel)
theorem dX11_lend_87 : decode cX11_lend 87 = .ok (.aload_n 0, 1) := z_dd_42 (by decide +kernel)
theorem dX11_lend_88 : decode cX11_lend 88 = .ok (.getfield 37, 3) := z_dd_180 (by decide +kernel)
theorem dX11_lend_91 : decode cX11_lend 91 = .ok (.iload_n 1, 1) := z_dd_27 (by decide +kernel)
theorem dX11_lend_92 : decode cX11_lend 92 = .ok (.iload_n 2, 1) := z_dd_28 (by decide +kernel)
set_option maxRecDepth 20000 in
theorem ggX11_lend_X0_addLent : GoodIn wsX11_lend wsX0_addLent := goodIn_sub (fa_c (me_s (me_l (me_l (me_l (me_l (me_l (me_l (me_r (me_r (me_r (List.mem_of_getElem? (i := 4) rfl))))))))))) (fa_a (fa_c (me_s (me_l (me_l (me_l (me_l (me_l (me_l (me_r (me_l (List.mem_of_getElem? (i := 4) rfl)))))))))) (fa_c (me_s (me_l (me_l (me_l (me_l (me_l (me_l (me_r (me_l (List.mem_of_getElem? (i := 5) rfl)))))))))) (fa_c (me_s (me_l (me_l (me_l (me_l (me_l (me_l (me_r (me_r (me_r (List.mem_of_getElem? (i := 5) rfl))))))))))) fa_n))) (fun w h => (me_s (me_l (me_l (me_l (me_l (me_r h))))))))) (by decide +kernel)
set_option maxRecDepth 20000 in
theorem gX11_lend_X0_addLent : GoodIn wsX11_lend (wsV RX11 172 RX0 yX0_addLent wsX0_addLent) := goodIn_app (goodIn_sub (fa_c (me_s (me_l (me_l (me_l (me_l (me_l (me_l (me_r (me_r (me_r (List.mem_of_getElem? (i := 1) rfl))))))))))) (fa_c (me_s (me_l (me_l (me_l (me_l (me_l (me_l (me_r (me_r (me_r (List.mem_of_getElem? (i := 2) rfl))))))))))) (fa_c (me_s (me_l (me_l (me_l (me_l (me_l (me_l (me_r (me_r (me_r (List.mem_of_getElem? (i := 3) rfl))))))))))) (fa_c (me_s (me_l (me_l (me_l (me_l (me_l (me_l (me_l (List.mem_of_getElem? (i := 8) rfl))))))))) fa_n)))) (by decide +kernel)) ggX11_lend_X0_addLent
theorem dX11_lend_93 : decode cX11_lend 93 = .ok (.invokevirtual 172, 3) := z_dd_182 (by decide +kernel)
theorem dX11_lend_96 : decode cX11_lend 96 = .ok (.ireturn, 1) := z_dd_172 (by decide +kernel)
theorem dX11_lend_85 : decode cX11_lend 85 = .ok (.iconst 0, 1) := z_dd_3 (by decide +kernel)
theorem dX11_lend_86 : decode cX11_lend 86 = .ok (.ireturn, 1) := z_dd_172 (by decide +kernel)
theorem dX11_hasStation_12 : decode cX11_hasStation 12 = .ok (.iconst 1, 1) := z_dd_4 (by decide +kernel)
theorem dX11_hasStation_13 : decode cX11_hasStation 13 = .ok (.goto 4, 3) := z_dd_167 (by decide +kernel)
theorem dX11_isFarmerNow_0 : decode cX11_isFarmerNow 0 = .ok (.aload_n 0, 1) := z_dd_42 (by decide +kernel)
theorem dX11_isFarmerNow_1 : decode cX11_isFarmerNow 1 = .ok (.getfield 16, 3) := z_dd_180 (by decide +kernel)
theorem dX11_isFarmerNow_4 : decode cX11_isFarmerNow 4 = .ok (.iload_n 1, 1) := z_dd_27 (by decide +kernel)
theorem dX11_isFarmerNow_5 : decode cX11_isFarmerNow 5 = .ok (.aload_n 0, 1) := z_dd_42 (by decide +kernel)
theorem dX11_isFarmerNow_6 : decode cX11_isFarmerNow 6 = .ok (.getfield 85, 3) := z_dd_180 (by decide +kernel)
theorem dX11_isFarmerNow_9 : decode cX11_isFarmerNow 9 = .ok (.aload_n 0, 1) := z_dd_42 (by decide +kernel)
theorem dX11_isFarmerNow_10 : decode cX11_isFarmerNow 10 = .ok (.getfield 85, 3) := z_dd_180 (by decide +kernel)
set_option maxRecDepth 20000 in
theorem ggX11_isFarmerNow_X2_kindOn : GoodIn wsX11_isFarmerNow wsX2_kindOn := goodIn_sub (fa_c (me_s (me_l (me_l (List.mem_of_getElem? (i := 6) rfl)))) (fa_a (fa_c (me_s (me_l (me_l (List.mem_of_getElem? (i := 7) rfl)))) (fa_c (me_s (me_l (me_l (List.mem_of_getElem? (i := 8) rfl)))) (fa_c (me_s (me_l (me_l (List.mem_of_getElem? (i := 9) rfl)))) (fa_c (me_s (me_l (me_l (List.mem_of_getElem? (i := 10) rfl)))) (fa_c (me_s (me_l (me_l (List.mem_of_getElem? (i := 11) rfl)))) (fa_c (me_s (me_l (me_l (List.mem_of_getElem? (i := 12) rfl)))) fa_n)))))) (fun w h => (me_s (me_r h))))) (by decide +kernel)
set_option maxRecDepth 20000 in
theorem gX11_isFarmerNow_X2_kindOn : GoodIn wsX11_isFarmerNow (wsV RX11 111 RX2 yX2_kindOn wsX2_kindOn) := goodIn_app (goodIn_sub (fa_c (me_s (me_l (me_l (List.mem_of_getElem? (i := 2) rfl)))) (fa_c (me_s (me_l (me_l (List.mem_of_getElem? (i := 3) rfl)))) (fa_c (me_s (me_l (me_l (List.mem_of_getElem? (i := 4) rfl)))) (fa_c (me_s (me_l (me_l (List.mem_of_getElem? (i := 5) rfl)))) fa_n)))) (by decide +kernel)) ggX11_isFarmerNow_X2_kindOn
theorem dX11_isFarmerNow_13 : decode cX11_isFarmerNow 13 = .ok (.invokevirtual 111, 3) := z_dd_182 (by decide +kernel)
theorem dX11_isFarmerNow_16 : decode cX11_isFarmerNow 16 = .ok (.iconst 2, 1) := z_dd_5 (by decide +kernel)
theorem dX11_isFarmerNow_17 : decode cX11_isFarmerNow 17 = .ok (.if_icmp .ne 7, 3) := z_dd_160 (by decide +kernel)
theorem dX11_isFarmerNow_24 : decode cX11_isFarmerNow 24 = .ok (.iconst 0, 1) := z_dd_3 (by decide +kernel)
theorem dX11_isFarmerNow_25 : decode cX11_isFarmerNow 25 = .ok (.ireturn, 1) := z_dd_172 (by decide +kernel)
theorem dX11_isFarmerNow_20 : decode cX11_isFarmerNow 20 = .ok (.iconst 1, 1) := z_dd_4 (by decide +kernel)
theorem dX11_isFarmerNow_21 : decode cX11_isFarmerNow 21 = .ok (.goto 4, 3) := z_dd_167 (by decide +kernel)
theorem dX11_pour_8 : decode cX11_pour 8 = .ok (.aload_n 0, 1) := z_dd_42 (by decide +kernel)
theorem dX11_pour_9 : decode cX11_pour 9 = .ok (.getfield 16, 3) := z_dd_180 (by decide +kernel)
theorem dX11_pour_12 : decode cX11_pour 12 = .ok (.iload_n 2, 1) := z_dd_28 (by decide +kernel)
set_option maxRecDepth 20000 in
theorem ggX11_pour_X2_has : GoodIn wsX11_pour wsX2_has := goodIn_sub (fa_c (me_s (me_l (me_l (me_l (me_l (me_l (me_l (me_l (List.mem_of_getElem? (i := 19) rfl))))))))) (fa_a (fa_c (me_s (me_l (me_l (me_l (me_l (me_l (me_l (me_l (List.mem_of_getElem? (i := 20) rfl))))))))) fa_n) (fun w h => (me_s (me_l (me_l (me_l (me_r h)))))))) (by decide +kernel)
set_option maxRecDepth 20000 in
theorem gX11_pour_X2_has : GoodIn wsX11_pour (wsV RX11 96 RX2 yX2_has wsX2_has) := goodIn_app (goodIn_sub (fa_c (me_s (me_l (me_l (me_l (me_l (me_l (me_l (me_l (List.mem_of_getElem? (i := 15) rfl))))))))) (fa_c (me_s (me_l (me_l (me_l (me_l (me_l (me_l (me_l (List.mem_of_getElem? (i := 16) rfl))))))))) (fa_c (me_s (me_l (me_l (me_l (me_l (me_l (me_l (me_l (List.mem_of_getElem? (i := 17) rfl))))))))) (fa_c (me_s (me_l (me_l (me_l (me_l (me_l (me_l (me_l (List.mem_of_getElem? (i := 18) rfl))))))))) fa_n)))) (by decide +kernel)) ggX11_pour_X2_has
theorem dX11_pour_13 : decode cX11_pour 13 = .ok (.invokevirtual 96, 3) := z_dd_182 (by decide +kernel)
theorem dX11_pour_16 : decode cX11_pour 16 = .ok (.ifCond .eq 13, 3) := z_dd_153 (by decide +kernel)
theorem dX11_pour_19 : decode cX11_pour 19 = .ok (.iload_n 3, 1) := z_dd_29 (by decide +kernel)
theorem dX11_pour_20 : decode cX11_pour 20 = .ok (.iconst 0, 1) := z_dd_3 (by decide +kernel)
theorem dX11_pour_21 : decode cX11_pour 21 = .ok (.ldc 185, 2) := z_dd_18 (by decide +kernel)
set_option maxRecDepth 20000 in
theorem ggX11_pour_X11_within : GoodIn wsX11_pour wsX11_within := goodIn_sub (fa_c (me_s (me_l (me_l (me_l (me_l (me_l (me_l (me_l (List.mem_of_getElem? (i := 23) rfl))))))))) fa_n) (by decide +kernel)
set_option maxRecDepth 20000 in
theorem gX11_pour_X11_within : GoodIn wsX11_pour (va_wsS RX11 88 yX11_within wsX11_within) := goodIn_app (goodIn_sub (fa_c (me_s (me_l (me_l (me_l (me_l (me_l (me_l (me_l (List.mem_of_getElem? (i := 21) rfl))))))))) (fa_c (me_s (me_l (me_l (me_l (me_l (me_l (me_l (me_l (List.mem_of_getElem? (i := 22) rfl))))))))) (fa_c (me_s (me_l (me_l (me_l (me_l (me_l (me_l (me_l (List.mem_of_getElem? (i := 12) rfl))))))))) fa_n))) (by decide +kernel)) ggX11_pour_X11_within
theorem dX11_pour_23 : decode cX11_pour 23 = .ok (.invokestatic 88, 3) := z_dd_184 (by decide +kernel)
theorem dX11_pour_26 : decode cX11_pour 26 = .ok (.ifCond .ne 5, 3) := z_dd_154 (by decide +kernel)
theorem dX11_pour_31 : decode cX11_pour 31 = .ok (.aload_n 0, 1) := z_dd_42 (by decide +kernel)
theorem dX11_pour_32 : decode cX11_pour 32 = .ok (.getfield 44, 3) := z_dd_180 (by decide +kernel)
theorem dX11_pour_35 : decode cX11_pour 35 = .ok (.iload_n 1, 1) := z_dd_27 (by decide +kernel)
theorem dX11_pour_36 : decode cX11_pour 36 = .ok (.iload_n 2, 1) := z_dd_28 (by decide +kernel)
theorem dX11_pour_37 : decode cX11_pour 37 = .ok (.iload_n 3, 1) := z_dd_29 (by decide +kernel)
theorem dX11_pour_38 : decode cX11_pour 38 = .ok (.aload_n 0, 1) := z_dd_42 (by decide +kernel)
theorem dX11_pour_39 : decode cX11_pour 39 = .ok (.getfield 85, 3) := z_dd_180 (by decide +kernel)
set_option maxRecDepth 20000 in
theorem ggX11_pour_X8_add : GoodIn wsX11_pour wsX8_add := goodIn_sub (fa_c (me_s (me_l (me_l (me_l (me_l (me_l (me_l (me_r (me_l (List.mem_of_getElem? (i := 4) rfl)))))))))) (fa_a (fa_c (me_s (me_l (me_l (me_l (me_l (me_l (me_l (me_r (me_l (List.mem_of_getElem? (i := 5) rfl)))))))))) (fa_c (me_s (me_l (me_l (me_l (me_l (me_l (me_l (me_r (me_l (List.mem_of_getElem? (i := 6) rfl)))))))))) (fa_c (me_s (me_l (me_l (me_l (me_l (me_l (me_l (me_r (me_l (List.mem_of_getElem? (i := 7) rfl)))))))))) (fa_c (me_s (me_l (me_l (me_l (me_l (me_l (me_l (me_r (me_l (List.mem_of_getElem? (i := 8) rfl)))))))))) (fa_c (me_s (me_l (me_l (me_l (me_l (me_l (me_l (me_r (me_l (List.mem_of_getElem? (i := 9) rfl)))))))))) (fa_c (me_s (me_l (me_l (me_l (me_l (me_l (me_l (me_r (me_l (List.mem_of_getElem? (i := 10) rfl)))))))))) fa_n)))))) (fun w h => (me_s (me_l (me_l (me_l (me_l (me_r h))))))))) (by decide +kernel)
set_option maxRecDepth 20000 in
theorem gX11_pour_X8_add : GoodIn wsX11_pour (wsV RX11 186 RX8 yX8_add wsX8_add) := goodIn_app (goodIn_sub (fa_c (me_s (me_l (me_l (me_l (me_l (me_l (me_l (me_r (me_l (List.mem_of_getElem? (i := 0) rfl)))))))))) (fa_c (me_s (me_l (me_l (me_l (me_l (me_l (me_l (me_r (me_l (List.mem_of_getElem? (i := 1) rfl)))))))))) (fa_c (me_s (me_l (me_l (me_l (me_l (me_l (me_l (me_r (me_l (List.mem_of_getElem? (i := 2) rfl)))))))))) (fa_c (me_s (me_l (me_l (me_l (me_l (me_l (me_l (me_r (me_l (List.mem_of_getElem? (i := 3) rfl)))))))))) fa_n)))) (by decide +kernel)) ggX11_pour_X8_add
theorem dX11_pour_42 : decode cX11_pour 42 = .ok (.invokevirtual 186, 3) := z_dd_182 (by decide +kernel)
theorem dX11_pour_45 : decode cX11_pour 45 = .ok (.istore 4, 2) := z_dd_54 (by decide +kernel)
theorem dX11_pour_47 : decode cX11_pour 47 = .ok (.aload_n 0, 1) := z_dd_42 (by decide +kernel)
theorem dX11_pour_48 : decode cX11_pour 48 = .ok (.getfield 44, 3) := z_dd_180 (by decide +kernel)
theorem dX11_pour_51 : decode cX11_pour 51 = .ok (.iload 4, 2) := z_dd_21 (by decide +kernel)
set_option maxRecDepth 20000 in
theorem ggX11_pour_X8_has : GoodIn wsX11_pour wsX8_has := goodIn_sub (fa_c (me_s (me_l (me_l (me_l (me_l (me_l (me_l (me_r (me_l (List.mem_of_getElem? (i := 14) rfl)))))))))) (fa_a (fa_c (me_s (me_l (me_l (me_l (me_l (me_l (me_l (me_r (me_l (List.mem_of_getElem? (i := 5) rfl)))))))))) fa_n) (fun w h => (me_s (me_l (me_l (me_l (me_l (me_r h))))))))) (by decide +kernel)
set_option maxRecDepth 20000 in
theorem gX11_pour_X8_has : GoodIn wsX11_pour (wsV RX11 188 RX8 yX8_has wsX8_has) := goodIn_app (goodIn_sub (fa_c (me_s (me_l (me_l (me_l (me_l (me_l (me_l (me_r (me_l (List.mem_of_getElem? (i := 11) rfl)))))))))) (fa_c (me_s (me_l (me_l (me_l (me_l (me_l (me_l (me_r (me_l (List.mem_of_getElem? (i := 12) rfl)))))))))) (fa_c (me_s (me_l (me_l (me_l (me_l (me_l (me_l (me_r (me_l (List.mem_of_getElem? (i := 13) rfl)))))))))) (fa_c (me_s (me_l (me_l (me_l (me_l (me_l (me_l (me_r (me_l (List.mem_of_getElem? (i := 3) rfl)))))))))) fa_n)))) (by decide +kernel)) ggX11_pour_X8_has
theorem dX11_pour_53 : decode cX11_pour 53 = .ok (.invokevirtual 188, 3) := z_dd_182 (by decide +kernel)
theorem dX11_pour_56 : decode cX11_pour 56 = .ok (.ifCond .eq 73, 3) := z_dd_153 (by decide +kernel)
theorem dX11_pour_59 : decode cX11_pour 59 = .ok (.aload_n 0, 1) := z_dd_42 (by decide +kernel)
theorem dX11_pour_60 : decode cX11_pour 60 = .ok (.getfield 44, 3) := z_dd_180 (by decide +kernel)
theorem dX11_pour_63 : decode cX11_pour 63 = .ok (.getfield 189, 3) := z_dd_180 (by decide +kernel)
theorem dX11_pour_66 : decode cX11_pour 66 = .ok (.iload 4, 2) := z_dd_21 (by decide +kernel)
theorem dX11_pour_68 : decode cX11_pour 68 = .ok (.aload_n 0, 1) := z_dd_42 (by decide +kernel)
theorem dX11_pour_69 : decode cX11_pour 69 = .ok (.getfield 30, 3) := z_dd_180 (by decide +kernel)
theorem dX11_pour_72 : decode cX11_pour 72 = .ok (.iconst 0, 1) := z_dd_3 (by decide +kernel)
theorem dX11_pour_73 : decode cX11_pour 73 = .ok (.aload_n 0, 1) := z_dd_42 (by decide +kernel)
theorem dX11_pour_74 : decode cX11_pour 74 = .ok (.getfield 85, 3) := z_dd_180 (by decide +kernel)
theorem dX11_pour_77 : decode cX11_pour 77 = .ok (.bipush 30, 2) := z_dd_16 (by decide +kernel)
theorem dX11_pour_79 : decode cX11_pour 79 = .ok (.idiv, 1) := z_dd_108 (by decide +kernel)
theorem dX11_pour_80 : decode cX11_pour 80 = .ok (.aload_n 0, 1) := z_dd_42 (by decide +kernel)
theorem dX11_pour_81 : decode cX11_pour 81 = .ok (.getfield 85, 3) := z_dd_180 (by decide +kernel)
set_option maxRecDepth 20000 in
theorem ggX11_pour_X6_amount : GoodIn wsX11_pour wsX6_amount := goodIn_sub (fa_c (me_s (me_l (me_l (me_l (me_l (me_l (me_l (me_r (me_l (List.mem_of_getElem? (i := 19) rfl)))))))))) (fa_a (fa_a (fa_c (me_s (me_l (me_l (me_l (me_l (me_l (me_l (me_r (me_l (List.mem_of_getElem? (i := 20) rfl)))))))))) (fa_c (me_s (me_l (me_l (me_l (me_l (me_l (me_l (me_r (me_l (List.mem_of_getElem? (i := 21) rfl)))))))))) (fa_c (me_s (me_l (me_l (me_l (me_l (me_l (me_l (me_r (me_l (List.mem_of_getElem? (i := 22) rfl)))))))))) (fa_c (me_s (me_l (me_l (me_l (me_l (me_l (me_l (me_r (me_l (List.mem_of_getElem? (i := 18) rfl)))))))))) (fa_c (me_s (me_l (me_l (me_l (me_l (me_l (me_l (me_r (me_l (List.mem_of_getElem? (i := 23) rfl)))))))))) (fa_c (me_s (me_l (me_l (me_l (me_l (me_l (me_l (me_r (me_r (me_l (List.mem_of_getElem? (i := 0) rfl))))))))))) (fa_c (me_s (me_l (me_l (me_l (me_l (me_l (me_l (me_r (me_r (me_l (List.mem_of_getElem? (i := 1) rfl))))))))))) (fa_c (me_s (me_l (me_l (me_l (me_l (me_l (me_l (me_r (me_r (me_l (List.mem_of_getElem? (i := 2) rfl))))))))))) (fa_c (me_s (me_l (me_l (me_l (me_l (me_l (me_l (me_r (me_r (me_l (List.mem_of_getElem? (i := 3) rfl))))))))))) (fa_c (me_s (me_l (me_l (me_l (me_l (me_l (me_l (me_r (me_r (me_l (List.mem_of_getElem? (i := 4) rfl))))))))))) (fa_c (me_s (me_l (me_l (me_l (me_l (me_l (me_l (me_r (me_r (me_l (List.mem_of_getElem? (i := 5) rfl))))))))))) (fa_c (me_s (me_l (me_l (me_l (me_l (me_l (me_l (me_r (me_r (me_l (List.mem_of_getElem? (i := 6) rfl))))))))))) (fa_c (me_s (me_l (me_l (me_l (me_l (me_l (me_l (me_r (me_r (me_l (List.mem_of_getElem? (i := 7) rfl))))))))))) (fa_c (me_s (me_l (me_l (me_l (me_l (me_l (me_l (me_r (me_r (me_l (List.mem_of_getElem? (i := 8) rfl))))))))))) (fa_c (me_s (me_l (me_l (me_l (me_l (me_l (me_l (me_l (List.mem_of_getElem? (i := 12) rfl))))))))) (fa_c (me_s (me_l (me_l (me_l (me_l (me_l (me_l (me_r (me_r (me_l (List.mem_of_getElem? (i := 9) rfl))))))))))) (fa_c (me_s (me_l (me_l (me_l (me_l (me_l (me_l (me_r (me_r (me_l (List.mem_of_getElem? (i := 10) rfl))))))))))) (fa_c (me_s (me_l (me_l (me_l (me_l (me_l (me_l (me_r (me_r (me_l (List.mem_of_getElem? (i := 11) rfl))))))))))) (fa_c (me_s (me_l (me_l (me_l (me_l (me_l (me_l (me_r (me_r (me_l (List.mem_of_getElem? (i := 12) rfl))))))))))) (fa_c (me_s (me_l (me_l (me_l (me_l (me_l (me_l (me_r (me_r (me_l (List.mem_of_getElem? (i := 13) rfl))))))))))) (fa_c (me_s (me_l (me_l (me_l (me_l (me_l (me_l (me_r (me_r (me_l (List.mem_of_getElem? (i := 14) rfl))))))))))) (fa_c (me_s (me_l (me_l (me_l (me_l (me_l (me_l (me_r (me_r (me_l (List.mem_of_getElem? (i := 15) rfl))))))))))) (fa_c (me_s (me_l (me_l (me_l (me_l (me_l (me_l (me_r (me_r (me_l (List.mem_of_getElem? (i := 16) rfl))))))))))) (fa_c (me_s (me_l (me_l (me_l (me_l (me_l (me_l (me_r (me_r (me_l (List.mem_of_getElem? (i := 17) rfl))))))))))) fa_n)))))))))))))))))))))))) (fun w h => (me_s (me_l (me_l (me_r h)))))) (fun w h => (me_s (me_l (me_r h)))))) (by decide +kernel)
set_option maxRecDepth 20000 in
theorem gX11_pour_X6_amount : GoodIn wsX11_pour (wsV RX11 144 RX6 yX6_amount wsX6_amount) := goodIn_app (goodIn_sub (fa_c (me_s (me_l (me_l (me_l (me_l (me_l (me_l (me_r (me_l (List.mem_of_getElem? (i := 15) rfl)))))))))) (fa_c (me_s (me_l (me_l (me_l (me_l (me_l (me_l (me_r (me_l (List.mem_of_getElem? (i := 16) rfl)))))))))) (fa_c (me_s (me_l (me_l (me_l (me_l (me_l (me_l (me_r (me_l (List.mem_of_getElem? (i := 17) rfl)))))))))) (fa_c (me_s (me_l (me_l (me_l (me_l (me_l (me_l (me_r (me_l (List.mem_of_getElem? (i := 18) rfl)))))))))) fa_n)))) (by decide +kernel)) ggX11_pour_X6_amount
theorem dX11_pour_84 : decode cX11_pour 84 = .ok (.invokevirtual 144, 3) := z_dd_182 (by decide +kernel)
theorem dX11_pour_87 : decode cX11_pour 87 = .ok (.iastore, 1) := z_dd_79 (by decide +kernel)
theorem dX11_pour_88 : decode cX11_pour 88 = .ok (.aload_n 0, 1) := z_dd_42 (by decide +kernel)
theorem dX11_pour_89 : decode cX11_pour 89 = .ok (.getfield 44, 3) := z_dd_180 (by decide +kernel)
theorem dX11_pour_92 : decode cX11_pour 92 = .ok (.getfield 192, 3) := z_dd_180 (by decide +kernel)
theorem dX11_pour_95 : decode cX11_pour 95 = .ok (.iload 4, 2) := z_dd_21 (by decide +kernel)
theorem dX11_pour_97 : decode cX11_pour 97 = .ok (.aload_n 0, 1) := z_dd_42 (by decide +kernel)
theorem dX11_pour_98 : decode cX11_pour 98 = .ok (.iload_n 2, 1) := z_dd_28 (by decide +kernel)
set_option maxRecDepth 20000 in
theorem ggX11_pour_X11_isFarmerNow : GoodIn wsX11_pour wsX11_isFarmerNow := goodIn_sub (fa_c (me_s (me_l (me_l (me_l (me_l (me_l (me_l (me_r (me_r (me_l (List.mem_of_getElem? (i := 21) rfl))))))))))) (fa_a (fa_a (fa_c (me_s (me_l (me_l (me_l (me_l (me_l (me_l (me_l (List.mem_of_getElem? (i := 0) rfl))))))))) (fa_c (me_s (me_l (me_l (me_l (me_l (me_l (me_l (me_l (List.mem_of_getElem? (i := 3) rfl))))))))) (fa_c (me_s (me_l (me_l (me_l (me_l (me_l (me_l (me_r (me_r (me_l (List.mem_of_getElem? (i := 22) rfl))))))))))) (fa_c (me_s (me_l (me_l (me_l (me_l (me_l (me_l (me_r (me_r (me_l (List.mem_of_getElem? (i := 23) rfl))))))))))) (fa_c (me_s (me_l (me_l (me_l (me_l (me_l (me_l (me_r (me_r (me_r (me_l (List.mem_of_getElem? (i := 0) rfl)))))))))))) (fa_c (me_s (me_l (me_l (me_l (me_l (me_l (me_l (me_l (List.mem_of_getElem? (i := 18) rfl))))))))) (fa_c (me_s (me_l (me_l (me_l (me_l (me_l (me_l (me_r (me_r (me_r (me_l (List.mem_of_getElem? (i := 1) rfl)))))))))))) (fa_c (me_s (me_l (me_l (me_l (me_l (me_l (me_l (me_r (me_r (me_r (me_l (List.mem_of_getElem? (i := 2) rfl)))))))))))) (fa_c (me_s (me_l (me_l (me_l (me_l (me_l (me_l (me_r (me_r (me_r (me_l (List.mem_of_getElem? (i := 3) rfl)))))))))))) (fa_c (me_s (me_l (me_l (me_l (me_l (me_l (me_l (me_r (me_r (me_r (me_l (List.mem_of_getElem? (i := 4) rfl)))))))))))) (fa_c (me_s (me_l (me_l (me_l (me_l (me_l (me_l (me_r (me_r (me_r (me_l (List.mem_of_getElem? (i := 5) rfl)))))))))))) (fa_c (me_s (me_l (me_l (me_l (me_l (me_l (me_l (me_r (me_r (me_r (me_l (List.mem_of_getElem? (i := 6) rfl)))))))))))) (fa_c (me_s (me_l (me_l (me_l (me_l (me_l (me_l (me_r (me_r (me_r (me_l (List.mem_of_getElem? (i := 7) rfl)))))))))))) fa_n))))))))))))) (fun w h => (me_s (me_l (me_l (me_l (me_l (me_l (me_r h))))))))) (fun w h => (me_s (me_l (me_l (me_l (me_r h)))))))) (by decide +kernel)
set_option maxRecDepth 20000 in
theorem gX11_pour_X11_isFarmerNow : GoodIn wsX11_pour (wsV RX11 195 RX11 yX11_isFarmerNow wsX11_isFarmerNow) := goodIn_app (goodIn_sub (fa_c (me_s (me_l (me_l (me_l (me_l (me_l (me_l (me_r (me_r (me_l (List.mem_of_getElem? (i := 18) rfl))))))))))) (fa_c (me_s (me_l (me_l (me_l (me_l (me_l (me_l (me_r (me_r (me_l (List.mem_of_getElem? (i := 19) rfl))))))))))) (fa_c (me_s (me_l (me_l (me_l (me_l (me_l (me_l (me_r (me_r (me_l (List.mem_of_getElem? (i := 20) rfl))))))))))) (fa_c (me_s (me_l (me_l (me_l (me_l (me_l (me_l (me_l (List.mem_of_getElem? (i := 12) rfl))))))))) fa_n)))) (by decide +kernel)) ggX11_pour_X11_isFarmerNow
theorem dX11_pour_99 : decode cX11_pour 99 = .ok (.invokevirtual 195, 3) := z_dd_182 (by decide +kernel)
theorem dX11_pour_102 : decode cX11_pour 102 = .ok (.ifCond .eq 7, 3) := z_dd_153 (by decide +kernel)
theorem dX11_pour_105 : decode cX11_pour 105 = .ok (.iconst 1, 1) := z_dd_4 (by decide +kernel)
theorem dX11_pour_106 : decode cX11_pour 106 = .ok (.goto 4, 3) := z_dd_167 (by decide +kernel)
theorem dX11_pour_110 : decode cX11_pour 110 = .ok (.iastore, 1) := z_dd_79 (by decide +kernel)
theorem dX11_pour_111 : decode cX11_pour 111 = .ok (.aload_n 0, 1) := z_dd_42 (by decide +kernel)
theorem dX11_pour_112 : decode cX11_pour 112 = .ok (.getfield 44, 3) := z_dd_180 (by decide +kernel)
theorem dX11_pour_115 : decode cX11_pour 115 = .ok (.getfield 198, 3) := z_dd_180 (by decide +kernel)
theorem dX11_pour_118 : decode cX11_pour 118 = .ok (.iload 4, 2) := z_dd_21 (by decide +kernel)
theorem dX11_pour_120 : decode cX11_pour 120 = .ok (.aload_n 0, 1) := z_dd_42 (by decide +kernel)
theorem dX11_pour_121 : decode cX11_pour 121 = .ok (.getfield 37, 3) := z_dd_180 (by decide +kernel)
theorem dX11_pour_124 : decode cX11_pour 124 = .ok (.iload_n 3, 1) := z_dd_29 (by decide +kernel)
set_option maxRecDepth 20000 in
theorem ggX11_pour_X0_ownerOf : GoodIn wsX11_pour wsX0_ownerOf := goodIn_sub (fa_c (me_s (me_l (me_l (me_l (me_l (me_l (me_l (me_r (me_r (me_r (me_l (List.mem_of_getElem? (i := 12) rfl)))))))))))) (fa_a (fa_c (me_s (me_l (me_l (me_l (me_l (me_l (me_l (me_r (me_r (me_r (me_l (List.mem_of_getElem? (i := 13) rfl)))))))))))) (fa_c (me_s (me_l (me_l (me_l (me_l (me_l (me_l (me_r (me_r (me_r (me_l (List.mem_of_getElem? (i := 14) rfl)))))))))))) (fa_c (me_s (me_l (me_l (me_l (me_l (me_l (me_l (me_r (me_r (me_r (me_l (List.mem_of_getElem? (i := 15) rfl)))))))))))) (fa_c (me_s (me_l (me_l (me_l (me_l (me_l (me_l (me_r (me_r (me_r (me_l (List.mem_of_getElem? (i := 16) rfl)))))))))))) (fa_c (me_s (me_l (me_l (me_l (me_l (me_l (me_l (me_r (me_r (me_r (me_l (List.mem_of_getElem? (i := 11) rfl)))))))))))) (fa_c (me_s (me_l (me_l (me_l (me_l (me_l (me_l (me_r (me_r (me_r (me_l (List.mem_of_getElem? (i := 17) rfl)))))))))))) (fa_c (me_s (me_l (me_l (me_l (me_l (me_l (me_l (me_r (me_r (me_r (me_l (List.mem_of_getElem? (i := 18) rfl)))))))))))) (fa_c (me_s (me_l (me_l (me_l (me_l (me_l (me_l (me_r (me_r (me_r (me_l (List.mem_of_getElem? (i := 19) rfl)))))))))))) (fa_c (me_s (me_l (me_l (me_l (me_l (me_l (me_l (me_r (me_r (me_r (me_l (List.mem_of_getElem? (i := 20) rfl)))))))))))) (fa_c (me_s (me_l (me_l (me_l (me_l (me_l (me_l (me_r (me_r (me_r (me_l (List.mem_of_getElem? (i := 21) rfl)))))))))))) (fa_c (me_s (me_l (me_l (me_l (me_l (me_l (me_l (me_r (me_r (me_r (me_l (List.mem_of_getElem? (i := 22) rfl)))))))))))) (fa_c (me_s (me_l (me_l (me_l (me_l (me_l (me_l (me_r (me_r (me_r (me_l (List.mem_of_getElem? (i := 23) rfl)))))))))))) (fa_c (me_s (me_l (me_l (me_l (me_l (me_l (me_l (me_r (me_r (me_r (me_r (List.mem_of_getElem? (i := 0) rfl)))))))))))) (fa_c (me_s (me_l (me_l (me_l (me_l (me_l (me_l (me_r (me_r (me_r (me_r (List.mem_of_getElem? (i := 1) rfl)))))))))))) (fa_c (me_s (me_l (me_l (me_l (me_l (me_l (me_l (me_r (me_r (me_r (me_r (List.mem_of_getElem? (i := 2) rfl)))))))))))) (fa_c (me_s (me_l (me_l (me_l (me_l (me_l (me_l (me_r (me_r (me_r (me_r (List.mem_of_getElem? (i := 3) rfl)))))))))))) fa_n)))))))))))))))) (fun w h => (me_s (me_r h))))) (by decide +kernel)
set_option maxRecDepth 20000 in
theorem gX11_pour_X0_ownerOf : GoodIn wsX11_pour (wsV RX11 175 RX0 yX0_ownerOf wsX0_ownerOf) := goodIn_app (goodIn_sub (fa_c (me_s (me_l (me_l (me_l (me_l (me_l (me_l (me_r (me_r (me_r (me_l (List.mem_of_getElem? (i := 8) rfl)))))))))))) (fa_c (me_s (me_l (me_l (me_l (me_l (me_l (me_l (me_r (me_r (me_r (me_l (List.mem_of_getElem? (i := 9) rfl)))))))))))) (fa_c (me_s (me_l (me_l (me_l (me_l (me_l (me_l (me_r (me_r (me_r (me_l (List.mem_of_getElem? (i := 10) rfl)))))))))))) (fa_c (me_s (me_l (me_l (me_l (me_l (me_l (me_l (me_r (me_r (me_r (me_l (List.mem_of_getElem? (i := 11) rfl)))))))))))) fa_n)))) (by decide +kernel)) ggX11_pour_X0_ownerOf
theorem dX11_pour_125 : decode cX11_pour 125 = .ok (.invokevirtual 175, 3) := z_dd_182 (by decide +kernel)
theorem dX11_pour_128 : decode cX11_pour 128 = .ok (.iastore, 1) := z_dd_79 (by decide +kernel)
theorem dX11_pour_129 : decode cX11_pour 129 = .ok (.iload 4, 2) := z_dd_21 (by decide +kernel)
theorem dX11_pour_131 : decode cX11_pour 131 = .ok (.ireturn, 1) := z_dd_172 (by decide +kernel)
theorem dX11_pour_109 : decode cX11_pour 109 = .ok (.iconst 0, 1) := z_dd_3 (by decide +kernel)
theorem dX11_verdictOn_0 : decode cX11_verdictOn 0 = .ok (.aload_n 0, 1) := z_dd_42 (by decide +kernel)
theorem dX11_verdictOn_1 : decode cX11_verdictOn 1 = .ok (.getfield 44, 3) := z_dd_180 (by decide +kernel)
theorem dX11_verdictOn_4 : decode cX11_verdictOn 4 = .ok (.iload_n 1, 1) := z_dd_27 (by decide +kernel)
set_option maxRecDepth 20000 in
theorem ggX11_verdictOn_X8_has : GoodIn wsX11_verdictOn wsX8_has := goodIn_sub (fa_c (me_s (me_l (me_l (me_l (me_l (me_l (me_l (List.mem_of_getElem? (i := 11) rfl)))))))) (fa_a (fa_c (me_s (me_l (me_l (me_l (me_l (me_l (me_l (List.mem_of_getElem? (i := 12) rfl)))))))) fa_n) (fun w h => (me_s (me_l (me_l (me_l (me_r h)))))))) (by decide +kernel)
set_option maxRecDepth 20000 in
theorem gX11_verdictOn_X8_has : GoodIn wsX11_verdictOn (wsV RX11 188 RX8 yX8_has wsX8_has) := goodIn_app (goodIn_sub (fa_c (me_s (me_l (me_l (me_l (me_l (me_l (me_l (List.mem_of_getElem? (i := 7) rfl)))))))) (fa_c (me_s (me_l (me_l (me_l (me_l (me_l (me_l (List.mem_of_getElem? (i := 8) rfl)))))))) (fa_c (me_s (me_l (me_l (me_l (me_l (me_l (me_l (List.mem_of_getElem? (i := 9) rfl)))))))) (fa_c (me_s (me_l (me_l (me_l (me_l (me_l (me_l (List.mem_of_getElem? (i := 10) rfl)))))))) fa_n)))) (by decide +kernel)) ggX11_verdictOn_X8_has
theorem dX11_verdictOn_5 : decode cX11_verdictOn 5 = .ok (.invokevirtual 188, 3) := z_dd_182 (by decide +kernel)
theorem dX11_verdictOn_8 : decode cX11_verdictOn 8 = .ok (.ifCond .ne 5, 3) := z_dd_154 (by decide +kernel)
theorem dX11_verdictOn_13 : decode cX11_verdictOn 13 = .ok (.aload_n 0, 1) := z_dd_42 (by decide +kernel)
theorem dX11_verdictOn_14 : decode cX11_verdictOn 14 = .ok (.getfield 44, 3) := z_dd_180 (by decide +kernel)
theorem dX11_verdictOn_17 : decode cX11_verdictOn 17 = .ok (.getfield 211, 3) := z_dd_180 (by decide +kernel)
theorem dX11_verdictOn_20 : decode cX11_verdictOn 20 = .ok (.iload_n 1, 1) := z_dd_27 (by decide +kernel)
theorem dX11_verdictOn_21 : decode cX11_verdictOn 21 = .ok (.iaload, 1) := z_dd_46 (by decide +kernel)
theorem dX11_verdictOn_22 : decode cX11_verdictOn 22 = .ok (.istore_n 2, 1) := z_dd_61 (by decide +kernel)
theorem dX11_verdictOn_23 : decode cX11_verdictOn 23 = .ok (.aload_n 0, 1) := z_dd_42 (by decide +kernel)
theorem dX11_verdictOn_24 : decode cX11_verdictOn 24 = .ok (.getfield 37, 3) := z_dd_180 (by decide +kernel)
theorem dX11_verdictOn_27 : decode cX11_verdictOn 27 = .ok (.iload_n 2, 1) := z_dd_28 (by decide +kernel)
set_option maxRecDepth 20000 in
theorem ggX11_verdictOn_X0_has : GoodIn wsX11_verdictOn wsX0_has := goodIn_sub (fa_c (me_s (me_l (me_l (me_l (me_l (me_l (me_l (List.mem_of_getElem? (i := 17) rfl)))))))) (fa_a (fa_c (me_s (me_l (me_l (me_l (me_l (me_l (me_l (List.mem_of_getElem? (i := 18) rfl)))))))) fa_n) (fun w h => (me_s (me_l (me_l (me_r h))))))) (by decide +kernel)
set_option maxRecDepth 20000 in
theorem gX11_verdictOn_X0_has : GoodIn wsX11_verdictOn (wsV RX11 156 RX0 yX0_has wsX0_has) := goodIn_app (goodIn_sub (fa_c (me_s (me_l (me_l (me_l (me_l (me_l (me_l (List.mem_of_getElem? (i := 13) rfl)))))))) (fa_c (me_s (me_l (me_l (me_l (me_l (me_l (me_l (List.mem_of_getElem? (i := 14) rfl)))))))) (fa_c (me_s (me_l (me_l (me_l (me_l (me_l (me_l (List.mem_of_getElem? (i := 15) rfl)))))))) (fa_c (me_s (me_l (me_l (me_l (me_l (me_l (me_l (List.mem_of_getElem? (i := 16) rfl)))))))) fa_n)))) (by decide +kernel)) ggX11_verdictOn_X0_has
theorem dX11_verdictOn_28 : decode cX11_verdictOn 28 = .ok (.invokevirtual 156, 3) := z_dd_182 (by decide +kernel)
theorem dX11_verdictOn_31 : decode cX11_verdictOn 31 = .ok (.ifCond .ne 5, 3) := z_dd_154 (by decide +kernel)
theorem dX11_verdictOn_36 : decode cX11_verdictOn 36 = .ok (.aload_n 0, 1) := z_dd_42 (by decide +kernel)
theorem dX11_verdictOn_37 : decode cX11_verdictOn 37 = .ok (.getfield 44, 3) := z_dd_180 (by decide +kernel)
theorem dX11_verdictOn_40 : decode cX11_verdictOn 40 = .ok (.iload_n 2, 1) := z_dd_28 (by decide +kernel)
set_option maxRecDepth 20000 in
theorem ggX11_verdictOn_X8_wasHandedIn : GoodIn wsX11_verdictOn wsX8_wasHandedIn := goodIn_sub (fa_c (me_s (me_l (me_l (me_l (me_l (me_l (me_l (List.mem_of_getElem? (i := 22) rfl)))))))) (fa_a (fa_c (me_s (me_l (me_l (me_l (me_l (me_l (me_l (List.mem_of_getElem? (i := 12) rfl)))))))) (fa_c (me_s (me_l (me_l (me_l (me_l (me_l (me_l (List.mem_of_getElem? (i := 23) rfl)))))))) (fa_c (me_s (me_l (me_l (me_l (me_l (me_l (me_r (me_l (List.mem_of_getElem? (i := 0) rfl))))))))) fa_n))) (fun w h => (me_s (me_l (me_l (me_l (me_r h)))))))) (by decide +kernel)
set_option maxRecDepth 20000 in
theorem gX11_verdictOn_X8_wasHandedIn : GoodIn wsX11_verdictOn (wsV RX11 163 RX8 yX8_wasHandedIn wsX8_wasHandedIn) := goodIn_app (goodIn_sub (fa_c (me_s (me_l (me_l (me_l (me_l (me_l (me_l (List.mem_of_getElem? (i := 19) rfl)))))))) (fa_c (me_s (me_l (me_l (me_l (me_l (me_l (me_l (List.mem_of_getElem? (i := 20) rfl)))))))) (fa_c (me_s (me_l (me_l (me_l (me_l (me_l (me_l (List.mem_of_getElem? (i := 21) rfl)))))))) (fa_c (me_s (me_l (me_l (me_l (me_l (me_l (me_l (List.mem_of_getElem? (i := 10) rfl)))))))) fa_n)))) (by decide +kernel)) ggX11_verdictOn_X8_wasHandedIn
theorem dX11_verdictOn_41 : decode cX11_verdictOn 41 = .ok (.invokevirtual 163, 3) := z_dd_182 (by decide +kernel)
theorem dX11_verdictOn_44 : decode cX11_verdictOn 44 = .ok (.ifCond .eq 5, 3) := z_dd_153 (by decide +kernel)
theorem dX11_verdictOn_47 : decode cX11_verdictOn 47 = .ok (.iconst 2, 1) := z_dd_5 (by decide +kernel)
theorem dX11_verdictOn_48 : decode cX11_verdictOn 48 = .ok (.ireturn, 1) := z_dd_172 (by decide +kernel)
theorem dX11_verdictOn_49 : decode cX11_verdictOn 49 = .ok (.iload_n 2, 1) := z_dd_28 (by decide +kernel)
set_option maxRecDepth 20000 in
theorem ggX11_verdictOn_X0_monthOf : GoodIn wsX11_verdictOn wsX0_monthOf := goodIn_sub (fa_c (me_s (me_l (me_l (me_l (me_l (me_l (me_r (me_l (List.mem_of_getElem? (i := 3) rfl))))))))) fa_n) (by decide +kernel)
set_option maxRecDepth 20000 in
theorem gX11_verdictOn_X0_monthOf : GoodIn wsX11_verdictOn (va_wsS RX11 166 yX0_monthOf wsX0_monthOf) := goodIn_app (goodIn_sub (fa_c (me_s (me_l (me_l (me_l (me_l (me_l (me_r (me_l (List.mem_of_getElem? (i := 1) rfl))))))))) (fa_c (me_s (me_l (me_l (me_l (me_l (me_l (me_r (me_l (List.mem_of_getElem? (i := 2) rfl))))))))) (fa_c (me_s (me_l (me_l (me_l (me_l (me_l (me_l (List.mem_of_getElem? (i := 16) rfl)))))))) fa_n))) (by decide +kernel)) ggX11_verdictOn_X0_monthOf
theorem dX11_verdictOn_50 : decode cX11_verdictOn 50 = .ok (.invokestatic 166, 3) := z_dd_184 (by decide +kernel)
theorem dX11_verdictOn_53 : decode cX11_verdictOn 53 = .ok (.istore_n 3, 1) := z_dd_62 (by decide +kernel)
theorem dX11_verdictOn_54 : decode cX11_verdictOn 54 = .ok (.aload_n 0, 1) := z_dd_42 (by decide +kernel)
theorem dX11_verdictOn_55 : decode cX11_verdictOn 55 = .ok (.getfield 44, 3) := z_dd_180 (by decide +kernel)
theorem dX11_verdictOn_58 : decode cX11_verdictOn 58 = .ok (.getfield 214, 3) := z_dd_180 (by decide +kernel)
theorem dX11_verdictOn_61 : decode cX11_verdictOn 61 = .ok (.iload_n 1, 1) := z_dd_27 (by decide +kernel)
theorem dX11_verdictOn_62 : decode cX11_verdictOn 62 = .ok (.iaload, 1) := z_dd_46 (by decide +kernel)
theorem dX11_verdictOn_63 : decode cX11_verdictOn 63 = .ok (.bipush 30, 2) := z_dd_16 (by decide +kernel)
theorem dX11_verdictOn_65 : decode cX11_verdictOn 65 = .ok (.idiv, 1) := z_dd_108 (by decide +kernel)
theorem dX11_verdictOn_66 : decode cX11_verdictOn 66 = .ok (.istore 4, 2) := z_dd_54 (by decide +kernel)
theorem dX11_verdictOn_68 : decode cX11_verdictOn 68 = .ok (.iload 4, 2) := z_dd_21 (by decide +kernel)
theorem dX11_verdictOn_70 : decode cX11_verdictOn 70 = .ok (.iload_n 3, 1) := z_dd_29 (by decide +kernel)
theorem dX11_verdictOn_71 : decode cX11_verdictOn 71 = .ok (.if_icmp .lt 28, 3) := z_dd_161 (by decide +kernel)
theorem dX11_verdictOn_99 : decode cX11_verdictOn 99 = .ok (.iconst 3, 1) := z_dd_6 (by decide +kernel)
theorem dX11_verdictOn_100 : decode cX11_verdictOn 100 = .ok (.ireturn, 1) := z_dd_172 (by decide +kernel)
theorem dX11_verdictOn_74 : decode cX11_verdictOn 74 = .ok (.iload 4, 2) := z_dd_21 (by decide +kernel)
theorem dX11_verdictOn_76 : decode cX11_verdictOn 76 = .ok (.iload_n 3, 1) := z_dd_29 (by decide +kernel)
theorem dX11_verdictOn_77 : decode cX11_verdictOn 77 = .ok (.aload_n 0, 1) := z_dd_42 (by decide +kernel)
theorem dX11_verdictOn_78 : decode cX11_verdictOn 78 = .ok (.getfield 30, 3) := z_dd_180 (by decide +kernel)
theorem dX11_verdictOn_81 : decode cX11_verdictOn 81 = .ok (.iconst 1, 1) := z_dd_4 (by decide +kernel)
theorem dX11_verdictOn_82 : decode cX11_verdictOn 82 = .ok (.iload_n 3, 1) := z_dd_29 (by decide +kernel)
theorem dX11_verdictOn_83 : decode cX11_verdictOn 83 = .ok (.aload_n 0, 1) := z_dd_42 (by decide +kernel)
theorem dX11_verdictOn_84 : decode cX11_verdictOn 84 = .ok (.getfield 44, 3) := z_dd_180 (by decide +kernel)
theorem dX11_verdictOn_87 : decode cX11_verdictOn 87 = .ok (.getfield 214, 3) := z_dd_180 (by decide +kernel)
theorem dX11_verdictOn_90 : decode cX11_verdictOn 90 = .ok (.iload_n 1, 1) := z_dd_27 (by decide +kernel)
theorem dX11_verdictOn_91 : decode cX11_verdictOn 91 = .ok (.iaload, 1) := z_dd_46 (by decide +kernel)
set_option maxRecDepth 20000 in
theorem ggX11_verdictOn_X6_amount : GoodIn wsX11_verdictOn wsX6_amount := goodIn_sub (fa_c (me_s (me_l (me_l (me_l (me_l (me_l (me_r (me_l (List.mem_of_getElem? (i := 8) rfl))))))))) (fa_a (fa_a (fa_c (me_s (me_l (me_l (me_l (me_l (me_l (me_r (me_l (List.mem_of_getElem? (i := 9) rfl))))))))) (fa_c (me_s (me_l (me_l (me_l (me_l (me_l (me_r (me_l (List.mem_of_getElem? (i := 10) rfl))))))))) (fa_c (me_s (me_l (me_l (me_l (me_l (me_l (me_r (me_l (List.mem_of_getElem? (i := 11) rfl))))))))) (fa_c (me_s (me_l (me_l (me_l (me_l (me_l (me_r (me_l (List.mem_of_getElem? (i := 7) rfl))))))))) (fa_c (me_s (me_l (me_l (me_l (me_l (me_l (me_r (me_l (List.mem_of_getElem? (i := 12) rfl))))))))) (fa_c (me_s (me_l (me_l (me_l (me_l (me_l (me_r (me_l (List.mem_of_getElem? (i := 13) rfl))))))))) (fa_c (me_s (me_l (me_l (me_l (me_l (me_l (me_r (me_l (List.mem_of_getElem? (i := 14) rfl))))))))) (fa_c (me_s (me_l (me_l (me_l (me_l (me_l (me_r (me_l (List.mem_of_getElem? (i := 15) rfl))))))))) (fa_c (me_s (me_l (me_l (me_l (me_l (me_l (me_r (me_l (List.mem_of_getElem? (i := 16) rfl))))))))) (fa_c (me_s (me_l (me_l (me_l (me_l (me_l (me_r (me_l (List.mem_of_getElem? (i := 17) rfl))))))))) (fa_c (me_s (me_l (me_l (me_l (me_l (me_l (me_r (me_l (List.mem_of_getElem? (i := 18) rfl))))))))) (fa_c (me_s (me_l (me_l (me_l (me_l (me_l (me_r (me_l (List.mem_of_getElem? (i := 19) rfl))))))))) (fa_c (me_s (me_l (me_l (me_l (me_l (me_l (me_r (me_l (List.mem_of_getElem? (i := 20) rfl))))))))) (fa_c (me_s (me_l (me_l (me_l (me_l (me_l (me_r (me_l (List.mem_of_getElem? (i := 21) rfl))))))))) (fa_c (me_s (me_l (me_l (me_l (me_l (me_l (me_r (me_l (List.mem_of_getElem? (i := 22) rfl))))))))) (fa_c (me_s (me_l (me_l (me_l (me_l (me_l (me_r (me_l (List.mem_of_getElem? (i := 23) rfl))))))))) (fa_c (me_s (me_l (me_l (me_l (me_l (me_l (me_r (me_r (List.mem_of_getElem? (i := 0) rfl))))))))) (fa_c (me_s (me_l (me_l (me_l (me_l (me_l (me_r (me_r (List.mem_of_getElem? (i := 1) rfl))))))))) (fa_c (me_s (me_l (me_l (me_l (me_l (me_l (me_r (me_r (List.mem_of_getElem? (i := 2) rfl))))))))) (fa_c (me_s (me_l (me_l (me_l (me_l (me_l (me_r (me_r (List.mem_of_getElem? (i := 3) rfl))))))))) (fa_c (me_s (me_l (me_l (me_l (me_l (me_l (me_r (me_r (List.mem_of_getElem? (i := 4) rfl))))))))) (fa_c (me_s (me_l (me_l (me_l (me_l (me_l (me_r (me_r (List.mem_of_getElem? (i := 5) rfl))))))))) (fa_c (me_s (me_l (me_l (me_l (me_l (me_l (me_r (me_r (List.mem_of_getElem? (i := 6) rfl))))))))) (fa_c (me_s (me_l (me_l (me_l (me_l (me_l (me_r (me_r (List.mem_of_getElem? (i := 7) rfl))))))))) fa_n)))))))))))))))))))))))) (fun w h => (me_s (me_l (me_r h))))) (fun w h => (me_s (me_r h))))) (by decide +kernel)
set_option maxRecDepth 20000 in
theorem gX11_verdictOn_X6_amount : GoodIn wsX11_verdictOn (wsV RX11 144 RX6 yX6_amount wsX6_amount) := goodIn_app (goodIn_sub (fa_c (me_s (me_l (me_l (me_l (me_l (me_l (me_r (me_l (List.mem_of_getElem? (i := 4) rfl))))))))) (fa_c (me_s (me_l (me_l (me_l (me_l (me_l (me_r (me_l (List.mem_of_getElem? (i := 5) rfl))))))))) (fa_c (me_s (me_l (me_l (me_l (me_l (me_l (me_r (me_l (List.mem_of_getElem? (i := 6) rfl))))))))) (fa_c (me_s (me_l (me_l (me_l (me_l (me_l (me_r (me_l (List.mem_of_getElem? (i := 7) rfl))))))))) fa_n)))) (by decide +kernel)) ggX11_verdictOn_X6_amount
theorem dX11_verdictOn_92 : decode cX11_verdictOn 92 = .ok (.invokevirtual 144, 3) := z_dd_182 (by decide +kernel)
theorem dX11_verdictOn_95 : decode cX11_verdictOn 95 = .ok (.iadd, 1) := z_dd_96 (by decide +kernel)
theorem dX11_verdictOn_96 : decode cX11_verdictOn 96 = .ok (.if_icmp .le 5, 3) := z_dd_164 (by decide +kernel)
theorem dX11_verdictOn_101 : decode cX11_verdictOn 101 = .ok (.aload_n 0, 1) := z_dd_42 (by decide +kernel)
theorem dX11_verdictOn_102 : decode cX11_verdictOn 102 = .ok (.getfield 44, 3) := z_dd_180 (by decide +kernel)
theorem dX11_verdictOn_105 : decode cX11_verdictOn 105 = .ok (.getfield 198, 3) := z_dd_180 (by decide +kernel)
theorem dX11_verdictOn_108 : decode cX11_verdictOn 108 = .ok (.iload_n 1, 1) := z_dd_27 (by decide +kernel)
theorem dX11_verdictOn_109 : decode cX11_verdictOn 109 = .ok (.iaload, 1) := z_dd_46 (by decide +kernel)
theorem dX11_verdictOn_110 : decode cX11_verdictOn 110 = .ok (.aload_n 0, 1) := z_dd_42 (by decide +kernel)
theorem dX11_verdictOn_111 : decode cX11_verdictOn 111 = .ok (.getfield 44, 3) := z_dd_180 (by decide +kernel)
theorem dX11_verdictOn_114 : decode cX11_verdictOn 114 = .ok (.getfield 217, 3) := z_dd_180 (by decide +kernel)
theorem dX11_verdictOn_117 : decode cX11_verdictOn 117 = .ok (.iload_n 1, 1) := z_dd_27 (by decide +kernel)
theorem dX11_verdictOn_118 : decode cX11_verdictOn 118 = .ok (.iaload, 1) := z_dd_46 (by decide +kernel)
theorem dX11_verdictOn_119 : decode cX11_verdictOn 119 = .ok (.if_icmp .ne 7, 3) := z_dd_160 (by decide +kernel)
theorem dX11_verdictOn_126 : decode cX11_verdictOn 126 = .ok (.iconst 4, 1) := z_dd_7 (by decide +kernel)
theorem dX11_verdictOn_127 : decode cX11_verdictOn 127 = .ok (.ireturn, 1) := z_dd_172 (by decide +kernel)
theorem dX11_verdictOn_122 : decode cX11_verdictOn 122 = .ok (.iconst 0, 1) := z_dd_3 (by decide +kernel)
theorem dX11_verdictOn_123 : decode cX11_verdictOn 123 = .ok (.goto 4, 3) := z_dd_167 (by decide +kernel)
theorem dX11_verdictOn_34 : decode cX11_verdictOn 34 = .ok (.iconst 1, 1) := z_dd_4 (by decide +kernel)
theorem dX11_verdictOn_35 : decode cX11_verdictOn 35 = .ok (.ireturn, 1) := z_dd_172 (by decide +kernel)
theorem dX11_verdictOn_11 : decode cX11_verdictOn 11 = .ok (.iconst (-1), 1) := z_dd_2 (by decide +kernel)
theorem dX11_verdictOn_12 : decode cX11_verdictOn 12 = .ok (.ireturn, 1) := z_dd_172 (by decide +kernel)
theorem dX11_handIn_10 : decode cX11_handIn 10 = .ok (.iconst 0, 1) := z_dd_3 (by decide +kernel)
theorem dX11_handIn_11 : decode cX11_handIn 11 = .ok (.istore_n 2, 1) := z_dd_61 (by decide +kernel)
theorem dX11_handIn_12 : decode cX11_handIn 12 = .ok (.iconst 0, 1) := z_dd_3 (by decide +kernel)
theorem dX11_handIn_13 : decode cX11_handIn 13 = .ok (.istore_n 3, 1) := z_dd_62 (by decide +kernel)
theorem dX11_handIn_14 : decode cX11_handIn 14 = .ok (.iload_n 3, 1) := z_dd_29 (by decide +kernel)
theorem dX11_handIn_15 : decode cX11_handIn 15 = .ok (.aload_n 0, 1) := z_dd_42 (by decide +kernel)
theorem dX11_handIn_16 : decode cX11_handIn 16 = .ok (.getfield 44, 3) := z_dd_180 (by decide +kernel)
theorem dX11_handIn_19 : decode cX11_handIn 19 = .ok (.getfield 201, 3) := z_dd_180 (by decide +kernel)
theorem dX11_handIn_22 : decode cX11_handIn 22 = .ok (.if_icmp .ge 76, 3) := z_dd_162 (by decide +kernel)
theorem dX11_handIn_98 : decode cX11_handIn 98 = .ok (.iload_n 2, 1) := z_dd_28 (by decide +kernel)
theorem dX11_handIn_99 : decode cX11_handIn 99 = .ok (.ireturn, 1) := z_dd_172 (by decide +kernel)
theorem dX11_handIn_25 : decode cX11_handIn 25 = .ok (.iload_n 3, 1) := z_dd_29 (by decide +kernel)
theorem dX11_handIn_26 : decode cX11_handIn 26 = .ok (.sipush 300, 3) := z_dd_17 (by decide +kernel)
theorem dX11_handIn_29 : decode cX11_handIn 29 = .ok (.if_icmp .ge 69, 3) := z_dd_162 (by decide +kernel)
theorem dX11_handIn_32 : decode cX11_handIn 32 = .ok (.aload_n 0, 1) := z_dd_42 (by decide +kernel)
theorem dX11_handIn_33 : decode cX11_handIn 33 = .ok (.getfield 44, 3) := z_dd_180 (by decide +kernel)
theorem dX11_handIn_36 : decode cX11_handIn 36 = .ok (.getfield 202, 3) := z_dd_180 (by decide +kernel)
theorem dX11_handIn_39 : decode cX11_handIn 39 = .ok (.iload_n 3, 1) := z_dd_29 (by decide +kernel)
theorem dX11_handIn_40 : decode cX11_handIn 40 = .ok (.iaload, 1) := z_dd_46 (by decide +kernel)
theorem dX11_handIn_41 : decode cX11_handIn 41 = .ok (.iload_n 1, 1) := z_dd_27 (by decide +kernel)
theorem dX11_handIn_42 : decode cX11_handIn 42 = .ok (.if_icmp .ne 50, 3) := z_dd_160 (by decide +kernel)
theorem dX11_handIn_92 : decode cX11_handIn 92 = .ok (.iinc 3 1, 3) := z_dd_132 (by decide +kernel)
theorem dX11_handIn_95 : decode cX11_handIn 95 = .ok (.goto (-81), 3) := z_dd_167 (by decide +kernel)
theorem dX11_handIn_45 : decode cX11_handIn 45 = .ok (.aload_n 0, 1) := z_dd_42 (by decide +kernel)
theorem dX11_handIn_46 : decode cX11_handIn 46 = .ok (.getfield 44, 3) := z_dd_180 (by decide +kernel)
theorem dX11_handIn_49 : decode cX11_handIn 49 = .ok (.getfield 205, 3) := z_dd_180 (by decide +kernel)
theorem dX11_handIn_52 : decode cX11_handIn 52 = .ok (.iload_n 3, 1) := z_dd_29 (by decide +kernel)
theorem dX11_handIn_53 : decode cX11_handIn 53 = .ok (.iaload, 1) := z_dd_46 (by decide +kernel)
theorem dX11_handIn_54 : decode cX11_handIn 54 = .ok (.iconst (-1), 1) := z_dd_2 (by decide +kernel)
theorem dX11_handIn_55 : decode cX11_handIn 55 = .ok (.if_icmp .ne 37, 3) := z_dd_160 (by decide +kernel)
theorem dX11_handIn_58 : decode cX11_handIn 58 = .ok (.aload_n 0, 1) := z_dd_42 (by decide +kernel)
theorem dX11_handIn_59 : decode cX11_handIn 59 = .ok (.getfield 44, 3) := z_dd_180 (by decide +kernel)
theorem dX11_handIn_62 : decode cX11_handIn 62 = .ok (.getfield 205, 3) := z_dd_180 (by decide +kernel)
theorem dX11_handIn_65 : decode cX11_handIn 65 = .ok (.iload_n 3, 1) := z_dd_29 (by decide +kernel)
theorem dX11_handIn_66 : decode cX11_handIn 66 = .ok (.aload_n 0, 1) := z_dd_42 (by decide +kernel)
theorem dX11_handIn_67 : decode cX11_handIn 67 = .ok (.iload_n 3, 1) := z_dd_29 (by decide +kernel)
set_option maxRecDepth 20000 in
theorem ggX11_handIn_X11_verdictOn : GoodIn wsX11_handIn wsX11_verdictOn := goodIn_sub (fa_c (me_s (me_l (me_l (me_l (me_l (me_l (me_l (List.mem_of_getElem? (i := 13) rfl)))))))) (fa_a (fa_a (fa_a (fa_a (fa_a (fa_a (fa_c (me_s (me_l (me_l (me_l (me_l (me_l (me_l (List.mem_of_getElem? (i := 0) rfl)))))))) (fa_c (me_s (me_l (me_l (me_l (me_l (me_l (me_l (List.mem_of_getElem? (i := 14) rfl)))))))) (fa_c (me_s (me_l (me_l (me_l (me_l (me_l (me_l (List.mem_of_getElem? (i := 15) rfl)))))))) (fa_c (me_s (me_l (me_l (me_l (me_l (me_l (me_l (List.mem_of_getElem? (i := 16) rfl)))))))) (fa_c (me_s (me_l (me_l (me_l (me_l (me_l (me_l (List.mem_of_getElem? (i := 17) rfl)))))))) (fa_c (me_s (me_l (me_l (me_l (me_l (me_l (me_l (List.mem_of_getElem? (i := 18) rfl)))))))) (fa_c (me_s (me_l (me_l (me_l (me_l (me_l (me_l (List.mem_of_getElem? (i := 19) rfl)))))))) (fa_c (me_s (me_l (me_l (me_l (me_l (me_l (me_l (List.mem_of_getElem? (i := 20) rfl)))))))) (fa_c (me_s (me_l (me_l (me_l (me_l (me_l (me_l (List.mem_of_getElem? (i := 21) rfl)))))))) (fa_c (me_s (me_l (me_l (me_l (me_l (me_l (me_l (List.mem_of_getElem? (i := 22) rfl)))))))) (fa_c (me_s (me_l (me_l (me_l (me_l (me_l (me_l (List.mem_of_getElem? (i := 23) rfl)))))))) (fa_c (me_s (me_l (me_l (me_l (me_l (me_l (me_r (me_l (List.mem_of_getElem? (i := 0) rfl))))))))) (fa_c (me_s (me_l (me_l (me_l (me_l (me_l (me_r (me_l (List.mem_of_getElem? (i := 1) rfl))))))))) (fa_c (me_s (me_l (me_l (me_l (me_l (me_l (me_r (me_l (List.mem_of_getElem? (i := 2) rfl))))))))) (fa_c (me_s (me_l (me_l (me_l (me_l (me_l (me_r (me_l (List.mem_of_getElem? (i := 3) rfl))))))))) (fa_c (me_s (me_l (me_l (me_l (me_l (me_l (me_r (me_l (List.mem_of_getElem? (i := 4) rfl))))))))) (fa_c (me_s (me_l (me_l (me_l (me_l (me_l (me_r (me_l (List.mem_of_getElem? (i := 5) rfl))))))))) (fa_c (me_s (me_l (me_l (me_l (me_l (me_l (me_r (me_l (List.mem_of_getElem? (i := 6) rfl))))))))) (fa_c (me_s (me_l (me_l (me_l (me_l (me_l (me_r (me_l (List.mem_of_getElem? (i := 7) rfl))))))))) (fa_c (me_s (me_l (me_l (me_l (me_l (me_l (me_r (me_l (List.mem_of_getElem? (i := 8) rfl))))))))) (fa_c (me_s (me_l (me_l (me_l (me_l (me_l (me_r (me_l (List.mem_of_getElem? (i := 9) rfl))))))))) (fa_c (me_s (me_l (me_l (me_l (me_l (me_l (me_r (me_l (List.mem_of_getElem? (i := 10) rfl))))))))) (fa_c (me_s (me_l (me_l (me_l (me_l (me_l (me_r (me_l (List.mem_of_getElem? (i := 11) rfl))))))))) (fa_c (me_s (me_l (me_l (me_l (me_l (me_l (me_r (me_l (List.mem_of_getElem? (i := 12) rfl))))))))) fa_n)))))))))))))))))))))))) (fa_a (fa_c (me_s (me_l (me_l (me_l (me_l (me_l (me_r (me_l (List.mem_of_getElem? (i := 13) rfl))))))))) (fa_c (me_s (me_l (me_l (me_l (me_l (me_l (me_r (me_l (List.mem_of_getElem? (i := 14) rfl))))))))) (fa_c (me_s (me_l (me_l (me_l (me_l (me_l (me_r (me_l (List.mem_of_getElem? (i := 15) rfl))))))))) (fa_c (me_s (me_l (me_l (me_l (me_l (me_l (me_r (me_l (List.mem_of_getElem? (i := 16) rfl))))))))) (fa_c (me_s (me_l (me_l (me_l (me_l (me_l (me_r (me_l (List.mem_of_getElem? (i := 17) rfl))))))))) (fa_c (me_s (me_l (me_l (me_l (me_l (me_l (me_r (me_l (List.mem_of_getElem? (i := 18) rfl))))))))) (fa_c (me_s (me_l (me_l (me_l (me_l (me_l (me_r (me_l (List.mem_of_getElem? (i := 19) rfl))))))))) (fa_c (me_s (me_l (me_l (me_l (me_l (me_l (me_r (me_l (List.mem_of_getElem? (i := 20) rfl))))))))) (fa_c (me_s (me_l (me_l (me_l (me_l (me_l (me_r (me_l (List.mem_of_getElem? (i := 21) rfl))))))))) (fa_c (me_s (me_l (me_l (me_l (me_l (me_l (me_r (me_l (List.mem_of_getElem? (i := 22) rfl))))))))) (fa_c (me_s (me_l (me_l (me_l (me_l (me_l (me_r (me_l (List.mem_of_getElem? (i := 23) rfl))))))))) (fa_c (me_s (me_l (me_l (me_l (me_l (me_l (me_r (me_r (List.mem_of_getElem? (i := 0) rfl))))))))) (fa_c (me_s (me_l (me_l (me_l (me_l (me_l (me_r (me_r (List.mem_of_getElem? (i := 1) rfl))))))))) (fa_c (me_s (me_l (me_l (me_l (me_l (me_l (me_r (me_r (List.mem_of_getElem? (i := 2) rfl))))))))) (fa_c (me_s (me_l (me_l (me_l (me_l (me_l (me_r (me_r (List.mem_of_getElem? (i := 3) rfl))))))))) (fa_c (me_s (me_l (me_l (me_l (me_l (me_l (me_r (me_r (List.mem_of_getElem? (i := 4) rfl))))))))) (fa_c (me_s (me_l (me_l (me_l (me_l (me_l (me_r (me_r (List.mem_of_getElem? (i := 5) rfl))))))))) (fa_c (me_s (me_l (me_l (me_l (me_l (me_l (me_r (me_r (List.mem_of_getElem? (i := 6) rfl))))))))) (fa_c (me_s (me_l (me_l (me_l (me_l (me_l (me_r (me_r (List.mem_of_getElem? (i := 7) rfl))))))))) (fa_c (me_s (me_l (me_l (me_l (me_l (me_l (me_r (me_r (List.mem_of_getElem? (i := 8) rfl))))))))) (fa_c (me_s (me_l (me_l (me_l (me_l (me_l (me_r (me_r (List.mem_of_getElem? (i := 9) rfl))))))))) (fa_c (me_s (me_l (me_l (me_l (me_l (me_l (me_r (me_r (List.mem_of_getElem? (i := 10) rfl))))))))) (fa_c (me_s (me_l (me_l (me_l (me_l (me_l (me_l (List.mem_of_getElem? (i := 7) rfl)))))))) (fa_c (me_s (me_l (me_l (me_l (me_l (me_l (me_r (me_r (List.mem_of_getElem? (i := 11) rfl))))))))) fa_n)))))))))))))))))))))))) (fa_c (me_s (me_l (me_l (me_l (me_l (me_l (me_r (me_r (List.mem_of_getElem? (i := 12) rfl))))))))) (fa_c (me_s (me_l (me_l (me_l (me_l (me_l (me_r (me_r (List.mem_of_getElem? (i := 13) rfl))))))))) (fa_c (me_s (me_l (me_l (me_l (me_l (me_l (me_r (me_r (List.mem_of_getElem? (i := 14) rfl))))))))) (fa_c (me_s (me_l (me_l (me_l (me_l (me_l (me_r (me_r (List.mem_of_getElem? (i := 15) rfl))))))))) (fa_c (me_s (me_l (me_l (me_l (me_l (me_l (me_r (me_r (List.mem_of_getElem? (i := 16) rfl))))))))) (fa_c (me_s (me_l (me_l (me_l (me_l (me_l (me_r (me_r (List.mem_of_getElem? (i := 17) rfl))))))))) (fa_c (me_s (me_l (me_l (me_l (me_l (me_l (me_r (me_r (List.mem_of_getElem? (i := 18) rfl))))))))) (fa_c (me_s (me_l (me_l (me_l (me_l (me_l (me_r (me_r (List.mem_of_getElem? (i := 19) rfl))))))))) fa_n)))))))))) (fun w h => (me_s (me_l (me_l (me_l (me_l (me_r h)))))))) (fun w h => (me_s (me_l (me_l (me_l (me_r h))))))) (fun w h => (me_s (me_l (me_l (me_r h)))))) (fun w h => (me_s (me_l (me_r h))))) (fun w h => (me_s (me_r h))))) (by decide +kernel)
set_option maxRecDepth 20000 in
theorem gX11_handIn_X11_verdictOn : GoodIn wsX11_handIn (wsV RX11 208 RX11 yX11_verdictOn wsX11_verdictOn) := goodIn_app (goodIn_sub (fa_c (me_s (me_l (me_l (me_l (me_l (me_l (me_l (List.mem_of_getElem? (i := 10) rfl)))))))) (fa_c (me_s (me_l (me_l (me_l (me_l (me_l (me_l (List.mem_of_getElem? (i := 11) rfl)))))))) (fa_c (me_s (me_l (me_l (me_l (me_l (me_l (me_l (List.mem_of_getElem? (i := 12) rfl)))))))) (fa_c (me_s (me_l (me_l (me_l (me_l (me_l (me_l (List.mem_of_getElem? (i := 7) rfl)))))))) fa_n)))) (by decide +kernel)) ggX11_handIn_X11_verdictOn
theorem dX11_handIn_68 : decode cX11_handIn 68 = .ok (.invokevirtual 208, 3) := z_dd_182 (by decide +kernel)
theorem dX11_handIn_71 : decode cX11_handIn 71 = .ok (.iastore, 1) := z_dd_79 (by decide +kernel)
theorem dX11_handIn_72 : decode cX11_handIn 72 = .ok (.iload_n 2, 1) := z_dd_28 (by decide +kernel)
theorem dX11_handIn_73 : decode cX11_handIn 73 = .ok (.aload_n 0, 1) := z_dd_42 (by decide +kernel)
theorem dX11_handIn_74 : decode cX11_handIn 74 = .ok (.getfield 44, 3) := z_dd_180 (by decide +kernel)
theorem dX11_handIn_77 : decode cX11_handIn 77 = .ok (.getfield 205, 3) := z_dd_180 (by decide +kernel)
theorem dX11_handIn_80 : decode cX11_handIn 80 = .ok (.iload_n 3, 1) := z_dd_29 (by decide +kernel)
theorem dX11_handIn_81 : decode cX11_handIn 81 = .ok (.iaload, 1) := z_dd_46 (by decide +kernel)
theorem dX11_handIn_82 : decode cX11_handIn 82 = .ok (.ifCond .ne 7, 3) := z_dd_154 (by decide +kernel)
theorem dX11_handIn_89 : decode cX11_handIn 89 = .ok (.iconst 0, 1) := z_dd_3 (by decide +kernel)
theorem dX11_handIn_90 : decode cX11_handIn 90 = .ok (.iadd, 1) := z_dd_96 (by decide +kernel)
theorem dX11_handIn_91 : decode cX11_handIn 91 = .ok (.istore_n 2, 1) := z_dd_61 (by decide +kernel)
theorem dX11_handIn_85 : decode cX11_handIn 85 = .ok (.iconst 1, 1) := z_dd_4 (by decide +kernel)
theorem dX11_handIn_86 : decode cX11_handIn 86 = .ok (.goto 4, 3) := z_dd_167 (by decide +kernel)
theorem dX11_found_13 : decode cX11_found 13 = .ok (.aload_n 0, 1) := z_dd_42 (by decide +kernel)
theorem dX11_found_14 : decode cX11_found 14 = .ok (.getfield 44, 3) := z_dd_180 (by decide +kernel)
theorem dX11_found_17 : decode cX11_found 17 = .ok (.iload_n 1, 1) := z_dd_27 (by decide +kernel)
set_option maxRecDepth 20000 in
theorem ggX11_found_X8_lastWasDyed : GoodIn wsX11_found wsX8_lastWasDyed := goodIn_sub (fa_c (me_s (me_l (me_l (me_l (me_l (List.mem_of_getElem? (i := 12) rfl)))))) (fa_a (fa_c (me_s (me_l (me_l (me_l (me_l (List.mem_of_getElem? (i := 13) rfl)))))) (fa_c (me_s (me_l (me_l (me_l (me_l (List.mem_of_getElem? (i := 14) rfl)))))) (fa_c (me_s (me_l (me_l (me_l (me_l (List.mem_of_getElem? (i := 15) rfl)))))) (fa_c (me_s (me_l (me_l (me_l (me_l (List.mem_of_getElem? (i := 16) rfl)))))) (fa_c (me_s (me_l (me_l (me_l (me_l (List.mem_of_getElem? (i := 17) rfl)))))) (fa_c (me_s (me_l (me_l (me_l (me_l (List.mem_of_getElem? (i := 18) rfl)))))) (fa_c (me_s (me_l (me_l (me_l (me_l (List.mem_of_getElem? (i := 19) rfl)))))) fa_n))))))) (fun w h => (me_s (me_r h))))) (by decide +kernel)
set_option maxRecDepth 20000 in
theorem gX11_found_X8_lastWasDyed : GoodIn wsX11_found (wsV RX11 223 RX8 yX8_lastWasDyed wsX8_lastWasDyed) := goodIn_app (goodIn_sub (fa_c (me_s (me_l (me_l (me_l (me_l (List.mem_of_getElem? (i := 8) rfl)))))) (fa_c (me_s (me_l (me_l (me_l (me_l (List.mem_of_getElem? (i := 9) rfl)))))) (fa_c (me_s (me_l (me_l (me_l (me_l (List.mem_of_getElem? (i := 10) rfl)))))) (fa_c (me_s (me_l (me_l (me_l (me_l (List.mem_of_getElem? (i := 11) rfl)))))) fa_n)))) (by decide +kernel)) ggX11_found_X8_lastWasDyed
theorem dX11_found_18 : decode cX11_found 18 = .ok (.invokevirtual 223, 3) := z_dd_182 (by decide +kernel)
theorem dX11_found_21 : decode cX11_found 21 = .ok (.ifCond .eq 15, 3) := z_dd_153 (by decide +kernel)
theorem dX11_found_24 : decode cX11_found 24 = .ok (.aload_n 0, 1) := z_dd_42 (by decide +kernel)
theorem dX11_found_25 : decode cX11_found 25 = .ok (.iload_n 1, 1) := z_dd_27 (by decide +kernel)
set_option maxRecDepth 20000 in
theorem ggX11_found_X11_isFarmerNow : GoodIn wsX11_found wsX11_isFarmerNow := goodIn_sub (fa_c (me_s (me_l (me_l (me_l (me_r (List.mem_of_getElem? (i := 0) rfl)))))) (fa_a (fa_a (fa_c (me_s (me_l (me_l (me_l (me_l (List.mem_of_getElem? (i := 0) rfl)))))) (fa_c (me_s (me_l (me_l (me_l (me_r (List.mem_of_getElem? (i := 1) rfl)))))) (fa_c (me_s (me_l (me_l (me_l (me_r (List.mem_of_getElem? (i := 2) rfl)))))) (fa_c (me_s (me_l (me_l (me_l (me_r (List.mem_of_getElem? (i := 3) rfl)))))) (fa_c (me_s (me_l (me_l (me_l (me_r (List.mem_of_getElem? (i := 4) rfl)))))) (fa_c (me_s (me_l (me_l (me_l (me_l (List.mem_of_getElem? (i := 5) rfl)))))) (fa_c (me_s (me_l (me_l (me_l (me_r (List.mem_of_getElem? (i := 5) rfl)))))) (fa_c (me_s (me_l (me_l (me_l (me_r (List.mem_of_getElem? (i := 6) rfl)))))) (fa_c (me_s (me_l (me_l (me_l (me_r (List.mem_of_getElem? (i := 7) rfl)))))) (fa_c (me_s (me_l (me_l (me_l (me_r (List.mem_of_getElem? (i := 8) rfl)))))) (fa_c (me_s (me_l (me_l (me_l (me_r (List.mem_of_getElem? (i := 9) rfl)))))) (fa_c (me_s (me_l (me_l (me_l (me_r (List.mem_of_getElem? (i := 10) rfl)))))) (fa_c (me_s (me_l (me_l (me_l (me_r (List.mem_of_getElem? (i := 11) rfl)))))) fa_n))))))))))))) (fun w h => (me_s (me_l (me_l (me_r h)))))) (fun w h => (me_s (me_l (me_r h)))))) (by decide +kernel)
set_option maxRecDepth 20000 in
theorem gX11_found_X11_isFarmerNow : GoodIn wsX11_found (wsV RX11 195 RX11 yX11_isFarmerNow wsX11_isFarmerNow) := goodIn_app (goodIn_sub (fa_c (me_s (me_l (me_l (me_l (me_l (List.mem_of_getElem? (i := 20) rfl)))))) (fa_c (me_s (me_l (me_l (me_l (me_l (List.mem_of_getElem? (i := 21) rfl)))))) (fa_c (me_s (me_l (me_l (me_l (me_l (List.mem_of_getElem? (i := 22) rfl)))))) (fa_c (me_s (me_l (me_l (me_l (me_l (List.mem_of_getElem? (i := 23) rfl)))))) fa_n)))) (by decide +kernel)) ggX11_found_X11_isFarmerNow
theorem dX11_found_26 : decode cX11_found 26 = .ok (.invokevirtual 195, 3) := z_dd_182 (by decide +kernel)
theorem dX11_found_29 : decode cX11_found 29 = .ok (.ifCond .ne 7, 3) := z_dd_154 (by decide +kernel)
theorem dX11_found_36 : decode cX11_found 36 = .ok (.iconst 0, 1) := z_dd_3 (by decide +kernel)
theorem dX11_found_37 : decode cX11_found 37 = .ok (.ireturn, 1) := z_dd_172 (by decide +kernel)
theorem dX11_found_32 : decode cX11_found 32 = .ok (.iconst 1, 1) := z_dd_4 (by decide +kernel)
theorem dX11_found_33 : decode cX11_found 33 = .ok (.goto 4, 3) := z_dd_167 (by decide +kernel)
theorem z_l99999 : (99999 : Int32).toInt = 99999 := by decide
theorem zj_X11_day_X11 : ∀ w ∈ wsX110, w ∈ wsX11_day := fun w h => (List.mem_cons_of_mem _ (List.mem_append_right _ h))
theorem zj_X11_holder_X11 : ∀ w ∈ wsX110, w ∈ wsX11_holder := fun w h => (List.mem_cons_of_mem _ (List.mem_append_left _ (List.mem_append_right _ h)))
noncomputable def L_X11_note : z_L := [(7, 999), (8, 999), (9, 999), (10, 999), (11, 999), (1, 11)]
theorem zj_X11_note_X11 : ∀ w ∈ wsX110, w ∈ wsX11_note := fun w h => (List.mem_cons_of_mem _ (List.mem_append_left _ (List.mem_append_right _ h)))
set_option maxHeartbeats 8000000 in
set_option maxRecDepth 100000 in
theorem sx_X11_note (l : Launch) (G : z_G) (ad : Nat → Nat) (c : z_C) (I : z_I) (hB : z_iB I) (hH : z_iH I) (a1 : Int32) (a2 : Int32) (a3 : Int32) (hc : z_okc c) (h10 : c.1 ≤ 10) : z_M l yX11_note wsX11_note { frames := 3, cells := 0, slots := 0, locals := 54 } [.ref (ad 0), .int a1, .int a2, .int a3] G (shC c, ad, I, JX, PC c ad) (fun r u1 => ∃ I1 : z_I, u1 = (shC c, ad, I1, JX, PC c ad) ∧ z_iB I1 ∧ z_iH I1 ∧ z_fr L_X11_note I1 I) 0 0 := by
  intro sz
  refine z_headQ (cc := cX11_note) (maxL := 4) (ret := (some .int)) (by decide) rfl (Nat.le_of_ble_eq_true rfl) ?_
  intro p e s m below meth c0 ls hIn hK hsz hW hl
  obtain ⟨hx, hb, hr, hml, hown, hts, hlocks, hname⟩ := hIn
  subst hsz
  have hown : s.vm.findClass RX11 = some m.cls := hown
  have hA : ∀ q : Nat, s.heap.size ≤ q → z_A (shC c, ad, I, JX, PC c ad) s.heap.size q := fun q h => Or.inr h
  generalize hAe : z_A (shC c, ad, I, JX, PC c ad) s.heap.size = A at *
  have hS : va_S A s.heap s.heap [] := va_S.rf
  have hl : lv_has ls 4 [(0, .ref (ad 0)), (1, .int a1), (2, .int a2), (3, .int a3)] := hl
  refine lv_aload_n hx hb dX11_note_0 rfl (lv_at hl 0 rfl) ?_
  refine z_get (T := TX11) (N := 13) (ci := 11) (i := 0) (v := .ref (ad 1)) hx hb hts zj_X11_note_X11 hown hK hW rfl rfl 2 (by decide) (hts (.fieldLink RX11 16 "PetrolBoard" "holders" "LPetrolBoard$Holders;") (me_s (me_l (me_l (me_l (List.mem_of_getElem? (i := 0) rfl)))))) (fun _ h => h) rfl dX11_note_1 ?_
  refine lv_iload_n hx hb dX11_note_4 rfl (lv_at hl 1 rfl) ?_
  refine z_ci hW hS hA (va_runV (As := [.int a1]) (rest := []) ⟨hx, hb, hml, hown, hts⟩ (sx_X2_has l G ad c I ⟨(by show 0 ≤ (I 1 5).toInt ∧ (I 1 5).toInt ≤ 30; exact hH.1), (by show 0 ≤ (I 1 11).toInt ∧ (I 1 11).toInt ≤ 200; exact hH.2)⟩ a1 _) (cwV 1 hts gX11_note_X2_has rfl rfl rfl hy_X2_has ⟨Nat.le_of_ble_eq_true rfl, Nat.le_of_ble_eq_true rfl⟩) (z_preV (i := 1) hK hW rfl rfl) rfl rfl hl.1 rfl (lv_room (Nat.le_of_ble_eq_true rfl)) dX11_note_5 ⟨Nat.le_of_ble_eq_true rfl, Nat.le_of_ble_eq_true rfl⟩) (fun r u1 H locs hp hW hS => ?_)
  obtain ⟨e9, hp⟩ := hp
  rw [e9] at hW
  rcases hp with ⟨rfl, h1, h2⟩ | rfl
  · refine lv_if_eq (tgt := 27) hx hb dX11_note_8 (by decide) (fun c3 => absurd c3 (by decide)) (fun c3 => ?_)
    refine lv_iload_n hx hb dX11_note_11 rfl (lv_at hl 2 rfl) ?_
    refine lv_iconst (v := 0) hx hb dX11_note_12 (by decide) ?_
    refine lv_iconst (v := 4) hx hb dX11_note_13 (by decide) ?_
    refine z_ci hW hS hA (va_runS (As := [.int a2, .int 0, .int 4]) (rest := []) ⟨hx, hb, hml, hown, hts⟩ (sx_X11_within l G ad c I  a2 0 4 _) (va_cwS 3 hts gX11_note_X11_within rfl rfl rfl hy_X11_within.2 ⟨Nat.le_of_ble_eq_true rfl, Nat.le_of_ble_eq_true rfl⟩) (z_preS hK hW) rfl rfl hl.1 rfl (lv_room (Nat.le_of_ble_eq_true rfl)) dX11_note_14 ⟨Nat.le_of_ble_eq_true rfl, Nat.le_of_ble_eq_true rfl⟩) (fun r u1 H locs hp hW hS => ?_)
    obtain ⟨e9, hp⟩ := hp
    rw [e9] at hW
    rcases hp with ⟨rfl, h4, h5⟩ | rfl
    · have h4 := z_t_le z_l0 rfl h4
      have h5 := z_t_le rfl z_l4 h5
      refine lv_if_eq (tgt := 27) hx hb dX11_note_17 (by decide) (fun c6 => absurd c6 (by decide)) (fun c6 => ?_)
      refine lv_iload_n hx hb dX11_note_20 rfl (lv_at hl 3 rfl) ?_
      refine z_ci hW hS hA (va_runS (As := [.int a3]) (rest := []) ⟨hx, hb, hml, hown, hts⟩ (sx_X11_isDay l G ad c I  a3 _) (va_cwS 1 hts gX11_note_X11_isDay rfl rfl rfl hy_X11_isDay.2 ⟨Nat.le_of_ble_eq_true rfl, Nat.le_of_ble_eq_true rfl⟩) (z_preS hK hW) rfl rfl hl.1 rfl (lv_room (Nat.le_of_ble_eq_true rfl)) dX11_note_21 ⟨Nat.le_of_ble_eq_true rfl, Nat.le_of_ble_eq_true rfl⟩) (fun r u1 H locs hp hW hS => ?_)
      obtain ⟨e9, hp⟩ := hp
      rw [e9] at hW
      rcases hp with ⟨rfl, h7, h8⟩ | rfl
      · refine lv_if_ne (tgt := 29) hx hb dX11_note_24 (by decide) (fun c9 => ?_) (fun c9 => absurd c9 (by decide))
        refine lv_aload_n hx hb dX11_note_29 rfl (lv_at hl 0 rfl) ?_
        refine z_get (T := TX11) (N := 13) (ci := 11) (i := 0) (v := .ref (ad 1)) hx hb hts zj_X11_note_X11 hown hK hW rfl rfl 2 (by decide) (hts (.fieldLink RX11 16 "PetrolBoard" "holders" "LPetrolBoard$Holders;") (me_s (me_l (me_l (me_l (List.mem_of_getElem? (i := 0) rfl)))))) (fun _ h => h) rfl dX11_note_30 ?_
        refine lv_iload_n hx hb dX11_note_33 rfl (lv_at hl 1 rfl) ?_
        refine lv_iload_n hx hb dX11_note_34 rfl (lv_at hl 2 rfl) ?_
        refine lv_iload_n hx hb dX11_note_35 rfl (lv_at hl 3 rfl) ?_
        refine lv_aload_n hx hb dX11_note_36 rfl (lv_at hl 0 rfl) ?_
        have r10 : 0 ≤ (I 0 0).toInt ∧ (I 0 0).toInt ≤ 719 := hB.1
        refine z_get (T := TX11) (N := 13) (ci := 11) (i := 0) (v := .int (I 0 0)) hx hb hts zj_X11_note_X11 hown hK hW rfl rfl 0 (by decide) (hts (.fieldLink RX11 85 "PetrolBoard" "today" "I") (me_s (me_l (me_l (me_l (List.mem_of_getElem? (i := 1) rfl)))))) (fun _ h => h) rfl dX11_note_37 ?_
        refine z_ci hW hS hA (va_runV (As := [.int a1, .int a2, .int a3, .int (I 0 0)]) (rest := []) ⟨hx, hb, hml, hown, hts⟩ (sx_X2_addNote l G ad c I ⟨(by show 0 ≤ (I 1 5).toInt ∧ (I 1 5).toInt ≤ 30; exact hH.1), (by show 0 ≤ (I 1 11).toInt ∧ (I 1 11).toInt ≤ 200; exact hH.2)⟩ a1 a2 a3 (I 0 0) _) (cwV 4 hts gX11_note_X2_addNote rfl rfl rfl hy_X2_addNote ⟨Nat.le_of_ble_eq_true rfl, Nat.le_of_ble_eq_true rfl⟩) (z_preV (i := 1) hK hW rfl rfl) rfl rfl hl.1 rfl (lv_room (Nat.le_of_ble_eq_true rfl)) dX11_note_40 ⟨Nat.le_of_ble_eq_true rfl, Nat.le_of_ble_eq_true rfl⟩) (fun r u1 H locs hp hW hS => ?_)
        obtain ⟨I11, e9, hI11H, fI11⟩ := hp
        rw [e9] at hW
        have f12 := z_fr_sub (L := L_X11_note) z_fr_0 fI11 (by decide)
        have k13 : 0 ≤ (I11 0 0).toInt ∧ (I11 0 0).toInt ≤ 719 := by rw [fI11 0 0 (by decide)]; exact (by show 0 ≤ (I 0 0).toInt ∧ (I 0 0).toInt ≤ 719; exact hB.1)
        have k14 : 0 ≤ (I11 0 8).toInt ∧ (I11 0 8).toInt ≤ 10 := by rw [fI11 0 8 (by decide)]; exact (by show 0 ≤ (I 0 8).toInt ∧ (I 0 8).toInt ≤ 10; exact hB.2)
        refine lv_topi (fun x15 ex15 => ?_)
        exact z_iret hx hb hr hK hS (Nat.le_of_ble_eq_true rfl) (Nat.le_of_ble_eq_true rfl) hlocks dX11_note_43 (shC c, ad, I11, JX, PC c ad) hW ⟨I11, rfl, ⟨(by show 0 ≤ (I11 0 0).toInt ∧ (I11 0 0).toInt ≤ 719; exact k13), (by show 0 ≤ (I11 0 8).toInt ∧ (I11 0 8).toInt ≤ 10; exact k14)⟩, ⟨(by show 0 ≤ (I11 1 5).toInt ∧ (I11 1 5).toInt ≤ 30; exact hI11H.1), (by show 0 ≤ (I11 1 11).toInt ∧ (I11 1 11).toInt ≤ 200; exact hI11H.2)⟩, f12⟩
      · refine lv_if_ne (tgt := 29) hx hb dX11_note_24 (by decide) (fun c16 => absurd (by decide) c16) (fun c16 => ?_)
        refine lv_iconst (v := (-1)) hx hb dX11_note_27 (by decide) ?_
        exact z_iret hx hb hr hK hS (Nat.le_of_ble_eq_true rfl) (Nat.le_of_ble_eq_true rfl) hlocks dX11_note_28 (shC c, ad, I, JX, PC c ad) hW ⟨I, rfl, ⟨(by show 0 ≤ (I 0 0).toInt ∧ (I 0 0).toInt ≤ 719; exact hB.1), (by show 0 ≤ (I 0 8).toInt ∧ (I 0 8).toInt ≤ 10; exact hB.2)⟩, ⟨(by show 0 ≤ (I 1 5).toInt ∧ (I 1 5).toInt ≤ 30; exact hH.1), (by show 0 ≤ (I 1 11).toInt ∧ (I 1 11).toInt ≤ 200; exact hH.2)⟩, z_fr_0⟩
    · refine lv_if_eq (tgt := 27) hx hb dX11_note_17 (by decide) (fun c17 => ?_) (fun c17 => absurd (by decide) c17)
      refine lv_iconst (v := (-1)) hx hb dX11_note_27 (by decide) ?_
      exact z_iret hx hb hr hK hS (Nat.le_of_ble_eq_true rfl) (Nat.le_of_ble_eq_true rfl) hlocks dX11_note_28 (shC c, ad, I, JX, PC c ad) hW ⟨I, rfl, ⟨(by show 0 ≤ (I 0 0).toInt ∧ (I 0 0).toInt ≤ 719; exact hB.1), (by show 0 ≤ (I 0 8).toInt ∧ (I 0 8).toInt ≤ 10; exact hB.2)⟩, ⟨(by show 0 ≤ (I 1 5).toInt ∧ (I 1 5).toInt ≤ 30; exact hH.1), (by show 0 ≤ (I 1 11).toInt ∧ (I 1 11).toInt ≤ 200; exact hH.2)⟩, z_fr_0⟩
  · refine lv_if_eq (tgt := 27) hx hb dX11_note_8 (by decide) (fun c18 => ?_) (fun c18 => absurd (by decide) c18)
    refine lv_iconst (v := (-1)) hx hb dX11_note_27 (by decide) ?_
    exact z_iret hx hb hr hK hS (Nat.le_of_ble_eq_true rfl) (Nat.le_of_ble_eq_true rfl) hlocks dX11_note_28 (shC c, ad, I, JX, PC c ad) hW ⟨I, rfl, ⟨(by show 0 ≤ (I 0 0).toInt ∧ (I 0 0).toInt ≤ 719; exact hB.1), (by show 0 ≤ (I 0 8).toInt ∧ (I 0 8).toInt ≤ 10; exact hB.2)⟩, ⟨(by show 0 ≤ (I 1 5).toInt ∧ (I 1 5).toInt ≤ 30; exact hH.1), (by show 0 ≤ (I 1 11).toInt ∧ (I 1 11).toInt ≤ 200; exact hH.2)⟩, z_fr_0⟩
noncomputable def L_X11_undo : z_L := [(11, 999)]
theorem zj_X11_undo_X11 : ∀ w ∈ wsX110, w ∈ wsX11_undo := fun w h => (List.mem_cons_of_mem _ (List.mem_append_left _ (List.mem_append_right _ h)))
set_option maxHeartbeats 8000000 in
set_option maxRecDepth 100000 in
theorem sx_X11_undo (l : Launch) (G : z_G) (ad : Nat → Nat) (c : z_C) (I : z_I) (hB : z_iB I) (hH : z_iH I) (a1 : Int32) (hc : z_okc c) (h10 : c.1 ≤ 10) : z_M l yX11_undo wsX11_undo { frames := 2, cells := 0, slots := 0, locals := 34 } [.ref (ad 0), .int a1] G (shC c, ad, I, JX, PC c ad) (fun r u1 => ∃ I1 : z_I, u1 = (shC c, ad, I1, JX, PC c ad) ∧ z_iB I1 ∧ z_iH I1 ∧ z_fr L_X11_undo I1 I ∧ (r = 1 ∨ r = 0)) 0 0 := by
  intro sz
  refine z_headQ (cc := cX11_undo) (maxL := 2) (ret := (some .boolean)) (by decide) rfl (Nat.le_of_ble_eq_true rfl) ?_
  intro p e s m below meth c0 ls hIn hK hsz hW hl
  obtain ⟨hx, hb, hr, hml, hown, hts, hlocks, hname⟩ := hIn
  subst hsz
  have hown : s.vm.findClass RX11 = some m.cls := hown
  have hA : ∀ q : Nat, s.heap.size ≤ q → z_A (shC c, ad, I, JX, PC c ad) s.heap.size q := fun q h => Or.inr h
  generalize hAe : z_A (shC c, ad, I, JX, PC c ad) s.heap.size = A at *
  have hS : va_S A s.heap s.heap [] := va_S.rf
  have hl : lv_has ls 2 [(0, .ref (ad 0)), (1, .int a1)] := hl
  refine lv_aload_n hx hb dX11_undo_0 rfl (lv_at hl 0 rfl) ?_
  refine z_get (T := TX11) (N := 13) (ci := 11) (i := 0) (v := .ref (ad 1)) hx hb hts zj_X11_undo_X11 hown hK hW rfl rfl 2 (by decide) (hts (.fieldLink RX11 16 "PetrolBoard" "holders" "LPetrolBoard$Holders;") (me_s (me_l (me_l (List.mem_of_getElem? (i := 0) rfl))))) (fun _ h => h) rfl dX11_undo_1 ?_
  refine lv_iload_n hx hb dX11_undo_4 rfl (lv_at hl 1 rfl) ?_
  refine lv_aload_n hx hb dX11_undo_5 rfl (lv_at hl 0 rfl) ?_
  have r1 : 0 ≤ (I 0 0).toInt ∧ (I 0 0).toInt ≤ 719 := hB.1
  refine z_get (T := TX11) (N := 13) (ci := 11) (i := 0) (v := .int (I 0 0)) hx hb hts zj_X11_undo_X11 hown hK hW rfl rfl 0 (by decide) (hts (.fieldLink RX11 85 "PetrolBoard" "today" "I") (me_s (me_l (me_l (List.mem_of_getElem? (i := 1) rfl))))) (fun _ h => h) rfl dX11_undo_6 ?_
  refine z_ci hW hS hA (va_runV (As := [.int a1, .int (I 0 0)]) (rest := []) ⟨hx, hb, hml, hown, hts⟩ (sx_X2_cancelNote l G ad c I ⟨(by show 0 ≤ (I 1 5).toInt ∧ (I 1 5).toInt ≤ 30; exact hH.1), (by show 0 ≤ (I 1 11).toInt ∧ (I 1 11).toInt ≤ 200; exact hH.2)⟩ a1 (I 0 0) _) (cwV 2 hts gX11_undo_X2_cancelNote rfl rfl rfl hy_X2_cancelNote ⟨Nat.le_of_ble_eq_true rfl, Nat.le_of_ble_eq_true rfl⟩) (z_preV (i := 1) hK hW rfl rfl) rfl rfl hl.1 rfl (lv_room (Nat.le_of_ble_eq_true rfl)) dX11_undo_9 ⟨Nat.le_of_ble_eq_true rfl, Nat.le_of_ble_eq_true rfl⟩) (fun r u1 H locs hp hW hS => ?_)
  obtain ⟨I2, e9, hI2H, fI2, hp⟩ := hp
  rw [e9] at hW
  have f3 := z_fr_sub (L := L_X11_undo) z_fr_0 fI2 (by decide)
  have k4 : 0 ≤ (I2 0 0).toInt ∧ (I2 0 0).toInt ≤ 719 := by rw [fI2 0 0 (by decide)]; exact (by show 0 ≤ (I 0 0).toInt ∧ (I 0 0).toInt ≤ 719; exact hB.1)
  have k5 : 0 ≤ (I2 0 8).toInt ∧ (I2 0 8).toInt ≤ 10 := by rw [fI2 0 8 (by decide)]; exact (by show 0 ≤ (I 0 8).toInt ∧ (I 0 8).toInt ≤ 10; exact hB.2)
  rcases hp with rfl | rfl
  · exact z_zret hx hb hr (by decide) hK hS (Nat.le_of_ble_eq_true rfl) (Nat.le_of_ble_eq_true rfl) hlocks dX11_undo_12 (shC c, ad, I2, JX, PC c ad) hW ⟨I2, rfl, ⟨(by show 0 ≤ (I2 0 0).toInt ∧ (I2 0 0).toInt ≤ 719; exact k4), (by show 0 ≤ (I2 0 8).toInt ∧ (I2 0 8).toInt ≤ 10; exact k5)⟩, ⟨(by show 0 ≤ (I2 1 5).toInt ∧ (I2 1 5).toInt ≤ 30; exact hI2H.1), (by show 0 ≤ (I2 1 11).toInt ∧ (I2 1 11).toInt ≤ 200; exact hI2H.2)⟩, f3, Or.inl rfl⟩
  · exact z_zret hx hb hr (by decide) hK hS (Nat.le_of_ble_eq_true rfl) (Nat.le_of_ble_eq_true rfl) hlocks dX11_undo_12 (shC c, ad, I2, JX, PC c ad) hW ⟨I2, rfl, ⟨(by show 0 ≤ (I2 0 0).toInt ∧ (I2 0 0).toInt ≤ 719; exact k4), (by show 0 ≤ (I2 0 8).toInt ∧ (I2 0 8).toInt ≤ 10; exact k5)⟩, ⟨(by show 0 ≤ (I2 1 5).toInt ∧ (I2 1 5).toInt ≤ 30; exact hI2H.1), (by show 0 ≤ (I2 1 11).toInt ∧ (I2 1 11).toInt ≤ 200; exact hI2H.2)⟩, f3, Or.inr rfl⟩
theorem zj_X11_classOf_X11 : ∀ w ∈ wsX110, w ∈ wsX11_classOf := fun w h => (List.mem_cons_of_mem _ (List.mem_append_left _ (List.mem_append_right _ h)))
set_option maxHeartbeats 8000000 in
set_option maxRecDepth 100000 in
theorem sx_X11_classOf (l : Launch) (G : z_G) (ad : Nat → Nat) (c : z_C) (I : z_I) (hH : z_iH I) (a1 : Int32) (a2 : Int32) (a3 : Int32) (hc : z_okc c) (h10 : c.1 ≤ 10) : z_M l yX11_classOf wsX11_classOf { frames := 3, cells := 0, slots := 0, locals := 54 } [.ref (ad 0), .int a1, .int a2, .int a3] G (shC c, ad, I, JX, PC c ad) (fun r u1 => u1 = (shC c, ad, I, JX, PC c ad)) 0 0 := by
  intro sz
  refine z_headQ (cc := cX11_classOf) (maxL := 4) (ret := (some .int)) (by decide) rfl (Nat.le_of_ble_eq_true rfl) ?_
  intro p e s m below meth c0 ls hIn hK hsz hW hl
  obtain ⟨hx, hb, hr, hml, hown, hts, hlocks, hname⟩ := hIn
  subst hsz
  have hown : s.vm.findClass RX11 = some m.cls := hown
  have hA : ∀ q : Nat, s.heap.size ≤ q → z_A (shC c, ad, I, JX, PC c ad) s.heap.size q := fun q h => Or.inr h
  generalize hAe : z_A (shC c, ad, I, JX, PC c ad) s.heap.size = A at *
  have hS : va_S A s.heap s.heap [] := va_S.rf
  have hl : lv_has ls 4 [(0, .ref (ad 0)), (1, .int a1), (2, .int a2), (3, .int a3)] := hl
  refine lv_aload_n hx hb dX11_classOf_0 rfl (lv_at hl 0 rfl) ?_
  refine z_get (T := TX11) (N := 13) (ci := 11) (i := 0) (v := .ref (ad 1)) hx hb hts zj_X11_classOf_X11 hown hK hW rfl rfl 2 (by decide) (hts (.fieldLink RX11 16 "PetrolBoard" "holders" "LPetrolBoard$Holders;") (me_s (me_l (me_l (List.mem_of_getElem? (i := 0) rfl))))) (fun _ h => h) rfl dX11_classOf_1 ?_
  refine lv_iload_n hx hb dX11_classOf_4 rfl (lv_at hl 1 rfl) ?_
  refine z_ci hW hS hA (va_runV (As := [.int a1]) (rest := []) ⟨hx, hb, hml, hown, hts⟩ (sx_X2_has l G ad c I ⟨(by show 0 ≤ (I 1 5).toInt ∧ (I 1 5).toInt ≤ 30; exact hH.1), (by show 0 ≤ (I 1 11).toInt ∧ (I 1 11).toInt ≤ 200; exact hH.2)⟩ a1 _) (cwV 1 hts gX11_classOf_X2_has rfl rfl rfl hy_X2_has ⟨Nat.le_of_ble_eq_true rfl, Nat.le_of_ble_eq_true rfl⟩) (z_preV (i := 1) hK hW rfl rfl) rfl rfl hl.1 rfl (lv_room (Nat.le_of_ble_eq_true rfl)) dX11_classOf_5 ⟨Nat.le_of_ble_eq_true rfl, Nat.le_of_ble_eq_true rfl⟩) (fun r u1 H locs hp hW hS => ?_)
  obtain ⟨e9, hp⟩ := hp
  rw [e9] at hW
  rcases hp with ⟨rfl, h1, h2⟩ | rfl
  · refine lv_if_eq (tgt := 25) hx hb dX11_classOf_8 (by decide) (fun c3 => absurd c3 (by decide)) (fun c3 => ?_)
    refine lv_iload_n hx hb dX11_classOf_11 rfl (lv_at hl 2 rfl) ?_
    refine z_ci hW hS hA (va_runS (As := [.int a2]) (rest := []) ⟨hx, hb, hml, hown, hts⟩ (sx_X11_isDay l G ad c I  a2 _) (va_cwS 1 hts gX11_classOf_X11_isDay rfl rfl rfl hy_X11_isDay.2 ⟨Nat.le_of_ble_eq_true rfl, Nat.le_of_ble_eq_true rfl⟩) (z_preS hK hW) rfl rfl hl.1 rfl (lv_room (Nat.le_of_ble_eq_true rfl)) dX11_classOf_12 ⟨Nat.le_of_ble_eq_true rfl, Nat.le_of_ble_eq_true rfl⟩) (fun r u1 H locs hp hW hS => ?_)
    obtain ⟨e9, hp⟩ := hp
    rw [e9] at hW
    rcases hp with ⟨rfl, h4, h5⟩ | rfl
    · refine lv_if_eq (tgt := 25) hx hb dX11_classOf_15 (by decide) (fun c6 => absurd c6 (by decide)) (fun c6 => ?_)
      refine lv_iload_n hx hb dX11_classOf_18 rfl (lv_at hl 3 rfl) ?_
      refine z_ci hW hS hA (va_runS (As := [.int a3]) (rest := []) ⟨hx, hb, hml, hown, hts⟩ (sx_X11_isDay l G ad c I  a3 _) (va_cwS 1 hts gX11_classOf_X11_isDay rfl rfl rfl hy_X11_isDay.2 ⟨Nat.le_of_ble_eq_true rfl, Nat.le_of_ble_eq_true rfl⟩) (z_preS hK hW) rfl rfl hl.1 rfl (lv_room (Nat.le_of_ble_eq_true rfl)) dX11_classOf_19 ⟨Nat.le_of_ble_eq_true rfl, Nat.le_of_ble_eq_true rfl⟩) (fun r u1 H locs hp hW hS => ?_)
      obtain ⟨e9, hp⟩ := hp
      rw [e9] at hW
      rcases hp with ⟨rfl, h7, h8⟩ | rfl
      · refine lv_if_ne (tgt := 27) hx hb dX11_classOf_22 (by decide) (fun c9 => ?_) (fun c9 => absurd c9 (by decide))
        refine lv_aload_n hx hb dX11_classOf_27 rfl (lv_at hl 0 rfl) ?_
        refine z_get (T := TX11) (N := 13) (ci := 11) (i := 0) (v := .ref (ad 1)) hx hb hts zj_X11_classOf_X11 hown hK hW rfl rfl 2 (by decide) (hts (.fieldLink RX11 16 "PetrolBoard" "holders" "LPetrolBoard$Holders;") (me_s (me_l (me_l (List.mem_of_getElem? (i := 0) rfl))))) (fun _ h => h) rfl dX11_classOf_28 ?_
        refine lv_iload_n hx hb dX11_classOf_31 rfl (lv_at hl 1 rfl) ?_
        refine lv_iload_n hx hb dX11_classOf_32 rfl (lv_at hl 2 rfl) ?_
        refine lv_iload_n hx hb dX11_classOf_33 rfl (lv_at hl 3 rfl) ?_
        refine z_ci hW hS hA (va_runV (As := [.int a1, .int a2, .int a3]) (rest := []) ⟨hx, hb, hml, hown, hts⟩ (sx_X2_kindOn l G ad c I ⟨(by show 0 ≤ (I 1 5).toInt ∧ (I 1 5).toInt ≤ 30; exact hH.1), (by show 0 ≤ (I 1 11).toInt ∧ (I 1 11).toInt ≤ 200; exact hH.2)⟩ a1 a2 a3 _) (cwV 3 hts gX11_classOf_X2_kindOn rfl rfl rfl hy_X2_kindOn ⟨Nat.le_of_ble_eq_true rfl, Nat.le_of_ble_eq_true rfl⟩) (z_preV (i := 1) hK hW rfl rfl) rfl rfl hl.1 rfl (lv_room (Nat.le_of_ble_eq_true rfl)) dX11_classOf_34 ⟨Nat.le_of_ble_eq_true rfl, Nat.le_of_ble_eq_true rfl⟩) (fun r u1 H locs hp hW hS => ?_)
        rw [hp] at hW
        refine lv_topi (fun x10 ex10 => ?_)
        exact z_iret hx hb hr hK hS (Nat.le_of_ble_eq_true rfl) (Nat.le_of_ble_eq_true rfl) hlocks dX11_classOf_37 (shC c, ad, I, JX, PC c ad) hW rfl
      · refine lv_if_ne (tgt := 27) hx hb dX11_classOf_22 (by decide) (fun c11 => absurd (by decide) c11) (fun c11 => ?_)
        refine lv_iconst (v := (-1)) hx hb dX11_classOf_25 (by decide) ?_
        exact z_iret hx hb hr hK hS (Nat.le_of_ble_eq_true rfl) (Nat.le_of_ble_eq_true rfl) hlocks dX11_classOf_26 (shC c, ad, I, JX, PC c ad) hW rfl
    · refine lv_if_eq (tgt := 25) hx hb dX11_classOf_15 (by decide) (fun c12 => ?_) (fun c12 => absurd (by decide) c12)
      refine lv_iconst (v := (-1)) hx hb dX11_classOf_25 (by decide) ?_
      exact z_iret hx hb hr hK hS (Nat.le_of_ble_eq_true rfl) (Nat.le_of_ble_eq_true rfl) hlocks dX11_classOf_26 (shC c, ad, I, JX, PC c ad) hW rfl
  · refine lv_if_eq (tgt := 25) hx hb dX11_classOf_8 (by decide) (fun c13 => ?_) (fun c13 => absurd (by decide) c13)
    refine lv_iconst (v := (-1)) hx hb dX11_classOf_25 (by decide) ?_
    exact z_iret hx hb hr hK hS (Nat.le_of_ble_eq_true rfl) (Nat.le_of_ble_eq_true rfl) hlocks dX11_classOf_26 (shC c, ad, I, JX, PC c ad) hW rfl
theorem zj_X11_fault_X11 : ∀ w ∈ wsX110, w ∈ wsX11_fault := fun w h => (List.mem_cons_of_mem _ (List.mem_append_right _ h))
set_option maxHeartbeats 8000000 in
set_option maxRecDepth 100000 in
theorem sx_X11_fault (l : Launch) (G : z_G) (ad : Nat → Nat) (c : z_C) (I : z_I) (hc : z_okc c) (h10 : c.1 ≤ 10) : z_M l yX11_fault wsX11_fault { frames := 1, cells := 0, slots := 0, locals := 12 } [.ref (ad 0)] G (shC c, ad, I, JX, PC c ad) (fun r u1 => u1 = (shC c, ad, I, JX, PC c ad)) 0 0 := by
  intro sz
  refine z_headQ (cc := cX11_fault) (maxL := 1) (ret := (some .int)) (by decide) rfl (Nat.le_of_ble_eq_true rfl) ?_
  intro p e s m below meth c0 ls hIn hK hsz hW hl
  obtain ⟨hx, hb, hr, hml, hown, hts, hlocks, hname⟩ := hIn
  subst hsz
  have hown : s.vm.findClass RX11 = some m.cls := hown
  have hA : ∀ q : Nat, s.heap.size ≤ q → z_A (shC c, ad, I, JX, PC c ad) s.heap.size q := fun q h => Or.inr h
  generalize hAe : z_A (shC c, ad, I, JX, PC c ad) s.heap.size = A at *
  have hS : va_S A s.heap s.heap [] := va_S.rf
  have hl : lv_has ls 1 [(0, .ref (ad 0))] := hl
  refine lv_aload_n hx hb dX11_fault_0 rfl (lv_at hl 0 rfl) ?_
  refine z_get (T := TX11) (N := 13) (ci := 11) (i := 0) (v := .int (I 0 1)) hx hb hts zj_X11_fault_X11 hown hK hW rfl rfl 1 (by decide) (hts (.fieldLink RX11 9 "PetrolBoard" "faultPlace" "I") (me_s (me_l (List.mem_of_getElem? (i := 0) rfl)))) (fun _ h => h) rfl dX11_fault_1 ?_
  exact z_iret hx hb hr hK hS (Nat.le_of_ble_eq_true rfl) (Nat.le_of_ble_eq_true rfl) hlocks dX11_fault_4 (shC c, ad, I, JX, PC c ad) hW rfl
theorem zj_X11_rule_X11 : ∀ w ∈ wsX110, w ∈ wsX11_rule := fun w h => (List.mem_cons_of_mem _ (List.mem_append_left _ (List.mem_append_left _ (List.mem_append_right _ h))))
set_option maxHeartbeats 8000000 in
set_option maxRecDepth 100000 in
theorem sx_X11_rule (l : Launch) (G : z_G) (ad : Nat → Nat) (c : z_C) (I : z_I) (hO : z_iO I) (a1 : Int32) (a2 : Int32) (a3 : Int32) (hc : z_okc c) (h10 : c.1 ≤ 10) : z_MS l yX11_rule wsX11_rule { frames := 4, cells := 0, slots := 0, locals := 86 } [.ref (ad 0), .int a1, .int a2, .int a3] G (shC c, ad, I, JX, PC c ad) (fun r u1 => u1 = (shC c, ad, I, JX, PC c ad)) 0 0 := by
  intro sz
  refine z_headS (cc := cX11_rule) (maxL := 4) (ret := (some .int)) (by decide) rfl (Nat.le_of_ble_eq_true rfl) ?_
  intro p e s m below meth c0 ls hIn hK hsz hW hl hSt
  obtain ⟨hx, hb, hr, hml, hown, hts, hlocks, hname⟩ := hIn
  subst hsz
  have hown : s.vm.findClass RX11 = some m.cls := hown
  have hA : ∀ q : Nat, s.heap.size ≤ q → z_A (shC c, ad, I, JX, PC c ad) s.heap.size q := fun q h => Or.inr h
  generalize hAe : z_A (shC c, ad, I, JX, PC c ad) s.heap.size = A at *
  have hS : va_S A s.heap s.heap [] := va_S.rf
  have hl : lv_has ls 4 [(0, .ref (ad 0)), (1, .int a1), (2, .int a2), (3, .int a3)] := hl
  refine lv_iload_n hx hb dX11_rule_0 rfl (lv_at hl 1 rfl) ?_
  refine z_ci hW hS hA (va_runS (As := [.int a1]) (rest := []) ⟨hx, hb, hml, hown, hts⟩ (sx_X11_isMonth l G ad c I  a1 _) (va_cwS 1 hts gX11_rule_X11_isMonth rfl rfl rfl hy_X11_isMonth.2 ⟨Nat.le_of_ble_eq_true rfl, Nat.le_of_ble_eq_true rfl⟩) (z_preS hK hW) rfl rfl hl.1 rfl (lv_room (Nat.le_of_ble_eq_true rfl)) dX11_rule_1 ⟨Nat.le_of_ble_eq_true rfl, Nat.le_of_ble_eq_true rfl⟩) (fun r u1 H locs hp hW hS => ?_)
  obtain ⟨e9, hp⟩ := hp
  rw [e9] at hW
  rcases hp with ⟨rfl, h1, h2⟩ | rfl
  · refine lv_if_eq (tgt := 14) hx hb dX11_rule_4 (by decide) (fun c3 => absurd c3 (by decide)) (fun c3 => ?_)
    refine lv_iload_n hx hb dX11_rule_7 rfl (lv_at hl 2 rfl) ?_
    refine z_ci hW hS hA (va_runS (As := [.int a2]) (rest := []) ⟨hx, hb, hml, hown, hts⟩ (sx_X11_isDay l G ad c I  a2 _) (va_cwS 1 hts gX11_rule_X11_isDay rfl rfl rfl hy_X11_isDay.2 ⟨Nat.le_of_ble_eq_true rfl, Nat.le_of_ble_eq_true rfl⟩) (z_preS hK hW) rfl rfl hl.1 rfl (lv_room (Nat.le_of_ble_eq_true rfl)) dX11_rule_8 ⟨Nat.le_of_ble_eq_true rfl, Nat.le_of_ble_eq_true rfl⟩) (fun r u1 H locs hp hW hS => ?_)
    obtain ⟨e9, hp⟩ := hp
    rw [e9] at hW
    rcases hp with ⟨rfl, h4, h5⟩ | rfl
    · refine lv_if_ne (tgt := 16) hx hb dX11_rule_11 (by decide) (fun c6 => ?_) (fun c6 => absurd c6 (by decide))
      refine lv_iload_n hx hb dX11_rule_16 rfl (lv_at hl 3 rfl) ?_
      refine lv_iconst (v := 5) hx hb dX11_rule_17 (by decide) ?_
      refine lv_icmp_ne (tgt := 31) hx hb dX11_rule_18 (by decide) (fun c7 => ?_) (fun c7 => ?_)
      · have g8 := z_f_ne rfl z_l5 c7
        have b9 := Int32.toInt_lt a3
        refine lv_iload_n hx hb dX11_rule_31 rfl (lv_at hl 3 rfl) ?_
        refine lv_iconst (v := 0) hx hb dX11_rule_32 (by decide) ?_
        refine lv_iconst (v := 4) hx hb dX11_rule_33 (by decide) ?_
        refine z_ci hW hS hA (va_runS (As := [.int a3, .int 0, .int 4]) (rest := []) ⟨hx, hb, hml, hown, hts⟩ (sx_X11_within l G ad c I  a3 0 4 _) (va_cwS 3 hts gX11_rule_X11_within rfl rfl rfl hy_X11_within.2 ⟨Nat.le_of_ble_eq_true rfl, Nat.le_of_ble_eq_true rfl⟩) (z_preS hK hW) rfl rfl hl.1 rfl (lv_room (Nat.le_of_ble_eq_true rfl)) dX11_rule_34 ⟨Nat.le_of_ble_eq_true rfl, Nat.le_of_ble_eq_true rfl⟩) (fun r u1 H locs hp hW hS => ?_)
        obtain ⟨e9, hp⟩ := hp
        rw [e9] at hW
        rcases hp with ⟨rfl, h10, h11⟩ | rfl
        · have h10 := z_t_le z_l0 rfl h10
          have h11 := z_t_le rfl z_l4 h11
          refine lv_if_ne (tgt := 42) hx hb dX11_rule_37 (by decide) (fun c12 => ?_) (fun c12 => absurd c12 (by decide))
          refine lv_aload_n hx hb dX11_rule_42 rfl (lv_at hl 0 rfl) ?_
          refine z_get (T := TX11) (N := 13) (ci := 11) (i := 0) (v := .ref (ad 21)) hx hb hts zj_X11_rule_X11 hown hK hW rfl rfl 4 (by decide) (hts (.fieldLink RX11 30 "PetrolBoard" "orderBook" "LPetrolBoard$OrderBook;") (me_s (me_l (me_l (me_l (me_l (List.mem_of_getElem? (i := 0) rfl))))))) (fun _ h => h) rfl dX11_rule_43 ?_
          refine lv_iload_n hx hb dX11_rule_46 rfl (lv_at hl 3 rfl) ?_
          refine lv_iload_n hx hb dX11_rule_47 rfl (lv_at hl 1 rfl) ?_
          refine lv_iload_n hx hb dX11_rule_48 rfl (lv_at hl 2 rfl) ?_
          refine z_ci hW hS hA (va_runV (As := [.int a3, .int a1, .int a2]) (rest := []) ⟨hx, hb, hml, hown, hts⟩ (sx_X6_amount l G ad c I (by show 0 ≤ (I 21 2).toInt ∧ (I 21 2).toInt ≤ 12; exact hO) a3 a1 a2 hc _) (cwV 3 hts gX11_rule_X6_amount rfl rfl rfl hy_X6_amount ⟨Nat.le_of_ble_eq_true rfl, Nat.le_of_ble_eq_true rfl⟩) (z_preVS (i := 21) hK hW hS hA hSt rfl rfl) rfl rfl hl.1 rfl (lv_room (Nat.le_of_ble_eq_true rfl)) dX11_rule_49 ⟨Nat.le_of_ble_eq_true rfl, Nat.le_of_ble_eq_true rfl⟩) (fun r u1 H locs hp hW hS => ?_)
          rw [hp] at hW
          refine lv_topi (fun x13 ex13 => ?_)
          exact z_iret hx hb hr hK hS (Nat.le_of_ble_eq_true rfl) (Nat.le_of_ble_eq_true rfl) hlocks dX11_rule_52 (shC c, ad, I, JX, PC c ad) hW rfl
        · refine lv_if_ne (tgt := 42) hx hb dX11_rule_37 (by decide) (fun c14 => absurd (by decide) c14) (fun c14 => ?_)
          refine lv_iconst (v := (-1)) hx hb dX11_rule_40 (by decide) ?_
          exact z_iret hx hb hr hK hS (Nat.le_of_ble_eq_true rfl) (Nat.le_of_ble_eq_true rfl) hlocks dX11_rule_41 (shC c, ad, I, JX, PC c ad) hW rfl
      · have g15 := z_f_eq rfl z_l5 c7
        have b16 := Int32.toInt_lt a3
        refine lv_aload_n hx hb dX11_rule_21 rfl (lv_at hl 0 rfl) ?_
        refine z_get (T := TX11) (N := 13) (ci := 11) (i := 0) (v := .ref (ad 21)) hx hb hts zj_X11_rule_X11 hown hK hW rfl rfl 4 (by decide) (hts (.fieldLink RX11 30 "PetrolBoard" "orderBook" "LPetrolBoard$OrderBook;") (me_s (me_l (me_l (me_l (me_l (List.mem_of_getElem? (i := 0) rfl))))))) (fun _ h => h) rfl dX11_rule_22 ?_
        refine lv_iload_n hx hb dX11_rule_25 rfl (lv_at hl 1 rfl) ?_
        refine lv_iload_n hx hb dX11_rule_26 rfl (lv_at hl 2 rfl) ?_
        refine z_ci hW hS hA (va_runV (As := [.int a1, .int a2]) (rest := []) ⟨hx, hb, hml, hown, hts⟩ (sx_X6_inForce l G ad c I (by show 0 ≤ (I 21 2).toInt ∧ (I 21 2).toInt ≤ 12; exact hO) a1 a2 _) (cwV 2 hts gX11_rule_X6_inForce rfl rfl rfl hy_X6_inForce ⟨Nat.le_of_ble_eq_true rfl, Nat.le_of_ble_eq_true rfl⟩) (z_preV (i := 21) hK hW rfl rfl) rfl rfl hl.1 rfl (lv_room (Nat.le_of_ble_eq_true rfl)) dX11_rule_27 ⟨Nat.le_of_ble_eq_true rfl, Nat.le_of_ble_eq_true rfl⟩) (fun r u1 H locs hp hW hS => ?_)
        obtain ⟨e9, hp⟩ := hp
        rw [e9] at hW
        have hq := hp
        generalize r = x17 at hq ⊢
        have h18 := hq
        exact z_iret hx hb hr hK hS (Nat.le_of_ble_eq_true rfl) (Nat.le_of_ble_eq_true rfl) hlocks dX11_rule_30 (shC c, ad, I, JX, PC c ad) hW rfl
    · refine lv_if_ne (tgt := 16) hx hb dX11_rule_11 (by decide) (fun c19 => absurd (by decide) c19) (fun c19 => ?_)
      refine lv_iconst (v := (-1)) hx hb dX11_rule_14 (by decide) ?_
      exact z_iret hx hb hr hK hS (Nat.le_of_ble_eq_true rfl) (Nat.le_of_ble_eq_true rfl) hlocks dX11_rule_15 (shC c, ad, I, JX, PC c ad) hW rfl
  · refine lv_if_eq (tgt := 14) hx hb dX11_rule_4 (by decide) (fun c20 => ?_) (fun c20 => absurd (by decide) c20)
    refine lv_iconst (v := (-1)) hx hb dX11_rule_14 (by decide) ?_
    exact z_iret hx hb hr hK hS (Nat.le_of_ble_eq_true rfl) (Nat.le_of_ble_eq_true rfl) hlocks dX11_rule_15 (shC c, ad, I, JX, PC c ad) hW rfl
noncomputable def L_X11_units : z_L := [(24, 999), (25, 999)]
theorem zj_X11_units_X11 : ∀ w ∈ wsX110, w ∈ wsX11_units := fun w h => (List.mem_cons_of_mem _ (List.mem_append_left _ (List.mem_append_left _ (List.mem_append_left _ (List.mem_append_left _ (List.mem_append_right _ h))))))
set_option maxHeartbeats 8000000 in
set_option maxRecDepth 100000 in
theorem sx_X11_units (l : Launch) (G : z_G) (ad : Nat → Nat) (c : z_C) (I : z_I) (hO : z_iO I) (hH : z_iH I) (a1 : Int32) (a2 : Int32) (a3 : Int32) (hc : z_okc c) (h10 : c.1 ≤ 10) : z_M l yX11_units wsX11_units { frames := 6, cells := 0, slots := 0, locals := 160 } [.ref (ad 0), .int a1, .int a2, .int a3] G (shC c, ad, I, JX, PC c ad) (fun r u1 => ∃ I1 : z_I, u1 = (shC c, ad, I1, JX, PC c ad) ∧ z_iO I1 ∧ z_iH I1 ∧ z_fr L_X11_units I1 I) 0 0 := by
  intro sz
  refine z_headQ (cc := cX11_units) (maxL := 4) (ret := (some .int)) (by decide) rfl (Nat.le_of_ble_eq_true rfl) ?_
  intro p e s m below meth c0 ls hIn hK hsz hW hl
  obtain ⟨hx, hb, hr, hml, hown, hts, hlocks, hname⟩ := hIn
  subst hsz
  have hown : s.vm.findClass RX11 = some m.cls := hown
  have hA : ∀ q : Nat, s.heap.size ≤ q → z_A (shC c, ad, I, JX, PC c ad) s.heap.size q := fun q h => Or.inr h
  generalize hAe : z_A (shC c, ad, I, JX, PC c ad) s.heap.size = A at *
  have hS : va_S A s.heap s.heap [] := va_S.rf
  have hl : lv_has ls 4 [(0, .ref (ad 0)), (1, .int a1), (2, .int a2), (3, .int a3)] := hl
  refine lv_aload_n hx hb dX11_units_0 rfl (lv_at hl 0 rfl) ?_
  refine z_get (T := TX11) (N := 13) (ci := 11) (i := 0) (v := .ref (ad 1)) hx hb hts zj_X11_units_X11 hown hK hW rfl rfl 2 (by decide) (hts (.fieldLink RX11 16 "PetrolBoard" "holders" "LPetrolBoard$Holders;") (me_s (me_l (me_l (me_l (me_l (me_l (me_l (List.mem_of_getElem? (i := 0) rfl))))))))) (fun _ h => h) rfl dX11_units_1 ?_
  refine lv_iload_n hx hb dX11_units_4 rfl (lv_at hl 1 rfl) ?_
  refine z_ci hW hS hA (va_runV (As := [.int a1]) (rest := []) ⟨hx, hb, hml, hown, hts⟩ (sx_X2_has l G ad c I ⟨(by show 0 ≤ (I 1 5).toInt ∧ (I 1 5).toInt ≤ 30; exact hH.1), (by show 0 ≤ (I 1 11).toInt ∧ (I 1 11).toInt ≤ 200; exact hH.2)⟩ a1 _) (cwV 1 hts gX11_units_X2_has rfl rfl rfl hy_X2_has ⟨Nat.le_of_ble_eq_true rfl, Nat.le_of_ble_eq_true rfl⟩) (z_preV (i := 1) hK hW rfl rfl) rfl rfl hl.1 rfl (lv_room (Nat.le_of_ble_eq_true rfl)) dX11_units_5 ⟨Nat.le_of_ble_eq_true rfl, Nat.le_of_ble_eq_true rfl⟩) (fun r u1 H locs hp hW hS => ?_)
  obtain ⟨e9, hp⟩ := hp
  rw [e9] at hW
  rcases hp with ⟨rfl, h1, h2⟩ | rfl
  · refine lv_if_eq (tgt := 25) hx hb dX11_units_8 (by decide) (fun c3 => absurd c3 (by decide)) (fun c3 => ?_)
    refine lv_iload_n hx hb dX11_units_11 rfl (lv_at hl 2 rfl) ?_
    refine z_ci hW hS hA (va_runS (As := [.int a2]) (rest := []) ⟨hx, hb, hml, hown, hts⟩ (sx_X11_isMonth l G ad c I  a2 _) (va_cwS 1 hts gX11_units_X11_isMonth rfl rfl rfl hy_X11_isMonth.2 ⟨Nat.le_of_ble_eq_true rfl, Nat.le_of_ble_eq_true rfl⟩) (z_preS hK hW) rfl rfl hl.1 rfl (lv_room (Nat.le_of_ble_eq_true rfl)) dX11_units_12 ⟨Nat.le_of_ble_eq_true rfl, Nat.le_of_ble_eq_true rfl⟩) (fun r u1 H locs hp hW hS => ?_)
    obtain ⟨e9, hp⟩ := hp
    rw [e9] at hW
    rcases hp with ⟨rfl, h4, h5⟩ | rfl
    · refine lv_if_eq (tgt := 25) hx hb dX11_units_15 (by decide) (fun c6 => absurd c6 (by decide)) (fun c6 => ?_)
      refine lv_iload_n hx hb dX11_units_18 rfl (lv_at hl 3 rfl) ?_
      refine z_ci hW hS hA (va_runS (As := [.int a3]) (rest := []) ⟨hx, hb, hml, hown, hts⟩ (sx_X11_isDay l G ad c I  a3 _) (va_cwS 1 hts gX11_units_X11_isDay rfl rfl rfl hy_X11_isDay.2 ⟨Nat.le_of_ble_eq_true rfl, Nat.le_of_ble_eq_true rfl⟩) (z_preS hK hW) rfl rfl hl.1 rfl (lv_room (Nat.le_of_ble_eq_true rfl)) dX11_units_19 ⟨Nat.le_of_ble_eq_true rfl, Nat.le_of_ble_eq_true rfl⟩) (fun r u1 H locs hp hW hS => ?_)
      obtain ⟨e9, hp⟩ := hp
      rw [e9] at hW
      rcases hp with ⟨rfl, h7, h8⟩ | rfl
      · refine lv_if_ne (tgt := 27) hx hb dX11_units_22 (by decide) (fun c9 => ?_) (fun c9 => absurd c9 (by decide))
        refine lv_aload_n hx hb dX11_units_27 rfl (lv_at hl 0 rfl) ?_
        refine z_get (T := TX11) (N := 13) (ci := 11) (i := 0) (v := .ref (ad 21)) hx hb hts zj_X11_units_X11 hown hK hW rfl rfl 4 (by decide) (hts (.fieldLink RX11 30 "PetrolBoard" "orderBook" "LPetrolBoard$OrderBook;") (me_s (me_l (me_l (me_l (me_l (me_l (me_l (List.mem_of_getElem? (i := 1) rfl))))))))) (fun _ h => h) rfl dX11_units_28 ?_
        refine lv_aload_n hx hb dX11_units_31 rfl (lv_at hl 0 rfl) ?_
        refine z_get (T := TX11) (N := 13) (ci := 11) (i := 0) (v := .ref (ad 1)) hx hb hts zj_X11_units_X11 hown hK hW rfl rfl 2 (by decide) (hts (.fieldLink RX11 16 "PetrolBoard" "holders" "LPetrolBoard$Holders;") (me_s (me_l (me_l (me_l (me_l (me_l (me_l (List.mem_of_getElem? (i := 0) rfl))))))))) (fun _ h => h) rfl dX11_units_32 ?_
        refine lv_iload_n hx hb dX11_units_35 rfl (lv_at hl 1 rfl) ?_
        refine lv_iload_n hx hb dX11_units_36 rfl (lv_at hl 2 rfl) ?_
        refine lv_iload_n hx hb dX11_units_37 rfl (lv_at hl 3 rfl) ?_
        refine z_ci hW hS hA (va_runV (As := [.ref (ad 1), .int a1, .int a2, .int a3]) (rest := []) ⟨hx, hb, hml, hown, hts⟩ (sx_X6_unitsOf l G ad c I (by show 0 ≤ (I 21 2).toInt ∧ (I 21 2).toInt ≤ 12; exact hO) ⟨(by show 0 ≤ (I 1 5).toInt ∧ (I 1 5).toInt ≤ 30; exact hH.1), (by show 0 ≤ (I 1 11).toInt ∧ (I 1 11).toInt ≤ 200; exact hH.2)⟩ a1 a2 a3 hc _) (cwV 4 hts gX11_units_X6_unitsOf rfl rfl rfl hy_X6_unitsOf ⟨Nat.le_of_ble_eq_true rfl, Nat.le_of_ble_eq_true rfl⟩) (z_preV (i := 21) hK hW rfl rfl) rfl rfl hl.1 rfl (lv_room (Nat.le_of_ble_eq_true rfl)) dX11_units_38 ⟨Nat.le_of_ble_eq_true rfl, Nat.le_of_ble_eq_true rfl⟩) (fun r u1 H locs hp hW hS => ?_)
        obtain ⟨I10, e9, hI10O, hI10H, fI10⟩ := hp
        rw [e9] at hW
        have f11 := z_fr_sub (L := L_X11_units) z_fr_0 fI10 (by decide)
        refine lv_topi (fun x12 ex12 => ?_)
        exact z_iret hx hb hr hK hS (Nat.le_of_ble_eq_true rfl) (Nat.le_of_ble_eq_true rfl) hlocks dX11_units_41 (shC c, ad, I10, JX, PC c ad) hW ⟨I10, rfl, (by show 0 ≤ (I10 21 2).toInt ∧ (I10 21 2).toInt ≤ 12; exact hI10O), ⟨(by show 0 ≤ (I10 1 5).toInt ∧ (I10 1 5).toInt ≤ 30; exact hI10H.1), (by show 0 ≤ (I10 1 11).toInt ∧ (I10 1 11).toInt ≤ 200; exact hI10H.2)⟩, f11⟩
      · refine lv_if_ne (tgt := 27) hx hb dX11_units_22 (by decide) (fun c13 => absurd (by decide) c13) (fun c13 => ?_)
        refine lv_iconst (v := (-1)) hx hb dX11_units_25 (by decide) ?_
        exact z_iret hx hb hr hK hS (Nat.le_of_ble_eq_true rfl) (Nat.le_of_ble_eq_true rfl) hlocks dX11_units_26 (shC c, ad, I, JX, PC c ad) hW ⟨I, rfl, (by show 0 ≤ (I 21 2).toInt ∧ (I 21 2).toInt ≤ 12; exact hO), ⟨(by show 0 ≤ (I 1 5).toInt ∧ (I 1 5).toInt ≤ 30; exact hH.1), (by show 0 ≤ (I 1 11).toInt ∧ (I 1 11).toInt ≤ 200; exact hH.2)⟩, z_fr_0⟩
    · refine lv_if_eq (tgt := 25) hx hb dX11_units_15 (by decide) (fun c14 => ?_) (fun c14 => absurd (by decide) c14)
      refine lv_iconst (v := (-1)) hx hb dX11_units_25 (by decide) ?_
      exact z_iret hx hb hr hK hS (Nat.le_of_ble_eq_true rfl) (Nat.le_of_ble_eq_true rfl) hlocks dX11_units_26 (shC c, ad, I, JX, PC c ad) hW ⟨I, rfl, (by show 0 ≤ (I 21 2).toInt ∧ (I 21 2).toInt ≤ 12; exact hO), ⟨(by show 0 ≤ (I 1 5).toInt ∧ (I 1 5).toInt ≤ 30; exact hH.1), (by show 0 ≤ (I 1 11).toInt ∧ (I 1 11).toInt ≤ 200; exact hH.2)⟩, z_fr_0⟩
  · refine lv_if_eq (tgt := 25) hx hb dX11_units_8 (by decide) (fun c15 => ?_) (fun c15 => absurd (by decide) c15)
    refine lv_iconst (v := (-1)) hx hb dX11_units_25 (by decide) ?_
    exact z_iret hx hb hr hK hS (Nat.le_of_ble_eq_true rfl) (Nat.le_of_ble_eq_true rfl) hlocks dX11_units_26 (shC c, ad, I, JX, PC c ad) hW ⟨I, rfl, (by show 0 ≤ (I 21 2).toInt ∧ (I 21 2).toInt ≤ 12; exact hO), ⟨(by show 0 ≤ (I 1 5).toInt ∧ (I 1 5).toInt ≤ 30; exact hH.1), (by show 0 ≤ (I 1 11).toInt ∧ (I 1 11).toInt ≤ 200; exact hH.2)⟩, z_fr_0⟩
noncomputable def L_X11_issue : z_L := [(24, 999), (25, 999), (27, 999), (26, 3)]
theorem zj_X11_issue_X11 : ∀ w ∈ wsX110, w ∈ wsX11_issue := fun w h => (List.mem_cons_of_mem _ (List.mem_append_left _ (List.mem_append_left _ (List.mem_append_left _ (List.mem_append_left _ (List.mem_append_left _ (List.mem_append_right _ h)))))))
set_option maxHeartbeats 8000000 in
set_option maxRecDepth 100000 in
theorem sx_X11_issue (l : Launch) (G : z_G) (ad : Nat → Nat) (c : z_C) (I : z_I) (hO : z_iO I) (hH : z_iH I) (hB : z_iB I) (a1 : Int32) (a2 : Int32) (hc : z_okc c) (h10 : c.1 ≤ 10) : z_M l yX11_issue wsX11_issue { frames := 6, cells := 0, slots := 0, locals := 160 } [.ref (ad 0), .int a1, .int a2] G (shC c, ad, I, JX, PC c ad) (fun r u1 => ∃ I1 : z_I, u1 = (shC c, ad, I1, JX, PC c ad) ∧ z_iO I1 ∧ z_iH I1 ∧ z_iB I1 ∧ z_fr L_X11_issue I1 I) 0 0 := by
  intro sz
  refine z_headQ (cc := cX11_issue) (maxL := 4) (ret := (some .int)) (by decide) rfl (Nat.le_of_ble_eq_true rfl) ?_
  intro p e s m below meth c0 ls hIn hK hsz hW hl
  obtain ⟨hx, hb, hr, hml, hown, hts, hlocks, hname⟩ := hIn
  subst hsz
  have hown : s.vm.findClass RX11 = some m.cls := hown
  have hA : ∀ q : Nat, s.heap.size ≤ q → z_A (shC c, ad, I, JX, PC c ad) s.heap.size q := fun q h => Or.inr h
  generalize hAe : z_A (shC c, ad, I, JX, PC c ad) s.heap.size = A at *
  have hS : va_S A s.heap s.heap [] := va_S.rf
  have hl : lv_has ls 4 [(0, .ref (ad 0)), (1, .int a1), (2, .int a2)] := hl
  refine lv_aload_n hx hb dX11_issue_0 rfl (lv_at hl 0 rfl) ?_
  have r1 : 0 ≤ (I 0 0).toInt ∧ (I 0 0).toInt ≤ 719 := hB.1
  refine z_get (T := TX11) (N := 13) (ci := 11) (i := 0) (v := .int (I 0 0)) hx hb hts zj_X11_issue_X11 hown hK hW rfl rfl 0 (by decide) (hts (.fieldLink RX11 85 "PetrolBoard" "today" "I") (me_s (me_l (me_l (me_l (me_l (me_l (me_l (me_l (List.mem_of_getElem? (i := 0) rfl)))))))))) (fun _ h => h) rfl dX11_issue_1 ?_
  refine lv_bipush (v := 30) hx hb dX11_issue_4 (by decide) ?_
  refine lv_idiv hx hb dX11_issue_6 (by decide) ?_
  refine lv_topi (fun x2 ex2 => ?_)
  have tx2 := z_tdiv ex2 rfl z_l30 (by decide)
  refine lv_istore_n (lv' := [(3, .int x2), (0, .ref (ad 0)), (1, .int a1), (2, .int a2)]) hx hb dX11_issue_7 rfl hl (by decide) rfl (fun ls hl => ?_)
  refine lv_aload_n hx hb dX11_issue_8 rfl (lv_at hl 1 rfl) ?_
  refine z_get (T := TX11) (N := 13) (ci := 11) (i := 0) (v := .ref (ad 1)) hx hb hts zj_X11_issue_X11 hown hK hW rfl rfl 2 (by decide) (hts (.fieldLink RX11 16 "PetrolBoard" "holders" "LPetrolBoard$Holders;") (me_s (me_l (me_l (me_l (me_l (me_l (me_l (me_l (List.mem_of_getElem? (i := 1) rfl)))))))))) (fun _ h => h) rfl dX11_issue_9 ?_
  refine lv_iload_n hx hb dX11_issue_12 rfl (lv_at hl 2 rfl) ?_
  refine z_ci hW hS hA (va_runV (As := [.int a1]) (rest := []) ⟨hx, hb, hml, hown, hts⟩ (sx_X2_has l G ad c I ⟨(by show 0 ≤ (I 1 5).toInt ∧ (I 1 5).toInt ≤ 30; exact hH.1), (by show 0 ≤ (I 1 11).toInt ∧ (I 1 11).toInt ≤ 200; exact hH.2)⟩ a1 _) (cwV 1 hts gX11_issue_X2_has rfl rfl rfl hy_X2_has ⟨Nat.le_of_ble_eq_true rfl, Nat.le_of_ble_eq_true rfl⟩) (z_preV (i := 1) hK hW rfl rfl) rfl rfl hl.1 rfl (lv_room (Nat.le_of_ble_eq_true rfl)) dX11_issue_13 ⟨Nat.le_of_ble_eq_true rfl, Nat.le_of_ble_eq_true rfl⟩) (fun r u1 H locs hp hW hS => ?_)
  obtain ⟨e9, hp⟩ := hp
  rw [e9] at hW
  rcases hp with ⟨rfl, h3, h4⟩ | rfl
  · refine lv_if_eq (tgt := 38) hx hb dX11_issue_16 (by decide) (fun c5 => absurd c5 (by decide)) (fun c5 => ?_)
    refine lv_iload_n hx hb dX11_issue_19 rfl (lv_at hl 3 rfl) ?_
    refine z_ci hW hS hA (va_runS (As := [.int a2]) (rest := []) ⟨hx, hb, hml, hown, hts⟩ (sx_X11_isMonth l G ad c I  a2 _) (va_cwS 1 hts gX11_issue_X11_isMonth rfl rfl rfl hy_X11_isMonth.2 ⟨Nat.le_of_ble_eq_true rfl, Nat.le_of_ble_eq_true rfl⟩) (z_preS hK hW) rfl rfl hl.1 rfl (lv_room (Nat.le_of_ble_eq_true rfl)) dX11_issue_20 ⟨Nat.le_of_ble_eq_true rfl, Nat.le_of_ble_eq_true rfl⟩) (fun r u1 H locs hp hW hS => ?_)
    obtain ⟨e9, hp⟩ := hp
    rw [e9] at hW
    rcases hp with ⟨rfl, h6, h7⟩ | rfl
    · refine lv_if_eq (tgt := 38) hx hb dX11_issue_23 (by decide) (fun c8 => absurd c8 (by decide)) (fun c8 => ?_)
      refine lv_iload_n hx hb dX11_issue_26 rfl (lv_at hl 3 rfl) ?_
      refine lv_iload_n hx hb dX11_issue_27 rfl (lv_at hl 0 rfl) ?_
      refine lv_icmp_lt (tgt := 38) hx hb dX11_issue_28 (by decide) (fun c9 => ?_) (fun c9 => ?_)
      · have g10 := z_f_lt rfl rfl c9
        refine lv_iconst (v := (-1)) hx hb dX11_issue_38 (by decide) ?_
        exact z_iret hx hb hr hK hS (Nat.le_of_ble_eq_true rfl) (Nat.le_of_ble_eq_true rfl) hlocks dX11_issue_39 (shC c, ad, I, JX, PC c ad) hW ⟨I, rfl, (by show 0 ≤ (I 21 2).toInt ∧ (I 21 2).toInt ≤ 12; exact hO), ⟨(by show 0 ≤ (I 1 5).toInt ∧ (I 1 5).toInt ≤ 30; exact hH.1), (by show 0 ≤ (I 1 11).toInt ∧ (I 1 11).toInt ≤ 200; exact hH.2)⟩, ⟨(by show 0 ≤ (I 0 0).toInt ∧ (I 0 0).toInt ≤ 719; exact hB.1), (by show 0 ≤ (I 0 8).toInt ∧ (I 0 8).toInt ≤ 10; exact hB.2)⟩, z_fr_0⟩
      · have g11 := z_f_nlt rfl rfl c9
        refine lv_iload_n hx hb dX11_issue_31 rfl (lv_at hl 3 rfl) ?_
        refine lv_iload_n hx hb dX11_issue_32 rfl (lv_at hl 0 rfl) ?_
        refine lv_iconst (v := 1) hx hb dX11_issue_33 (by decide) ?_
        refine lv_iadd hx hb dX11_issue_34 ?_
        refine lv_topi (fun x12 ex12 => ?_)
        have tx12 : x12.toInt = x2.toInt + 1 := z_tadd ex12 rfl z_l1 (by omega) (by omega)
        refine lv_icmp_le (tgt := 40) hx hb dX11_issue_35 (by decide) (fun c13 => ?_) (fun c13 => ?_)
        · have g14 := z_f_le rfl rfl c13
          refine lv_aload_n hx hb dX11_issue_40 rfl (lv_at hl 1 rfl) ?_
          refine z_get (T := TX11) (N := 13) (ci := 11) (i := 0) (v := .ref (ad 26)) hx hb hts zj_X11_issue_X11 hown hK hW rfl rfl 5 (by decide) (hts (.fieldLink RX11 37 "PetrolBoard" "coupons" "LPetrolBoard$Coupons;") (me_s (me_l (me_l (me_l (me_l (me_l (me_l (me_l (List.mem_of_getElem? (i := 2) rfl)))))))))) (fun _ h => h) rfl dX11_issue_41 ?_
          refine lv_iload_n hx hb dX11_issue_44 rfl (lv_at hl 2 rfl) ?_
          refine lv_iload_n hx hb dX11_issue_45 rfl (lv_at hl 3 rfl) ?_
          refine z_ci hW hS hA (va_runV (As := [.int a1, .int a2]) (rest := []) ⟨hx, hb, hml, hown, hts⟩ (sx_X0_isIssued l G ad c I  a1 a2 _) (cwV 2 hts gX11_issue_X0_isIssued rfl rfl rfl hy_X0_isIssued ⟨Nat.le_of_ble_eq_true rfl, Nat.le_of_ble_eq_true rfl⟩) (z_preV (i := 26) hK hW rfl rfl) rfl rfl hl.1 rfl (lv_room (Nat.le_of_ble_eq_true rfl)) dX11_issue_46 ⟨Nat.le_of_ble_eq_true rfl, Nat.le_of_ble_eq_true rfl⟩) (fun r u1 H locs hp hW hS => ?_)
          obtain ⟨e9, hp⟩ := hp
          rw [e9] at hW
          rcases hp with rfl | rfl
          · refine lv_if_eq (tgt := 54) hx hb dX11_issue_49 (by decide) (fun c15 => absurd c15 (by decide)) (fun c15 => ?_)
            refine lv_iconst (v := (-1)) hx hb dX11_issue_52 (by decide) ?_
            exact z_iret hx hb hr hK hS (Nat.le_of_ble_eq_true rfl) (Nat.le_of_ble_eq_true rfl) hlocks dX11_issue_53 (shC c, ad, I, JX, PC c ad) hW ⟨I, rfl, (by show 0 ≤ (I 21 2).toInt ∧ (I 21 2).toInt ≤ 12; exact hO), ⟨(by show 0 ≤ (I 1 5).toInt ∧ (I 1 5).toInt ≤ 30; exact hH.1), (by show 0 ≤ (I 1 11).toInt ∧ (I 1 11).toInt ≤ 200; exact hH.2)⟩, ⟨(by show 0 ≤ (I 0 0).toInt ∧ (I 0 0).toInt ≤ 719; exact hB.1), (by show 0 ≤ (I 0 8).toInt ∧ (I 0 8).toInt ≤ 10; exact hB.2)⟩, z_fr_0⟩
          · refine lv_if_eq (tgt := 54) hx hb dX11_issue_49 (by decide) (fun c16 => ?_) (fun c16 => absurd (by decide) c16)
            refine lv_aload_n hx hb dX11_issue_54 rfl (lv_at hl 1 rfl) ?_
            refine z_get (T := TX11) (N := 13) (ci := 11) (i := 0) (v := .ref (ad 26)) hx hb hts zj_X11_issue_X11 hown hK hW rfl rfl 5 (by decide) (hts (.fieldLink RX11 37 "PetrolBoard" "coupons" "LPetrolBoard$Coupons;") (me_s (me_l (me_l (me_l (me_l (me_l (me_l (me_l (List.mem_of_getElem? (i := 2) rfl)))))))))) (fun _ h => h) rfl dX11_issue_55 ?_
            refine lv_iload_n hx hb dX11_issue_58 rfl (lv_at hl 2 rfl) ?_
            refine lv_iload_n hx hb dX11_issue_59 rfl (lv_at hl 3 rfl) ?_
            refine lv_aload_n hx hb dX11_issue_60 rfl (lv_at hl 1 rfl) ?_
            refine z_get (T := TX11) (N := 13) (ci := 11) (i := 0) (v := .ref (ad 21)) hx hb hts zj_X11_issue_X11 hown hK hW rfl rfl 4 (by decide) (hts (.fieldLink RX11 30 "PetrolBoard" "orderBook" "LPetrolBoard$OrderBook;") (me_s (me_l (me_l (me_l (me_l (me_l (me_l (me_l (List.mem_of_getElem? (i := 3) rfl)))))))))) (fun _ h => h) rfl dX11_issue_61 ?_
            refine lv_aload_n hx hb dX11_issue_64 rfl (lv_at hl 1 rfl) ?_
            refine z_get (T := TX11) (N := 13) (ci := 11) (i := 0) (v := .ref (ad 1)) hx hb hts zj_X11_issue_X11 hown hK hW rfl rfl 2 (by decide) (hts (.fieldLink RX11 16 "PetrolBoard" "holders" "LPetrolBoard$Holders;") (me_s (me_l (me_l (me_l (me_l (me_l (me_l (me_l (List.mem_of_getElem? (i := 1) rfl)))))))))) (fun _ h => h) rfl dX11_issue_65 ?_
            refine lv_iload_n hx hb dX11_issue_68 rfl (lv_at hl 2 rfl) ?_
            refine lv_iload_n hx hb dX11_issue_69 rfl (lv_at hl 3 rfl) ?_
            refine lv_aload_n hx hb dX11_issue_70 rfl (lv_at hl 1 rfl) ?_
            refine z_get (T := TX11) (N := 13) (ci := 11) (i := 0) (v := .int (I 0 0)) hx hb hts zj_X11_issue_X11 hown hK hW rfl rfl 0 (by decide) (hts (.fieldLink RX11 85 "PetrolBoard" "today" "I") (me_s (me_l (me_l (me_l (me_l (me_l (me_l (me_l (List.mem_of_getElem? (i := 0) rfl)))))))))) (fun _ h => h) rfl dX11_issue_71 ?_
            refine z_ci hW hS hA (va_runV (As := [.ref (ad 1), .int a1, .int a2, .int (I 0 0)]) (rest := [.int a2, .int a1, .ref (ad 26)]) ⟨hx, hb, hml, hown, hts⟩ (sx_X6_unitsOf l G ad c I (by show 0 ≤ (I 21 2).toInt ∧ (I 21 2).toInt ≤ 12; exact hO) ⟨(by show 0 ≤ (I 1 5).toInt ∧ (I 1 5).toInt ≤ 30; exact hH.1), (by show 0 ≤ (I 1 11).toInt ∧ (I 1 11).toInt ≤ 200; exact hH.2)⟩ a1 a2 (I 0 0) hc _) (cwV 4 hts gX11_issue_X6_unitsOf rfl rfl rfl hy_X6_unitsOf ⟨Nat.le_of_ble_eq_true rfl, Nat.le_of_ble_eq_true rfl⟩) (z_preV (i := 21) hK hW rfl rfl) rfl rfl hl.1 rfl (lv_room (Nat.le_of_ble_eq_true rfl)) dX11_issue_74 ⟨Nat.le_of_ble_eq_true rfl, Nat.le_of_ble_eq_true rfl⟩) (fun r u1 H locs hp hW hS => ?_)
            obtain ⟨I17, e9, hI17O, hI17H, fI17⟩ := hp
            rw [e9] at hW
            have f18 := z_fr_sub (L := L_X11_issue) z_fr_0 fI17 (by decide)
            have k19 : 0 ≤ (I17 0 0).toInt ∧ (I17 0 0).toInt ≤ 719 := by rw [fI17 0 0 (by decide)]; exact (by show 0 ≤ (I 0 0).toInt ∧ (I 0 0).toInt ≤ 719; exact hB.1)
            have k20 : 0 ≤ (I17 0 8).toInt ∧ (I17 0 8).toInt ≤ 10 := by rw [fI17 0 8 (by decide)]; exact (by show 0 ≤ (I 0 8).toInt ∧ (I 0 8).toInt ≤ 10; exact hB.2)
            refine lv_topi (fun x21 ex21 => ?_)
            refine z_ci hW hS hA (va_runV (As := [.int a1, .int a2, .int x21]) (rest := []) ⟨hx, hb, hml, hown, hts⟩ (sx_X0_add l G ad c I17  a1 a2 x21 _) (cwV 3 hts gX11_issue_X0_add rfl rfl rfl hy_X0_add ⟨Nat.le_of_ble_eq_true rfl, Nat.le_of_ble_eq_true rfl⟩) (z_preV (i := 26) hK hW rfl rfl) rfl rfl hl.1 rfl (lv_room (Nat.le_of_ble_eq_true rfl)) dX11_issue_77 ⟨Nat.le_of_ble_eq_true rfl, Nat.le_of_ble_eq_true rfl⟩) (fun r u1 H locs hp hW hS => ?_)
            obtain ⟨I22, e9, fI22⟩ := hp
            rw [e9] at hW
            have f23 := z_fr_sub (L := L_X11_issue) f18 fI22 (by decide)
            have k24 : 0 ≤ (I22 21 2).toInt ∧ (I22 21 2).toInt ≤ 12 := by rw [fI22 21 2 (by decide)]; exact (by show 0 ≤ (I17 21 2).toInt ∧ (I17 21 2).toInt ≤ 12; exact hI17O)
            have k25 : 0 ≤ (I22 1 5).toInt ∧ (I22 1 5).toInt ≤ 30 := by rw [fI22 1 5 (by decide)]; exact (by show 0 ≤ (I17 1 5).toInt ∧ (I17 1 5).toInt ≤ 30; exact hI17H.1)
            have k26 : 0 ≤ (I22 1 11).toInt ∧ (I22 1 11).toInt ≤ 200 := by rw [fI22 1 11 (by decide)]; exact (by show 0 ≤ (I17 1 11).toInt ∧ (I17 1 11).toInt ≤ 200; exact hI17H.2)
            have k27 : 0 ≤ (I22 0 0).toInt ∧ (I22 0 0).toInt ≤ 719 := by rw [fI22 0 0 (by decide)]; exact (by show 0 ≤ (I17 0 0).toInt ∧ (I17 0 0).toInt ≤ 719; exact k19)
            have k28 : 0 ≤ (I22 0 8).toInt ∧ (I22 0 8).toInt ≤ 10 := by rw [fI22 0 8 (by decide)]; exact (by show 0 ≤ (I17 0 8).toInt ∧ (I17 0 8).toInt ≤ 10; exact k20)
            refine lv_topi (fun x29 ex29 => ?_)
            exact z_iret hx hb hr hK hS (Nat.le_of_ble_eq_true rfl) (Nat.le_of_ble_eq_true rfl) hlocks dX11_issue_80 (shC c, ad, I22, JX, PC c ad) hW ⟨I22, rfl, (by show 0 ≤ (I22 21 2).toInt ∧ (I22 21 2).toInt ≤ 12; exact k24), ⟨(by show 0 ≤ (I22 1 5).toInt ∧ (I22 1 5).toInt ≤ 30; exact k25), (by show 0 ≤ (I22 1 11).toInt ∧ (I22 1 11).toInt ≤ 200; exact k26)⟩, ⟨(by show 0 ≤ (I22 0 0).toInt ∧ (I22 0 0).toInt ≤ 719; exact k27), (by show 0 ≤ (I22 0 8).toInt ∧ (I22 0 8).toInt ≤ 10; exact k28)⟩, f23⟩
        · have g30 := z_f_nle rfl rfl c13
          refine lv_iconst (v := (-1)) hx hb dX11_issue_38 (by decide) ?_
          exact z_iret hx hb hr hK hS (Nat.le_of_ble_eq_true rfl) (Nat.le_of_ble_eq_true rfl) hlocks dX11_issue_39 (shC c, ad, I, JX, PC c ad) hW ⟨I, rfl, (by show 0 ≤ (I 21 2).toInt ∧ (I 21 2).toInt ≤ 12; exact hO), ⟨(by show 0 ≤ (I 1 5).toInt ∧ (I 1 5).toInt ≤ 30; exact hH.1), (by show 0 ≤ (I 1 11).toInt ∧ (I 1 11).toInt ≤ 200; exact hH.2)⟩, ⟨(by show 0 ≤ (I 0 0).toInt ∧ (I 0 0).toInt ≤ 719; exact hB.1), (by show 0 ≤ (I 0 8).toInt ∧ (I 0 8).toInt ≤ 10; exact hB.2)⟩, z_fr_0⟩
    · refine lv_if_eq (tgt := 38) hx hb dX11_issue_23 (by decide) (fun c31 => ?_) (fun c31 => absurd (by decide) c31)
      refine lv_iconst (v := (-1)) hx hb dX11_issue_38 (by decide) ?_
      exact z_iret hx hb hr hK hS (Nat.le_of_ble_eq_true rfl) (Nat.le_of_ble_eq_true rfl) hlocks dX11_issue_39 (shC c, ad, I, JX, PC c ad) hW ⟨I, rfl, (by show 0 ≤ (I 21 2).toInt ∧ (I 21 2).toInt ≤ 12; exact hO), ⟨(by show 0 ≤ (I 1 5).toInt ∧ (I 1 5).toInt ≤ 30; exact hH.1), (by show 0 ≤ (I 1 11).toInt ∧ (I 1 11).toInt ≤ 200; exact hH.2)⟩, ⟨(by show 0 ≤ (I 0 0).toInt ∧ (I 0 0).toInt ≤ 719; exact hB.1), (by show 0 ≤ (I 0 8).toInt ∧ (I 0 8).toInt ≤ 10; exact hB.2)⟩, z_fr_0⟩
  · refine lv_if_eq (tgt := 38) hx hb dX11_issue_16 (by decide) (fun c32 => ?_) (fun c32 => absurd (by decide) c32)
    refine lv_iconst (v := (-1)) hx hb dX11_issue_38 (by decide) ?_
    exact z_iret hx hb hr hK hS (Nat.le_of_ble_eq_true rfl) (Nat.le_of_ble_eq_true rfl) hlocks dX11_issue_39 (shC c, ad, I, JX, PC c ad) hW ⟨I, rfl, (by show 0 ≤ (I 21 2).toInt ∧ (I 21 2).toInt ≤ 12; exact hO), ⟨(by show 0 ≤ (I 1 5).toInt ∧ (I 1 5).toInt ≤ 30; exact hH.1), (by show 0 ≤ (I 1 11).toInt ∧ (I 1 11).toInt ≤ 200; exact hH.2)⟩, ⟨(by show 0 ≤ (I 0 0).toInt ∧ (I 0 0).toInt ≤ 719; exact hB.1), (by show 0 ≤ (I 0 8).toInt ∧ (I 0 8).toInt ≤ 10; exact hB.2)⟩, z_fr_0⟩
noncomputable def L_X11_lend : z_L := [(28, 999), (29, 999), (26, 4)]
theorem zj_X11_lend_X11 : ∀ w ∈ wsX110, w ∈ wsX11_lend := fun w h => (List.mem_cons_of_mem _ (List.mem_append_left _ (List.mem_append_left _ (List.mem_append_left _ (List.mem_append_left _ (List.mem_append_left _ (List.mem_append_right _ h)))))))
set_option maxHeartbeats 8000000 in
set_option maxRecDepth 100000 in
theorem sx_X11_lend (l : Launch) (G : z_G) (ad : Nat → Nat) (c : z_C) (I : z_I) (hO : z_iO I) (hH : z_iH I) (hB : z_iB I) (hC : z_iC I) (hP : z_iP I) (a1 : Int32) (a2 : Int32) (hc : z_okc c) (h10 : c.1 ≤ 10) : z_MS l yX11_lend wsX11_lend { frames := 4, cells := 0, slots := 0, locals := 86 } [.ref (ad 0), .int a1, .int a2] G (shC c, ad, I, JX, PC c ad) (fun r u1 => ∃ I1 : z_I, u1 = (shC c, ad, I1, JX, PC c ad) ∧ z_iO I1 ∧ z_iH I1 ∧ z_iB I1 ∧ z_iC I1 ∧ z_iP I1 ∧ z_fr L_X11_lend I1 I ∧ (r = 1 ∨ r = 0)) 0 0 := by
  intro sz
  refine z_headS (cc := cX11_lend) (maxL := 4) (ret := (some .boolean)) (by decide) rfl (Nat.le_of_ble_eq_true rfl) ?_
  intro p e s m below meth c0 ls hIn hK hsz hW hl hSt
  obtain ⟨hx, hb, hr, hml, hown, hts, hlocks, hname⟩ := hIn
  subst hsz
  have hown : s.vm.findClass RX11 = some m.cls := hown
  have hA : ∀ q : Nat, s.heap.size ≤ q → z_A (shC c, ad, I, JX, PC c ad) s.heap.size q := fun q h => Or.inr h
  generalize hAe : z_A (shC c, ad, I, JX, PC c ad) s.heap.size = A at *
  have hS : va_S A s.heap s.heap [] := va_S.rf
  have hl : lv_has ls 4 [(0, .ref (ad 0)), (1, .int a1), (2, .int a2)] := hl
  refine lv_aload_n hx hb dX11_lend_0 rfl (lv_at hl 0 rfl) ?_
  refine z_get (T := TX11) (N := 13) (ci := 11) (i := 0) (v := .ref (ad 26)) hx hb hts zj_X11_lend_X11 hown hK hW rfl rfl 5 (by decide) (hts (.fieldLink RX11 37 "PetrolBoard" "coupons" "LPetrolBoard$Coupons;") (me_s (me_l (me_l (me_l (me_l (me_l (me_l (me_l (List.mem_of_getElem? (i := 0) rfl)))))))))) (fun _ h => h) rfl dX11_lend_1 ?_
  refine lv_iload_n hx hb dX11_lend_4 rfl (lv_at hl 1 rfl) ?_
  refine z_ci hW hS hA (va_runV (As := [.int a1]) (rest := []) ⟨hx, hb, hml, hown, hts⟩ (sx_X0_has l G ad c I  a1 _) (cwV 1 hts gX11_lend_X0_has rfl rfl rfl hy_X0_has ⟨Nat.le_of_ble_eq_true rfl, Nat.le_of_ble_eq_true rfl⟩) (z_preV (i := 26) hK hW rfl rfl) rfl rfl hl.1 rfl (lv_room (Nat.le_of_ble_eq_true rfl)) dX11_lend_5 ⟨Nat.le_of_ble_eq_true rfl, Nat.le_of_ble_eq_true rfl⟩) (fun r u1 H locs hp hW hS => ?_)
  obtain ⟨e9, hp⟩ := hp
  rw [e9] at hW
  rcases hp with rfl | rfl
  · refine lv_if_eq (tgt := 30) hx hb dX11_lend_8 (by decide) (fun c1 => absurd c1 (by decide)) (fun c1 => ?_)
    refine lv_aload_n hx hb dX11_lend_11 rfl (lv_at hl 0 rfl) ?_
    refine z_get (T := TX11) (N := 13) (ci := 11) (i := 0) (v := .ref (ad 1)) hx hb hts zj_X11_lend_X11 hown hK hW rfl rfl 2 (by decide) (hts (.fieldLink RX11 16 "PetrolBoard" "holders" "LPetrolBoard$Holders;") (me_s (me_l (me_l (me_l (me_l (me_l (me_l (me_l (List.mem_of_getElem? (i := 1) rfl)))))))))) (fun _ h => h) rfl dX11_lend_12 ?_
    refine lv_iload_n hx hb dX11_lend_15 rfl (lv_at hl 2 rfl) ?_
    refine z_ci hW hS hA (va_runV (As := [.int a2]) (rest := []) ⟨hx, hb, hml, hown, hts⟩ (sx_X2_has l G ad c I ⟨(by show 0 ≤ (I 1 5).toInt ∧ (I 1 5).toInt ≤ 30; exact hH.1), (by show 0 ≤ (I 1 11).toInt ∧ (I 1 11).toInt ≤ 200; exact hH.2)⟩ a2 _) (cwV 1 hts gX11_lend_X2_has rfl rfl rfl hy_X2_has ⟨Nat.le_of_ble_eq_true rfl, Nat.le_of_ble_eq_true rfl⟩) (z_preV (i := 1) hK hW rfl rfl) rfl rfl hl.1 rfl (lv_room (Nat.le_of_ble_eq_true rfl)) dX11_lend_16 ⟨Nat.le_of_ble_eq_true rfl, Nat.le_of_ble_eq_true rfl⟩) (fun r u1 H locs hp hW hS => ?_)
    obtain ⟨e9, hp⟩ := hp
    rw [e9] at hW
    rcases hp with ⟨rfl, h2, h3⟩ | rfl
    · refine lv_if_eq (tgt := 30) hx hb dX11_lend_19 (by decide) (fun c4 => absurd c4 (by decide)) (fun c4 => ?_)
      refine lv_iload_n hx hb dX11_lend_22 rfl (lv_at hl 1 rfl) ?_
      refine z_ci hW hS hA (va_runS (As := [.int a1]) (rest := []) ⟨hx, hb, hml, hown, hts⟩ (sx_X0_holderOf l G ad c I  a1 _) (va_cwS 1 hts gX11_lend_X0_holderOf rfl rfl rfl hy_X0_holderOf.2 ⟨Nat.le_of_ble_eq_true rfl, Nat.le_of_ble_eq_true rfl⟩) (z_preS hK hW) rfl rfl hl.1 rfl (lv_room (Nat.le_of_ble_eq_true rfl)) dX11_lend_23 ⟨Nat.le_of_ble_eq_true rfl, Nat.le_of_ble_eq_true rfl⟩) (fun r u1 H locs hp hW hS => ?_)
      rw [hp] at hW
      refine lv_topi (fun x5 ex5 => ?_)
      refine lv_iload_n hx hb dX11_lend_26 rfl (lv_at hl 2 rfl) ?_
      refine lv_icmp_ne (tgt := 32) hx hb dX11_lend_27 (by decide) (fun c6 => ?_) (fun c6 => ?_)
      · have g7 := z_f_ne rfl rfl c6
        have b8 := Int32.toInt_lt x5
        refine lv_aload_n hx hb dX11_lend_32 rfl (lv_at hl 0 rfl) ?_
        refine z_get (T := TX11) (N := 13) (ci := 11) (i := 0) (v := .ref (ad 26)) hx hb hts zj_X11_lend_X11 hown hK hW rfl rfl 5 (by decide) (hts (.fieldLink RX11 37 "PetrolBoard" "coupons" "LPetrolBoard$Coupons;") (me_s (me_l (me_l (me_l (me_l (me_l (me_l (me_l (List.mem_of_getElem? (i := 0) rfl)))))))))) (fun _ h => h) rfl dX11_lend_33 ?_
        refine lv_iload_n hx hb dX11_lend_36 rfl (lv_at hl 1 rfl) ?_
        refine z_ci hW hS hA (va_runV (As := [.int a1]) (rest := []) ⟨hx, hb, hml, hown, hts⟩ (sx_X0_isLent l G ad c I (by show 0 ≤ (I 26 4).toInt ∧ (I 26 4).toInt ≤ 512; exact hC) a1 _) (cwV 1 hts gX11_lend_X0_isLent rfl rfl rfl hy_X0_isLent ⟨Nat.le_of_ble_eq_true rfl, Nat.le_of_ble_eq_true rfl⟩) (z_preV (i := 26) hK hW rfl rfl) rfl rfl hl.1 rfl (lv_room (Nat.le_of_ble_eq_true rfl)) dX11_lend_37 ⟨Nat.le_of_ble_eq_true rfl, Nat.le_of_ble_eq_true rfl⟩) (fun r u1 H locs hp hW hS => ?_)
        obtain ⟨e9, hp⟩ := hp
        rw [e9] at hW
        rcases hp with rfl | rfl
        · refine lv_if_ne (tgt := 54) hx hb dX11_lend_40 (by decide) (fun c9 => ?_) (fun c9 => absurd c9 (by decide))
          refine lv_iconst (v := 0) hx hb dX11_lend_54 (by decide) ?_
          exact z_zret hx hb hr (by decide) hK hS (Nat.le_of_ble_eq_true rfl) (Nat.le_of_ble_eq_true rfl) hlocks dX11_lend_55 (shC c, ad, I, JX, PC c ad) hW ⟨I, rfl, (by show 0 ≤ (I 21 2).toInt ∧ (I 21 2).toInt ≤ 12; exact hO), ⟨(by show 0 ≤ (I 1 5).toInt ∧ (I 1 5).toInt ≤ 30; exact hH.1), (by show 0 ≤ (I 1 11).toInt ∧ (I 1 11).toInt ≤ 200; exact hH.2)⟩, ⟨(by show 0 ≤ (I 0 0).toInt ∧ (I 0 0).toInt ≤ 719; exact hB.1), (by show 0 ≤ (I 0 8).toInt ∧ (I 0 8).toInt ≤ 10; exact hB.2)⟩, (by show 0 ≤ (I 26 4).toInt ∧ (I 26 4).toInt ≤ 512; exact hC), (by show 0 ≤ (I 30 8).toInt ∧ (I 30 8).toInt ≤ 300; exact hP), z_fr_0, Or.inr rfl⟩
        · refine lv_if_ne (tgt := 54) hx hb dX11_lend_40 (by decide) (fun c10 => absurd (by decide) c10) (fun c10 => ?_)
          refine lv_aload_n hx hb dX11_lend_43 rfl (lv_at hl 0 rfl) ?_
          refine z_get (T := TX11) (N := 13) (ci := 11) (i := 0) (v := .ref (ad 30)) hx hb hts zj_X11_lend_X11 hown hK hW rfl rfl 6 (by decide) (hts (.fieldLink RX11 44 "PetrolBoard" "pours" "LPetrolBoard$Pours;") (me_s (me_l (me_l (me_l (me_l (me_l (me_l (me_l (List.mem_of_getElem? (i := 2) rfl)))))))))) (fun _ h => h) rfl dX11_lend_44 ?_
          refine lv_iload_n hx hb dX11_lend_47 rfl (lv_at hl 1 rfl) ?_
          refine z_ci hW hS hA (va_runV (As := [.int a1]) (rest := []) ⟨hx, hb, hml, hown, hts⟩ (sx_X8_wasHandedIn l G ad c I (by show 0 ≤ (I 30 8).toInt ∧ (I 30 8).toInt ≤ 300; exact hP) a1 _) (cwV 1 hts gX11_lend_X8_wasHandedIn rfl rfl rfl hy_X8_wasHandedIn ⟨Nat.le_of_ble_eq_true rfl, Nat.le_of_ble_eq_true rfl⟩) (z_preV (i := 30) hK hW rfl rfl) rfl rfl hl.1 rfl (lv_room (Nat.le_of_ble_eq_true rfl)) dX11_lend_48 ⟨Nat.le_of_ble_eq_true rfl, Nat.le_of_ble_eq_true rfl⟩) (fun r u1 H locs hp hW hS => ?_)
          obtain ⟨e9, hp⟩ := hp
          rw [e9] at hW
          rcases hp with rfl | rfl
          · refine lv_if_eq (tgt := 56) hx hb dX11_lend_51 (by decide) (fun c11 => absurd c11 (by decide)) (fun c11 => ?_)
            refine lv_iconst (v := 0) hx hb dX11_lend_54 (by decide) ?_
            exact z_zret hx hb hr (by decide) hK hS (Nat.le_of_ble_eq_true rfl) (Nat.le_of_ble_eq_true rfl) hlocks dX11_lend_55 (shC c, ad, I, JX, PC c ad) hW ⟨I, rfl, (by show 0 ≤ (I 21 2).toInt ∧ (I 21 2).toInt ≤ 12; exact hO), ⟨(by show 0 ≤ (I 1 5).toInt ∧ (I 1 5).toInt ≤ 30; exact hH.1), (by show 0 ≤ (I 1 11).toInt ∧ (I 1 11).toInt ≤ 200; exact hH.2)⟩, ⟨(by show 0 ≤ (I 0 0).toInt ∧ (I 0 0).toInt ≤ 719; exact hB.1), (by show 0 ≤ (I 0 8).toInt ∧ (I 0 8).toInt ≤ 10; exact hB.2)⟩, (by show 0 ≤ (I 26 4).toInt ∧ (I 26 4).toInt ≤ 512; exact hC), (by show 0 ≤ (I 30 8).toInt ∧ (I 30 8).toInt ≤ 300; exact hP), z_fr_0, Or.inr rfl⟩
          · refine lv_if_eq (tgt := 56) hx hb dX11_lend_51 (by decide) (fun c12 => ?_) (fun c12 => absurd (by decide) c12)
            refine lv_aload_n hx hb dX11_lend_56 rfl (lv_at hl 0 rfl) ?_
            refine z_get (T := TX11) (N := 13) (ci := 11) (i := 0) (v := .ref (ad 21)) hx hb hts zj_X11_lend_X11 hown hK hW rfl rfl 4 (by decide) (hts (.fieldLink RX11 30 "PetrolBoard" "orderBook" "LPetrolBoard$OrderBook;") (me_s (me_l (me_l (me_l (me_l (me_l (me_l (me_l (List.mem_of_getElem? (i := 3) rfl)))))))))) (fun _ h => h) rfl dX11_lend_57 ?_
            refine lv_iconst (v := 2) hx hb dX11_lend_60 (by decide) ?_
            refine lv_iload_n hx hb dX11_lend_61 rfl (lv_at hl 1 rfl) ?_
            refine z_ci hW hS hA (va_runS (As := [.int a1]) (rest := [.int 2, .ref (ad 21)]) ⟨hx, hb, hml, hown, hts⟩ (sx_X0_monthOf l G ad c I  a1 _) (va_cwS 1 hts gX11_lend_X0_monthOf rfl rfl rfl hy_X0_monthOf.2 ⟨Nat.le_of_ble_eq_true rfl, Nat.le_of_ble_eq_true rfl⟩) (z_preS hK hW) rfl rfl hl.1 rfl (lv_room (Nat.le_of_ble_eq_true rfl)) dX11_lend_62 ⟨Nat.le_of_ble_eq_true rfl, Nat.le_of_ble_eq_true rfl⟩) (fun r u1 H locs hp hW hS => ?_)
            rw [hp] at hW
            refine lv_topi (fun x13 ex13 => ?_)
            refine lv_aload_n hx hb dX11_lend_65 rfl (lv_at hl 0 rfl) ?_
            have r14 : 0 ≤ (I 0 0).toInt ∧ (I 0 0).toInt ≤ 719 := hB.1
            refine z_get (T := TX11) (N := 13) (ci := 11) (i := 0) (v := .int (I 0 0)) hx hb hts zj_X11_lend_X11 hown hK hW rfl rfl 0 (by decide) (hts (.fieldLink RX11 85 "PetrolBoard" "today" "I") (me_s (me_l (me_l (me_l (me_l (me_l (me_l (me_l (List.mem_of_getElem? (i := 4) rfl)))))))))) (fun _ h => h) rfl dX11_lend_66 ?_
            refine z_ci hW hS hA (va_runV (As := [.int 2, .int x13, .int (I 0 0)]) (rest := []) ⟨hx, hb, hml, hown, hts⟩ (sx_X6_amount l G ad c I (by show 0 ≤ (I 21 2).toInt ∧ (I 21 2).toInt ≤ 12; exact hO) 2 x13 (I 0 0) hc _) (cwV 3 hts gX11_lend_X6_amount rfl rfl rfl hy_X6_amount ⟨Nat.le_of_ble_eq_true rfl, Nat.le_of_ble_eq_true rfl⟩) (z_preVS (i := 21) hK hW hS hA hSt rfl rfl) rfl rfl hl.1 rfl (lv_room (Nat.le_of_ble_eq_true rfl)) dX11_lend_69 ⟨Nat.le_of_ble_eq_true rfl, Nat.le_of_ble_eq_true rfl⟩) (fun r u1 H locs hp hW hS => ?_)
            rw [hp] at hW
            refine lv_topi (fun x15 ex15 => ?_)
            refine lv_istore_n (lv' := [(3, .int x15), (0, .ref (ad 0)), (1, .int a1), (2, .int a2)]) hx hb dX11_lend_72 rfl hl (by decide) rfl (fun ls hl => ?_)
            refine lv_aload_n hx hb dX11_lend_73 rfl (lv_at hl 1 rfl) ?_
            refine z_get (T := TX11) (N := 13) (ci := 11) (i := 0) (v := .ref (ad 26)) hx hb hts zj_X11_lend_X11 hown hK hW rfl rfl 5 (by decide) (hts (.fieldLink RX11 37 "PetrolBoard" "coupons" "LPetrolBoard$Coupons;") (me_s (me_l (me_l (me_l (me_l (me_l (me_l (me_l (List.mem_of_getElem? (i := 0) rfl)))))))))) (fun _ h => h) rfl dX11_lend_74 ?_
            refine lv_iload_n hx hb dX11_lend_77 rfl (lv_at hl 2 rfl) ?_
            refine z_ci hW hS hA (va_runV (As := [.int a1]) (rest := []) ⟨hx, hb, hml, hown, hts⟩ (sx_X0_lentOfBook l G ad c I (by show 0 ≤ (I 26 4).toInt ∧ (I 26 4).toInt ≤ 512; exact hC) a1 _) (cwV 1 hts gX11_lend_X0_lentOfBook rfl rfl rfl hy_X0_lentOfBook ⟨Nat.le_of_ble_eq_true rfl, Nat.le_of_ble_eq_true rfl⟩) (z_preV (i := 26) hK hW rfl rfl) rfl rfl hl.1 rfl (lv_room (Nat.le_of_ble_eq_true rfl)) dX11_lend_78 ⟨Nat.le_of_ble_eq_true rfl, Nat.le_of_ble_eq_true rfl⟩) (fun r u1 H locs hp hW hS => ?_)
            rw [hp] at hW
            refine lv_topi (fun x16 ex16 => ?_)
            refine lv_iload_n hx hb dX11_lend_81 rfl (lv_at hl 0 rfl) ?_
            refine lv_icmp_lt (tgt := 87) hx hb dX11_lend_82 (by decide) (fun c17 => ?_) (fun c17 => ?_)
            · have g18 := z_f_lt rfl rfl c17
              have b19 := Int32.toInt_lt x16
              have b20 := Int32.toInt_lt x15
              refine lv_aload_n hx hb dX11_lend_87 rfl (lv_at hl 1 rfl) ?_
              refine z_get (T := TX11) (N := 13) (ci := 11) (i := 0) (v := .ref (ad 26)) hx hb hts zj_X11_lend_X11 hown hK hW rfl rfl 5 (by decide) (hts (.fieldLink RX11 37 "PetrolBoard" "coupons" "LPetrolBoard$Coupons;") (me_s (me_l (me_l (me_l (me_l (me_l (me_l (me_l (List.mem_of_getElem? (i := 0) rfl)))))))))) (fun _ h => h) rfl dX11_lend_88 ?_
              refine lv_iload_n hx hb dX11_lend_91 rfl (lv_at hl 2 rfl) ?_
              refine lv_iload_n hx hb dX11_lend_92 rfl (lv_at hl 3 rfl) ?_
              refine z_ci hW hS hA (va_runV (As := [.int a1, .int a2]) (rest := []) ⟨hx, hb, hml, hown, hts⟩ (sx_X0_addLent l G ad c I (by show 0 ≤ (I 26 4).toInt ∧ (I 26 4).toInt ≤ 512; exact hC) a1 a2 _) (cwV 2 hts gX11_lend_X0_addLent rfl rfl rfl hy_X0_addLent ⟨Nat.le_of_ble_eq_true rfl, Nat.le_of_ble_eq_true rfl⟩) (z_preV (i := 26) hK hW rfl rfl) rfl rfl hl.1 rfl (lv_room (Nat.le_of_ble_eq_true rfl)) dX11_lend_93 ⟨Nat.le_of_ble_eq_true rfl, Nat.le_of_ble_eq_true rfl⟩) (fun r u1 H locs hp hW hS => ?_)
              obtain ⟨I21, e9, hI21C, fI21, hp⟩ := hp
              rw [e9] at hW
              have f22 := z_fr_sub (L := L_X11_lend) z_fr_0 fI21 (by decide)
              have k23 : 0 ≤ (I21 21 2).toInt ∧ (I21 21 2).toInt ≤ 12 := by rw [fI21 21 2 (by decide)]; exact (by show 0 ≤ (I 21 2).toInt ∧ (I 21 2).toInt ≤ 12; exact hO)
              have k24 : 0 ≤ (I21 1 5).toInt ∧ (I21 1 5).toInt ≤ 30 := by rw [fI21 1 5 (by decide)]; exact (by show 0 ≤ (I 1 5).toInt ∧ (I 1 5).toInt ≤ 30; exact hH.1)
              have k25 : 0 ≤ (I21 1 11).toInt ∧ (I21 1 11).toInt ≤ 200 := by rw [fI21 1 11 (by decide)]; exact (by show 0 ≤ (I 1 11).toInt ∧ (I 1 11).toInt ≤ 200; exact hH.2)
              have k26 : 0 ≤ (I21 0 0).toInt ∧ (I21 0 0).toInt ≤ 719 := by rw [fI21 0 0 (by decide)]; exact (by show 0 ≤ (I 0 0).toInt ∧ (I 0 0).toInt ≤ 719; exact hB.1)
              have k27 : 0 ≤ (I21 0 8).toInt ∧ (I21 0 8).toInt ≤ 10 := by rw [fI21 0 8 (by decide)]; exact (by show 0 ≤ (I 0 8).toInt ∧ (I 0 8).toInt ≤ 10; exact hB.2)
              have k28 : 0 ≤ (I21 30 8).toInt ∧ (I21 30 8).toInt ≤ 300 := by rw [fI21 30 8 (by decide)]; exact (by show 0 ≤ (I 30 8).toInt ∧ (I 30 8).toInt ≤ 300; exact hP)
              rcases hp with rfl | rfl
              · exact z_zret hx hb hr (by decide) hK hS (Nat.le_of_ble_eq_true rfl) (Nat.le_of_ble_eq_true rfl) hlocks dX11_lend_96 (shC c, ad, I21, JX, PC c ad) hW ⟨I21, rfl, (by show 0 ≤ (I21 21 2).toInt ∧ (I21 21 2).toInt ≤ 12; exact k23), ⟨(by show 0 ≤ (I21 1 5).toInt ∧ (I21 1 5).toInt ≤ 30; exact k24), (by show 0 ≤ (I21 1 11).toInt ∧ (I21 1 11).toInt ≤ 200; exact k25)⟩, ⟨(by show 0 ≤ (I21 0 0).toInt ∧ (I21 0 0).toInt ≤ 719; exact k26), (by show 0 ≤ (I21 0 8).toInt ∧ (I21 0 8).toInt ≤ 10; exact k27)⟩, (by show 0 ≤ (I21 26 4).toInt ∧ (I21 26 4).toInt ≤ 512; exact hI21C), (by show 0 ≤ (I21 30 8).toInt ∧ (I21 30 8).toInt ≤ 300; exact k28), f22, Or.inl rfl⟩
              · exact z_zret hx hb hr (by decide) hK hS (Nat.le_of_ble_eq_true rfl) (Nat.le_of_ble_eq_true rfl) hlocks dX11_lend_96 (shC c, ad, I21, JX, PC c ad) hW ⟨I21, rfl, (by show 0 ≤ (I21 21 2).toInt ∧ (I21 21 2).toInt ≤ 12; exact k23), ⟨(by show 0 ≤ (I21 1 5).toInt ∧ (I21 1 5).toInt ≤ 30; exact k24), (by show 0 ≤ (I21 1 11).toInt ∧ (I21 1 11).toInt ≤ 200; exact k25)⟩, ⟨(by show 0 ≤ (I21 0 0).toInt ∧ (I21 0 0).toInt ≤ 719; exact k26), (by show 0 ≤ (I21 0 8).toInt ∧ (I21 0 8).toInt ≤ 10; exact k27)⟩, (by show 0 ≤ (I21 26 4).toInt ∧ (I21 26 4).toInt ≤ 512; exact hI21C), (by show 0 ≤ (I21 30 8).toInt ∧ (I21 30 8).toInt ≤ 300; exact k28), f22, Or.inr rfl⟩
            · have g29 := z_f_nlt rfl rfl c17
              have b30 := Int32.toInt_lt x16
              have b31 := Int32.toInt_lt x15
              refine lv_iconst (v := 0) hx hb dX11_lend_85 (by decide) ?_
              exact z_zret hx hb hr (by decide) hK hS (Nat.le_of_ble_eq_true rfl) (Nat.le_of_ble_eq_true rfl) hlocks dX11_lend_86 (shC c, ad, I, JX, PC c ad) hW ⟨I, rfl, (by show 0 ≤ (I 21 2).toInt ∧ (I 21 2).toInt ≤ 12; exact hO), ⟨(by show 0 ≤ (I 1 5).toInt ∧ (I 1 5).toInt ≤ 30; exact hH.1), (by show 0 ≤ (I 1 11).toInt ∧ (I 1 11).toInt ≤ 200; exact hH.2)⟩, ⟨(by show 0 ≤ (I 0 0).toInt ∧ (I 0 0).toInt ≤ 719; exact hB.1), (by show 0 ≤ (I 0 8).toInt ∧ (I 0 8).toInt ≤ 10; exact hB.2)⟩, (by show 0 ≤ (I 26 4).toInt ∧ (I 26 4).toInt ≤ 512; exact hC), (by show 0 ≤ (I 30 8).toInt ∧ (I 30 8).toInt ≤ 300; exact hP), z_fr_0, Or.inr rfl⟩
      · have g32 := z_f_eq rfl rfl c6
        have b33 := Int32.toInt_lt x5
        refine lv_iconst (v := 0) hx hb dX11_lend_30 (by decide) ?_
        exact z_zret hx hb hr (by decide) hK hS (Nat.le_of_ble_eq_true rfl) (Nat.le_of_ble_eq_true rfl) hlocks dX11_lend_31 (shC c, ad, I, JX, PC c ad) hW ⟨I, rfl, (by show 0 ≤ (I 21 2).toInt ∧ (I 21 2).toInt ≤ 12; exact hO), ⟨(by show 0 ≤ (I 1 5).toInt ∧ (I 1 5).toInt ≤ 30; exact hH.1), (by show 0 ≤ (I 1 11).toInt ∧ (I 1 11).toInt ≤ 200; exact hH.2)⟩, ⟨(by show 0 ≤ (I 0 0).toInt ∧ (I 0 0).toInt ≤ 719; exact hB.1), (by show 0 ≤ (I 0 8).toInt ∧ (I 0 8).toInt ≤ 10; exact hB.2)⟩, (by show 0 ≤ (I 26 4).toInt ∧ (I 26 4).toInt ≤ 512; exact hC), (by show 0 ≤ (I 30 8).toInt ∧ (I 30 8).toInt ≤ 300; exact hP), z_fr_0, Or.inr rfl⟩
    · refine lv_if_eq (tgt := 30) hx hb dX11_lend_19 (by decide) (fun c34 => ?_) (fun c34 => absurd (by decide) c34)
      refine lv_iconst (v := 0) hx hb dX11_lend_30 (by decide) ?_
      exact z_zret hx hb hr (by decide) hK hS (Nat.le_of_ble_eq_true rfl) (Nat.le_of_ble_eq_true rfl) hlocks dX11_lend_31 (shC c, ad, I, JX, PC c ad) hW ⟨I, rfl, (by show 0 ≤ (I 21 2).toInt ∧ (I 21 2).toInt ≤ 12; exact hO), ⟨(by show 0 ≤ (I 1 5).toInt ∧ (I 1 5).toInt ≤ 30; exact hH.1), (by show 0 ≤ (I 1 11).toInt ∧ (I 1 11).toInt ≤ 200; exact hH.2)⟩, ⟨(by show 0 ≤ (I 0 0).toInt ∧ (I 0 0).toInt ≤ 719; exact hB.1), (by show 0 ≤ (I 0 8).toInt ∧ (I 0 8).toInt ≤ 10; exact hB.2)⟩, (by show 0 ≤ (I 26 4).toInt ∧ (I 26 4).toInt ≤ 512; exact hC), (by show 0 ≤ (I 30 8).toInt ∧ (I 30 8).toInt ≤ 300; exact hP), z_fr_0, Or.inr rfl⟩
  · refine lv_if_eq (tgt := 30) hx hb dX11_lend_8 (by decide) (fun c35 => ?_) (fun c35 => absurd (by decide) c35)
    refine lv_iconst (v := 0) hx hb dX11_lend_30 (by decide) ?_
    exact z_zret hx hb hr (by decide) hK hS (Nat.le_of_ble_eq_true rfl) (Nat.le_of_ble_eq_true rfl) hlocks dX11_lend_31 (shC c, ad, I, JX, PC c ad) hW ⟨I, rfl, (by show 0 ≤ (I 21 2).toInt ∧ (I 21 2).toInt ≤ 12; exact hO), ⟨(by show 0 ≤ (I 1 5).toInt ∧ (I 1 5).toInt ≤ 30; exact hH.1), (by show 0 ≤ (I 1 11).toInt ∧ (I 1 11).toInt ≤ 200; exact hH.2)⟩, ⟨(by show 0 ≤ (I 0 0).toInt ∧ (I 0 0).toInt ≤ 719; exact hB.1), (by show 0 ≤ (I 0 8).toInt ∧ (I 0 8).toInt ≤ 10; exact hB.2)⟩, (by show 0 ≤ (I 26 4).toInt ∧ (I 26 4).toInt ≤ 512; exact hC), (by show 0 ≤ (I 30 8).toInt ∧ (I 30 8).toInt ≤ 300; exact hP), z_fr_0, Or.inr rfl⟩
theorem zj_X11_owner_X11 : ∀ w ∈ wsX110, w ∈ wsX11_owner := fun w h => (List.mem_cons_of_mem _ (List.mem_append_left _ (List.mem_append_right _ h)))
set_option maxHeartbeats 8000000 in
set_option maxRecDepth 100000 in
theorem sx_X11_owner (l : Launch) (G : z_G) (ad : Nat → Nat) (c : z_C) (I : z_I) (hC : z_iC I) (a1 : Int32) (hc : z_okc c) (h10 : c.1 ≤ 10) : z_M l yX11_owner wsX11_owner { frames := 3, cells := 0, slots := 0, locals := 56 } [.ref (ad 0), .int a1] G (shC c, ad, I, JX, PC c ad) (fun r u1 => u1 = (shC c, ad, I, JX, PC c ad)) 0 0 := by
  intro sz
  refine z_headQ (cc := cX11_owner) (maxL := 2) (ret := (some .int)) (by decide) rfl (Nat.le_of_ble_eq_true rfl) ?_
  intro p e s m below meth c0 ls hIn hK hsz hW hl
  obtain ⟨hx, hb, hr, hml, hown, hts, hlocks, hname⟩ := hIn
  subst hsz
  have hown : s.vm.findClass RX11 = some m.cls := hown
  have hA : ∀ q : Nat, s.heap.size ≤ q → z_A (shC c, ad, I, JX, PC c ad) s.heap.size q := fun q h => Or.inr h
  generalize hAe : z_A (shC c, ad, I, JX, PC c ad) s.heap.size = A at *
  have hS : va_S A s.heap s.heap [] := va_S.rf
  have hl : lv_has ls 2 [(0, .ref (ad 0)), (1, .int a1)] := hl
  refine lv_aload_n hx hb dX11_owner_0 rfl (lv_at hl 0 rfl) ?_
  refine z_get (T := TX11) (N := 13) (ci := 11) (i := 0) (v := .ref (ad 26)) hx hb hts zj_X11_owner_X11 hown hK hW rfl rfl 5 (by decide) (hts (.fieldLink RX11 37 "PetrolBoard" "coupons" "LPetrolBoard$Coupons;") (me_s (me_l (me_l (List.mem_of_getElem? (i := 0) rfl))))) (fun _ h => h) rfl dX11_owner_1 ?_
  refine lv_iload_n hx hb dX11_owner_4 rfl (lv_at hl 1 rfl) ?_
  refine z_ci hW hS hA (va_runV (As := [.int a1]) (rest := []) ⟨hx, hb, hml, hown, hts⟩ (sx_X0_ownerOf l G ad c I (by show 0 ≤ (I 26 4).toInt ∧ (I 26 4).toInt ≤ 512; exact hC) a1 _) (cwV 1 hts gX11_owner_X0_ownerOf rfl rfl rfl hy_X0_ownerOf ⟨Nat.le_of_ble_eq_true rfl, Nat.le_of_ble_eq_true rfl⟩) (z_preV (i := 26) hK hW rfl rfl) rfl rfl hl.1 rfl (lv_room (Nat.le_of_ble_eq_true rfl)) dX11_owner_5 ⟨Nat.le_of_ble_eq_true rfl, Nat.le_of_ble_eq_true rfl⟩) (fun r u1 H locs hp hW hS => ?_)
  rw [hp] at hW
  refine lv_topi (fun x1 ex1 => ?_)
  exact z_iret hx hb hr hK hS (Nat.le_of_ble_eq_true rfl) (Nat.le_of_ble_eq_true rfl) hlocks dX11_owner_8 (shC c, ad, I, JX, PC c ad) hW rfl
theorem zj_X11_hasStation_X11 : ∀ w ∈ wsX110, w ∈ wsX11_hasStation := fun w h => (List.mem_cons_of_mem _ (List.mem_append_right _ h))
set_option maxHeartbeats 8000000 in
set_option maxRecDepth 100000 in
theorem sx_X11_hasStation (l : Launch) (G : z_G) (ad : Nat → Nat) (c : z_C) (I : z_I) (hB : z_iB I) (a1 : Int32) (hc : z_okc c) (h10 : c.1 ≤ 10) : z_M l yX11_hasStation wsX11_hasStation { frames := 1, cells := 0, slots := 0, locals := 12 } [.ref (ad 0), .int a1] G (shC c, ad, I, JX, PC c ad) (fun r u1 => u1 = (shC c, ad, I, JX, PC c ad) ∧ (r = 1 ∧ 0 ≤ a1.toInt ∧ a1.toInt ≤ 9 ∨ r = 0)) 0 0 := by
  intro sz
  refine z_headQ (cc := cX11_hasStation) (maxL := 2) (ret := (some .boolean)) (by decide) rfl (Nat.le_of_ble_eq_true rfl) ?_
  intro p e s m below meth c0 ls hIn hK hsz hW hl
  obtain ⟨hx, hb, hr, hml, hown, hts, hlocks, hname⟩ := hIn
  subst hsz
  have hown : s.vm.findClass RX11 = some m.cls := hown
  have hA : ∀ q : Nat, s.heap.size ≤ q → z_A (shC c, ad, I, JX, PC c ad) s.heap.size q := fun q h => Or.inr h
  generalize hAe : z_A (shC c, ad, I, JX, PC c ad) s.heap.size = A at *
  have hS : va_S A s.heap s.heap [] := va_S.rf
  have hl : lv_has ls 2 [(0, .ref (ad 0)), (1, .int a1)] := hl
  refine lv_iload_n hx hb dX11_hasStation_0 rfl (lv_at hl 1 rfl) ?_
  refine lv_if_lt (tgt := 16) hx hb dX11_hasStation_1 (by decide) (fun c1 => ?_) (fun c1 => ?_)
  · have g2 := z_f_lt rfl z_l0 c1
    have b3 := Int32.toInt_lt a1
    refine lv_iconst (v := 0) hx hb dX11_hasStation_16 (by decide) ?_
    exact z_zret hx hb hr (by decide) hK hS (Nat.le_of_ble_eq_true rfl) (Nat.le_of_ble_eq_true rfl) hlocks dX11_hasStation_17 (shC c, ad, I, JX, PC c ad) hW ⟨rfl, Or.inr rfl⟩
  · have g4 := z_f_nlt rfl z_l0 c1
    have b5 := Int32.toInt_lt a1
    refine lv_iload_n hx hb dX11_hasStation_4 rfl (lv_at hl 1 rfl) ?_
    refine lv_aload_n hx hb dX11_hasStation_5 rfl (lv_at hl 0 rfl) ?_
    have r6 : 0 ≤ (I 0 8).toInt ∧ (I 0 8).toInt ≤ 10 := hB.2
    refine z_get (T := TX11) (N := 13) (ci := 11) (i := 0) (v := .int (I 0 8)) hx hb hts zj_X11_hasStation_X11 hown hK hW rfl rfl 8 (by decide) (hts (.fieldLink RX11 178 "PetrolBoard" "stationNumber" "I") (me_s (me_l (List.mem_of_getElem? (i := 0) rfl)))) (fun _ h => h) rfl dX11_hasStation_6 ?_
    refine lv_icmp_ge (tgt := 16) hx hb dX11_hasStation_9 (by decide) (fun c7 => ?_) (fun c7 => ?_)
    · have g8 := z_f_ge rfl rfl c7
      refine lv_iconst (v := 0) hx hb dX11_hasStation_16 (by decide) ?_
      exact z_zret hx hb hr (by decide) hK hS (Nat.le_of_ble_eq_true rfl) (Nat.le_of_ble_eq_true rfl) hlocks dX11_hasStation_17 (shC c, ad, I, JX, PC c ad) hW ⟨rfl, Or.inr rfl⟩
    · have g9 := z_f_nge rfl rfl c7
      refine lv_iconst (v := 1) hx hb dX11_hasStation_12 (by decide) ?_
      refine lv_goto (tgt := 17) hx hb dX11_hasStation_13 (by decide) ?_
      exact z_zret hx hb hr (by decide) hK hS (Nat.le_of_ble_eq_true rfl) (Nat.le_of_ble_eq_true rfl) hlocks dX11_hasStation_17 (shC c, ad, I, JX, PC c ad) hW ⟨rfl, Or.inl ⟨rfl, (by omega), (by omega)⟩⟩
theorem zj_X11_isFarmerNow_X11 : ∀ w ∈ wsX110, w ∈ wsX11_isFarmerNow := fun w h => (List.mem_cons_of_mem _ (List.mem_append_left _ (List.mem_append_right _ h)))
set_option maxHeartbeats 8000000 in
set_option maxRecDepth 100000 in
theorem sx_X11_isFarmerNow (l : Launch) (G : z_G) (ad : Nat → Nat) (c : z_C) (I : z_I) (hH : z_iH I) (hB : z_iB I) (a1 : Int32) (hc : z_okc c) (h10 : c.1 ≤ 10) : z_M l yX11_isFarmerNow wsX11_isFarmerNow { frames := 2, cells := 0, slots := 0, locals := 39 } [.ref (ad 0), .int a1] G (shC c, ad, I, JX, PC c ad) (fun r u1 => u1 = (shC c, ad, I, JX, PC c ad) ∧ (r = 1 ∨ r = 0)) 0 0 := by
  intro sz
  refine z_headQ (cc := cX11_isFarmerNow) (maxL := 2) (ret := (some .boolean)) (by decide) rfl (Nat.le_of_ble_eq_true rfl) ?_
  intro p e s m below meth c0 ls hIn hK hsz hW hl
  obtain ⟨hx, hb, hr, hml, hown, hts, hlocks, hname⟩ := hIn
  subst hsz
  have hown : s.vm.findClass RX11 = some m.cls := hown
  have hA : ∀ q : Nat, s.heap.size ≤ q → z_A (shC c, ad, I, JX, PC c ad) s.heap.size q := fun q h => Or.inr h
  generalize hAe : z_A (shC c, ad, I, JX, PC c ad) s.heap.size = A at *
  have hS : va_S A s.heap s.heap [] := va_S.rf
  have hl : lv_has ls 2 [(0, .ref (ad 0)), (1, .int a1)] := hl
  refine lv_aload_n hx hb dX11_isFarmerNow_0 rfl (lv_at hl 0 rfl) ?_
  refine z_get (T := TX11) (N := 13) (ci := 11) (i := 0) (v := .ref (ad 1)) hx hb hts zj_X11_isFarmerNow_X11 hown hK hW rfl rfl 2 (by decide) (hts (.fieldLink RX11 16 "PetrolBoard" "holders" "LPetrolBoard$Holders;") (me_s (me_l (me_l (List.mem_of_getElem? (i := 0) rfl))))) (fun _ h => h) rfl dX11_isFarmerNow_1 ?_
  refine lv_iload_n hx hb dX11_isFarmerNow_4 rfl (lv_at hl 1 rfl) ?_
  refine lv_aload_n hx hb dX11_isFarmerNow_5 rfl (lv_at hl 0 rfl) ?_
  have r1 : 0 ≤ (I 0 0).toInt ∧ (I 0 0).toInt ≤ 719 := hB.1
  refine z_get (T := TX11) (N := 13) (ci := 11) (i := 0) (v := .int (I 0 0)) hx hb hts zj_X11_isFarmerNow_X11 hown hK hW rfl rfl 0 (by decide) (hts (.fieldLink RX11 85 "PetrolBoard" "today" "I") (me_s (me_l (me_l (List.mem_of_getElem? (i := 1) rfl))))) (fun _ h => h) rfl dX11_isFarmerNow_6 ?_
  refine lv_aload_n hx hb dX11_isFarmerNow_9 rfl (lv_at hl 0 rfl) ?_
  refine z_get (T := TX11) (N := 13) (ci := 11) (i := 0) (v := .int (I 0 0)) hx hb hts zj_X11_isFarmerNow_X11 hown hK hW rfl rfl 0 (by decide) (hts (.fieldLink RX11 85 "PetrolBoard" "today" "I") (me_s (me_l (me_l (List.mem_of_getElem? (i := 1) rfl))))) (fun _ h => h) rfl dX11_isFarmerNow_10 ?_
  refine z_ci hW hS hA (va_runV (As := [.int a1, .int (I 0 0), .int (I 0 0)]) (rest := []) ⟨hx, hb, hml, hown, hts⟩ (sx_X2_kindOn l G ad c I ⟨(by show 0 ≤ (I 1 5).toInt ∧ (I 1 5).toInt ≤ 30; exact hH.1), (by show 0 ≤ (I 1 11).toInt ∧ (I 1 11).toInt ≤ 200; exact hH.2)⟩ a1 (I 0 0) (I 0 0) _) (cwV 3 hts gX11_isFarmerNow_X2_kindOn rfl rfl rfl hy_X2_kindOn ⟨Nat.le_of_ble_eq_true rfl, Nat.le_of_ble_eq_true rfl⟩) (z_preV (i := 1) hK hW rfl rfl) rfl rfl hl.1 rfl (lv_room (Nat.le_of_ble_eq_true rfl)) dX11_isFarmerNow_13 ⟨Nat.le_of_ble_eq_true rfl, Nat.le_of_ble_eq_true rfl⟩) (fun r u1 H locs hp hW hS => ?_)
  rw [hp] at hW
  refine lv_topi (fun x2 ex2 => ?_)
  refine lv_iconst (v := 2) hx hb dX11_isFarmerNow_16 (by decide) ?_
  refine lv_icmp_ne (tgt := 24) hx hb dX11_isFarmerNow_17 (by decide) (fun c3 => ?_) (fun c3 => ?_)
  · have g4 := z_f_ne rfl z_l2 c3
    have b5 := Int32.toInt_lt x2
    refine lv_iconst (v := 0) hx hb dX11_isFarmerNow_24 (by decide) ?_
    exact z_zret hx hb hr (by decide) hK hS (Nat.le_of_ble_eq_true rfl) (Nat.le_of_ble_eq_true rfl) hlocks dX11_isFarmerNow_25 (shC c, ad, I, JX, PC c ad) hW ⟨rfl, Or.inr rfl⟩
  · have g6 := z_f_eq rfl z_l2 c3
    have b7 := Int32.toInt_lt x2
    refine lv_iconst (v := 1) hx hb dX11_isFarmerNow_20 (by decide) ?_
    refine lv_goto (tgt := 25) hx hb dX11_isFarmerNow_21 (by decide) ?_
    exact z_zret hx hb hr (by decide) hK hS (Nat.le_of_ble_eq_true rfl) (Nat.le_of_ble_eq_true rfl) hlocks dX11_isFarmerNow_25 (shC c, ad, I, JX, PC c ad) hW ⟨rfl, Or.inl rfl⟩
noncomputable def L_X11_pour : z_L := [(31, 999), (32, 999), (33, 999), (34, 999), (36, 999), (30, 8), (35, 999), (37, 999), (38, 999)]
theorem zj_X11_pour_X8 : ∀ w ∈ wsX80, w ∈ wsX11_pour := fun w h => (List.mem_cons_of_mem _ (List.mem_append_left _ (List.mem_append_left _ (List.mem_append_left _ (List.mem_append_left _ (List.mem_append_right _ h))))))
theorem zj_X11_pour_X11 : ∀ w ∈ wsX110, w ∈ wsX11_pour := fun w h => (List.mem_cons_of_mem _ (List.mem_append_left _ (List.mem_append_left _ (List.mem_append_left _ (List.mem_append_left _ (List.mem_append_left _ (List.mem_append_right _ h)))))))
set_option maxHeartbeats 8000000 in
set_option maxRecDepth 100000 in
theorem sx_X11_pour (l : Launch) (G : z_G) (ad : Nat → Nat) (c : z_C) (I : z_I) (hP : z_iP I) (hO : z_iO I) (hH : z_iH I) (hB : z_iB I) (hC : z_iC I) (a1 : Int32) (a2 : Int32) (a3 : Int32) (hc : z_okc c) (h10 : c.1 ≤ 10) : z_MS l yX11_pour wsX11_pour { frames := 4, cells := 0, slots := 0, locals := 86 } [.ref (ad 0), .int a1, .int a2, .int a3] G (shC c, ad, I, JX, PC c ad) (fun r u1 => ∃ I1 : z_I, u1 = (shC c, ad, I1, JX, PC c ad) ∧ z_iP I1 ∧ z_iO I1 ∧ z_iH I1 ∧ z_iB I1 ∧ z_iC I1 ∧ z_fr L_X11_pour I1 I) 0 0 := by
  intro sz
  refine z_headS (cc := cX11_pour) (maxL := 5) (ret := (some .int)) (by decide) rfl (Nat.le_of_ble_eq_true rfl) ?_
  intro p e s m below meth c0 ls hIn hK hsz hW hl hSt
  obtain ⟨hx, hb, hr, hml, hown, hts, hlocks, hname⟩ := hIn
  subst hsz
  have hown : s.vm.findClass RX11 = some m.cls := hown
  have hA : ∀ q : Nat, s.heap.size ≤ q → z_A (shC c, ad, I, JX, PC c ad) s.heap.size q := fun q h => Or.inr h
  generalize hAe : z_A (shC c, ad, I, JX, PC c ad) s.heap.size = A at *
  have hS : va_S A s.heap s.heap [] := va_S.rf
  have hl : lv_has ls 5 [(0, .ref (ad 0)), (1, .int a1), (2, .int a2), (3, .int a3)] := hl
  refine lv_aload_n hx hb dX11_pour_0 rfl (lv_at hl 0 rfl) ?_
  refine lv_iload_n hx hb dX11_pour_1 rfl (lv_at hl 1 rfl) ?_
  refine z_ci hW hS hA (va_runV (As := [.int a1]) (rest := []) ⟨hx, hb, hml, hown, hts⟩ (sx_X11_hasStation l G ad c I ⟨(by show 0 ≤ (I 0 0).toInt ∧ (I 0 0).toInt ≤ 719; exact hB.1), (by show 0 ≤ (I 0 8).toInt ∧ (I 0 8).toInt ≤ 10; exact hB.2)⟩ a1 hc h10 _) (cwV 1 hts gX11_pour_X11_hasStation rfl rfl rfl hy_X11_hasStation ⟨Nat.le_of_ble_eq_true rfl, Nat.le_of_ble_eq_true rfl⟩) (z_preV (i := 0) hK hW rfl rfl) rfl rfl hl.1 rfl (lv_room (Nat.le_of_ble_eq_true rfl)) dX11_pour_2 ⟨Nat.le_of_ble_eq_true rfl, Nat.le_of_ble_eq_true rfl⟩) (fun r u1 H locs hp hW hS => ?_)
  obtain ⟨e9, hp⟩ := hp
  rw [e9] at hW
  rcases hp with ⟨rfl, h1, h2⟩ | rfl
  · refine lv_if_eq (tgt := 29) hx hb dX11_pour_5 (by decide) (fun c3 => absurd c3 (by decide)) (fun c3 => ?_)
    refine lv_aload_n hx hb dX11_pour_8 rfl (lv_at hl 0 rfl) ?_
    refine z_get (T := TX11) (N := 13) (ci := 11) (i := 0) (v := .ref (ad 1)) hx hb hts zj_X11_pour_X11 hown hK hW rfl rfl 2 (by decide) (hts (.fieldLink RX11 16 "PetrolBoard" "holders" "LPetrolBoard$Holders;") (me_s (me_l (me_l (me_l (me_l (me_l (me_l (me_l (List.mem_of_getElem? (i := 0) rfl)))))))))) (fun _ h => h) rfl dX11_pour_9 ?_
    refine lv_iload_n hx hb dX11_pour_12 rfl (lv_at hl 2 rfl) ?_
    refine z_ci hW hS hA (va_runV (As := [.int a2]) (rest := []) ⟨hx, hb, hml, hown, hts⟩ (sx_X2_has l G ad c I ⟨(by show 0 ≤ (I 1 5).toInt ∧ (I 1 5).toInt ≤ 30; exact hH.1), (by show 0 ≤ (I 1 11).toInt ∧ (I 1 11).toInt ≤ 200; exact hH.2)⟩ a2 _) (cwV 1 hts gX11_pour_X2_has rfl rfl rfl hy_X2_has ⟨Nat.le_of_ble_eq_true rfl, Nat.le_of_ble_eq_true rfl⟩) (z_preV (i := 1) hK hW rfl rfl) rfl rfl hl.1 rfl (lv_room (Nat.le_of_ble_eq_true rfl)) dX11_pour_13 ⟨Nat.le_of_ble_eq_true rfl, Nat.le_of_ble_eq_true rfl⟩) (fun r u1 H locs hp hW hS => ?_)
    obtain ⟨e9, hp⟩ := hp
    rw [e9] at hW
    rcases hp with ⟨rfl, h4, h5⟩ | rfl
    · refine lv_if_eq (tgt := 29) hx hb dX11_pour_16 (by decide) (fun c6 => absurd c6 (by decide)) (fun c6 => ?_)
      refine lv_iload_n hx hb dX11_pour_19 rfl (lv_at hl 3 rfl) ?_
      refine lv_iconst (v := 0) hx hb dX11_pour_20 (by decide) ?_
      refine lv_ldc (v := 99999) hx hb hown (hts (.constant RX11 185 (99999)) (me_s (me_l (me_l (me_l (me_l (me_l (me_l (me_l (List.mem_of_getElem? (i := 1) rfl)))))))))) dX11_pour_21 ?_
      refine z_ci hW hS hA (va_runS (As := [.int a3, .int 0, .int 99999]) (rest := []) ⟨hx, hb, hml, hown, hts⟩ (sx_X11_within l G ad c I  a3 0 99999 _) (va_cwS 3 hts gX11_pour_X11_within rfl rfl rfl hy_X11_within.2 ⟨Nat.le_of_ble_eq_true rfl, Nat.le_of_ble_eq_true rfl⟩) (z_preS hK hW) rfl rfl hl.1 rfl (lv_room (Nat.le_of_ble_eq_true rfl)) dX11_pour_23 ⟨Nat.le_of_ble_eq_true rfl, Nat.le_of_ble_eq_true rfl⟩) (fun r u1 H locs hp hW hS => ?_)
      obtain ⟨e9, hp⟩ := hp
      rw [e9] at hW
      rcases hp with ⟨rfl, h7, h8⟩ | rfl
      · have h7 := z_t_le z_l0 rfl h7
        have h8 := z_t_le rfl z_l99999 h8
        refine lv_if_ne (tgt := 31) hx hb dX11_pour_26 (by decide) (fun c9 => ?_) (fun c9 => absurd c9 (by decide))
        refine lv_aload_n hx hb dX11_pour_31 rfl (lv_at hl 0 rfl) ?_
        refine z_get (T := TX11) (N := 13) (ci := 11) (i := 0) (v := .ref (ad 30)) hx hb hts zj_X11_pour_X11 hown hK hW rfl rfl 6 (by decide) (hts (.fieldLink RX11 44 "PetrolBoard" "pours" "LPetrolBoard$Pours;") (me_s (me_l (me_l (me_l (me_l (me_l (me_l (me_l (List.mem_of_getElem? (i := 2) rfl)))))))))) (fun _ h => h) rfl dX11_pour_32 ?_
        refine lv_iload_n hx hb dX11_pour_35 rfl (lv_at hl 1 rfl) ?_
        refine lv_iload_n hx hb dX11_pour_36 rfl (lv_at hl 2 rfl) ?_
        refine lv_iload_n hx hb dX11_pour_37 rfl (lv_at hl 3 rfl) ?_
        refine lv_aload_n hx hb dX11_pour_38 rfl (lv_at hl 0 rfl) ?_
        have r10 : 0 ≤ (I 0 0).toInt ∧ (I 0 0).toInt ≤ 719 := hB.1
        refine z_get (T := TX11) (N := 13) (ci := 11) (i := 0) (v := .int (I 0 0)) hx hb hts zj_X11_pour_X11 hown hK hW rfl rfl 0 (by decide) (hts (.fieldLink RX11 85 "PetrolBoard" "today" "I") (me_s (me_l (me_l (me_l (me_l (me_l (me_l (me_l (List.mem_of_getElem? (i := 3) rfl)))))))))) (fun _ h => h) rfl dX11_pour_39 ?_
        refine z_ci hW hS hA (va_runV (As := [.int a1, .int a2, .int a3, .int (I 0 0)]) (rest := []) ⟨hx, hb, hml, hown, hts⟩ (sx_X8_add l G ad c I (by show 0 ≤ (I 30 8).toInt ∧ (I 30 8).toInt ≤ 300; exact hP) a1 a2 a3 (I 0 0) _) (cwV 4 hts gX11_pour_X8_add rfl rfl rfl hy_X8_add ⟨Nat.le_of_ble_eq_true rfl, Nat.le_of_ble_eq_true rfl⟩) (z_preV (i := 30) hK hW rfl rfl) rfl rfl hl.1 rfl (lv_room (Nat.le_of_ble_eq_true rfl)) dX11_pour_42 ⟨Nat.le_of_ble_eq_true rfl, Nat.le_of_ble_eq_true rfl⟩) (fun r u1 H locs hp hW hS => ?_)
        obtain ⟨I11, e9, hI11P, fI11⟩ := hp
        rw [e9] at hW
        have f12 := z_fr_sub (L := L_X11_pour) z_fr_0 fI11 (by decide)
        have k13 : 0 ≤ (I11 21 2).toInt ∧ (I11 21 2).toInt ≤ 12 := by rw [fI11 21 2 (by decide)]; exact (by show 0 ≤ (I 21 2).toInt ∧ (I 21 2).toInt ≤ 12; exact hO)
        have k14 : 0 ≤ (I11 1 5).toInt ∧ (I11 1 5).toInt ≤ 30 := by rw [fI11 1 5 (by decide)]; exact (by show 0 ≤ (I 1 5).toInt ∧ (I 1 5).toInt ≤ 30; exact hH.1)
        have k15 : 0 ≤ (I11 1 11).toInt ∧ (I11 1 11).toInt ≤ 200 := by rw [fI11 1 11 (by decide)]; exact (by show 0 ≤ (I 1 11).toInt ∧ (I 1 11).toInt ≤ 200; exact hH.2)
        have k16 : 0 ≤ (I11 0 0).toInt ∧ (I11 0 0).toInt ≤ 719 := by rw [fI11 0 0 (by decide)]; exact (by show 0 ≤ (I 0 0).toInt ∧ (I 0 0).toInt ≤ 719; exact hB.1)
        have k17 : 0 ≤ (I11 0 8).toInt ∧ (I11 0 8).toInt ≤ 10 := by rw [fI11 0 8 (by decide)]; exact (by show 0 ≤ (I 0 8).toInt ∧ (I 0 8).toInt ≤ 10; exact hB.2)
        have k18 : 0 ≤ (I11 26 4).toInt ∧ (I11 26 4).toInt ≤ 512 := by rw [fI11 26 4 (by decide)]; exact (by show 0 ≤ (I 26 4).toInt ∧ (I 26 4).toInt ≤ 512; exact hC)
        refine lv_topi (fun x19 ex19 => ?_)
        refine lv_istore (lv' := [(4, .int x19), (0, .ref (ad 0)), (1, .int a1), (2, .int a2), (3, .int a3)]) hx hb dX11_pour_45 hl (by decide) rfl (fun ls hl => ?_)
        refine lv_aload_n hx hb dX11_pour_47 rfl (lv_at hl 1 rfl) ?_
        refine z_get (T := TX11) (N := 13) (ci := 11) (i := 0) (v := .ref (ad 30)) hx hb hts zj_X11_pour_X11 hown hK hW rfl rfl 6 (by decide) (hts (.fieldLink RX11 44 "PetrolBoard" "pours" "LPetrolBoard$Pours;") (me_s (me_l (me_l (me_l (me_l (me_l (me_l (me_l (List.mem_of_getElem? (i := 2) rfl)))))))))) (fun _ h => h) rfl dX11_pour_48 ?_
        refine lv_iload hx hb dX11_pour_51 (lv_at hl 0 rfl) ?_
        refine z_ci hW hS hA (va_runV (As := [.int x19]) (rest := []) ⟨hx, hb, hml, hown, hts⟩ (sx_X8_has l G ad c I11 (by show 0 ≤ (I11 30 8).toInt ∧ (I11 30 8).toInt ≤ 300; exact hI11P) x19 _) (cwV 1 hts gX11_pour_X8_has rfl rfl rfl hy_X8_has ⟨Nat.le_of_ble_eq_true rfl, Nat.le_of_ble_eq_true rfl⟩) (z_preV (i := 30) hK hW rfl rfl) rfl rfl hl.1 rfl (lv_room (Nat.le_of_ble_eq_true rfl)) dX11_pour_53 ⟨Nat.le_of_ble_eq_true rfl, Nat.le_of_ble_eq_true rfl⟩) (fun r u1 H locs hp hW hS => ?_)
        obtain ⟨e9, hp⟩ := hp
        rw [e9] at hW
        rcases hp with ⟨rfl, h20, h21⟩ | rfl
        · refine lv_if_eq (tgt := 129) hx hb dX11_pour_56 (by decide) (fun c22 => absurd c22 (by decide)) (fun c22 => ?_)
          refine lv_aload_n hx hb dX11_pour_59 rfl (lv_at hl 1 rfl) ?_
          refine z_get (T := TX11) (N := 13) (ci := 11) (i := 0) (v := .ref (ad 30)) hx hb hts zj_X11_pour_X11 hown hK hW rfl rfl 6 (by decide) (hts (.fieldLink RX11 44 "PetrolBoard" "pours" "LPetrolBoard$Pours;") (me_s (me_l (me_l (me_l (me_l (me_l (me_l (me_l (List.mem_of_getElem? (i := 2) rfl)))))))))) (fun _ h => h) rfl dX11_pour_60 ?_
          refine z_get (T := TX8) (N := 9) (ci := 8) (i := 30) (v := .ref (ad 35)) hx hb hts zj_X11_pour_X8 hown hK hW rfl rfl 4 (by decide) (hts (.fieldLink RX11 189 "PetrolBoard$Pours" "tenths" "[I") (me_s (me_l (me_l (me_l (me_l (me_l (me_l (me_l (List.mem_of_getElem? (i := 4) rfl)))))))))) (fun _ h => h) rfl dX11_pour_63 ?_
          refine lv_iload hx hb dX11_pour_66 (lv_at hl 0 rfl) ?_
          refine lv_aload_n hx hb dX11_pour_68 rfl (lv_at hl 1 rfl) ?_
          refine z_get (T := TX11) (N := 13) (ci := 11) (i := 0) (v := .ref (ad 21)) hx hb hts zj_X11_pour_X11 hown hK hW rfl rfl 4 (by decide) (hts (.fieldLink RX11 30 "PetrolBoard" "orderBook" "LPetrolBoard$OrderBook;") (me_s (me_l (me_l (me_l (me_l (me_l (me_l (me_l (List.mem_of_getElem? (i := 5) rfl)))))))))) (fun _ h => h) rfl dX11_pour_69 ?_
          refine lv_iconst (v := 0) hx hb dX11_pour_72 (by decide) ?_
          refine lv_aload_n hx hb dX11_pour_73 rfl (lv_at hl 1 rfl) ?_
          have r23 : 0 ≤ (I11 0 0).toInt ∧ (I11 0 0).toInt ≤ 719 := k16
          refine z_get (T := TX11) (N := 13) (ci := 11) (i := 0) (v := .int (I11 0 0)) hx hb hts zj_X11_pour_X11 hown hK hW rfl rfl 0 (by decide) (hts (.fieldLink RX11 85 "PetrolBoard" "today" "I") (me_s (me_l (me_l (me_l (me_l (me_l (me_l (me_l (List.mem_of_getElem? (i := 3) rfl)))))))))) (fun _ h => h) rfl dX11_pour_74 ?_
          refine lv_bipush (v := 30) hx hb dX11_pour_77 (by decide) ?_
          refine lv_idiv hx hb dX11_pour_79 (by decide) ?_
          refine lv_topi (fun x24 ex24 => ?_)
          have tx24 := z_tdiv ex24 rfl z_l30 (by decide)
          refine lv_aload_n hx hb dX11_pour_80 rfl (lv_at hl 1 rfl) ?_
          refine z_get (T := TX11) (N := 13) (ci := 11) (i := 0) (v := .int (I11 0 0)) hx hb hts zj_X11_pour_X11 hown hK hW rfl rfl 0 (by decide) (hts (.fieldLink RX11 85 "PetrolBoard" "today" "I") (me_s (me_l (me_l (me_l (me_l (me_l (me_l (me_l (List.mem_of_getElem? (i := 3) rfl)))))))))) (fun _ h => h) rfl dX11_pour_81 ?_
          refine z_ci hW hS hA (va_runV (As := [.int 0, .int x24, .int (I11 0 0)]) (rest := [.int x19, .ref (ad 35)]) ⟨hx, hb, hml, hown, hts⟩ (sx_X6_amount l G ad c I11 (by show 0 ≤ (I11 21 2).toInt ∧ (I11 21 2).toInt ≤ 12; exact k13) 0 x24 (I11 0 0) hc _) (cwV 3 hts gX11_pour_X6_amount rfl rfl rfl hy_X6_amount ⟨Nat.le_of_ble_eq_true rfl, Nat.le_of_ble_eq_true rfl⟩) (z_preVS (i := 21) hK hW hS hA hSt rfl rfl) rfl rfl hl.1 rfl (lv_room (Nat.le_of_ble_eq_true rfl)) dX11_pour_84 ⟨Nat.le_of_ble_eq_true rfl, Nat.le_of_ble_eq_true rfl⟩) (fun r u1 H locs hp hW hS => ?_)
          rw [hp] at hW
          refine lv_topi (fun x25 ex25 => ?_)
          refine z_iast (i := 35) hx hb hK hW hS rfl (z_ix rfl (by omega) (by omega)) dX11_pour_87 (fun H locs hz1 hW hS => ?_)
          obtain ⟨I26, eI26⟩ : ∃ K : z_I, K = z_up I11 35 x19.toNatClampNeg x25 := ⟨_, rfl⟩
          rw [← eI26] at hW
          have f27 := z_fr_a f12 (show z_wa L_X11_pour 35 = true by decide) eI26
          refine lv_aload_n hx hb dX11_pour_88 rfl (lv_at hl 1 rfl) ?_
          refine z_get (T := TX11) (N := 13) (ci := 11) (i := 0) (v := .ref (ad 30)) hx hb hts zj_X11_pour_X11 hown hK hW rfl rfl 6 (by decide) (hts (.fieldLink RX11 44 "PetrolBoard" "pours" "LPetrolBoard$Pours;") (me_s (me_l (me_l (me_l (me_l (me_l (me_l (me_l (List.mem_of_getElem? (i := 2) rfl)))))))))) (fun _ h => h) rfl dX11_pour_89 ?_
          refine z_get (T := TX8) (N := 9) (ci := 8) (i := 30) (v := .ref (ad 37)) hx hb hts zj_X11_pour_X8 hown hK hW rfl rfl 6 (by decide) (hts (.fieldLink RX11 192 "PetrolBoard$Pours" "dyed" "[I") (me_s (me_l (me_l (me_l (me_l (me_l (me_l (me_l (List.mem_of_getElem? (i := 6) rfl)))))))))) (fun _ h => h) rfl dX11_pour_92 ?_
          refine lv_iload hx hb dX11_pour_95 (lv_at hl 0 rfl) ?_
          refine lv_aload_n hx hb dX11_pour_97 rfl (lv_at hl 1 rfl) ?_
          refine lv_iload_n hx hb dX11_pour_98 rfl (lv_at hl 3 rfl) ?_
          refine z_ci hW hS hA (va_runV (As := [.int a2]) (rest := [.int x19, .ref (ad 37)]) ⟨hx, hb, hml, hown, hts⟩ (sx_X11_isFarmerNow l G ad c I26 ⟨(by show 0 ≤ (I26 1 5).toInt ∧ (I26 1 5).toInt ≤ 30; rw [eI26, z_up_n (by decide)]; exact k14), (by show 0 ≤ (I26 1 11).toInt ∧ (I26 1 11).toInt ≤ 200; rw [eI26, z_up_n (by decide)]; exact k15)⟩ ⟨(by show 0 ≤ (I26 0 0).toInt ∧ (I26 0 0).toInt ≤ 719; rw [eI26, z_up_n (by decide)]; exact k16), (by show 0 ≤ (I26 0 8).toInt ∧ (I26 0 8).toInt ≤ 10; rw [eI26, z_up_n (by decide)]; exact k17)⟩ a2 hc h10 _) (cwV 1 hts gX11_pour_X11_isFarmerNow rfl rfl rfl hy_X11_isFarmerNow ⟨Nat.le_of_ble_eq_true rfl, Nat.le_of_ble_eq_true rfl⟩) (z_preV (i := 0) hK hW rfl rfl) rfl rfl hl.1 rfl (lv_room (Nat.le_of_ble_eq_true rfl)) dX11_pour_99 ⟨Nat.le_of_ble_eq_true rfl, Nat.le_of_ble_eq_true rfl⟩) (fun r u1 H locs hp hW hS => ?_)
          obtain ⟨e9, hp⟩ := hp
          rw [e9] at hW
          rcases hp with rfl | rfl
          · refine lv_if_eq (tgt := 109) hx hb dX11_pour_102 (by decide) (fun c28 => absurd c28 (by decide)) (fun c28 => ?_)
            refine lv_iconst (v := 1) hx hb dX11_pour_105 (by decide) ?_
            refine lv_goto (tgt := 110) hx hb dX11_pour_106 (by decide) ?_
            refine z_iast (i := 37) hx hb hK hW hS rfl (z_ix rfl (by omega) (by omega)) dX11_pour_110 (fun H locs hz1 hW hS => ?_)
            obtain ⟨I29, eI29⟩ : ∃ K : z_I, K = z_up I26 37 x19.toNatClampNeg 1 := ⟨_, rfl⟩
            rw [← eI29] at hW
            have f30 := z_fr_a f27 (show z_wa L_X11_pour 37 = true by decide) eI29
            refine lv_aload_n hx hb dX11_pour_111 rfl (lv_at hl 1 rfl) ?_
            refine z_get (T := TX11) (N := 13) (ci := 11) (i := 0) (v := .ref (ad 30)) hx hb hts zj_X11_pour_X11 hown hK hW rfl rfl 6 (by decide) (hts (.fieldLink RX11 44 "PetrolBoard" "pours" "LPetrolBoard$Pours;") (me_s (me_l (me_l (me_l (me_l (me_l (me_l (me_l (List.mem_of_getElem? (i := 2) rfl)))))))))) (fun _ h => h) rfl dX11_pour_112 ?_
            refine z_get (T := TX8) (N := 9) (ci := 8) (i := 30) (v := .ref (ad 38)) hx hb hts zj_X11_pour_X8 hown hK hW rfl rfl 7 (by decide) (hts (.fieldLink RX11 198 "PetrolBoard$Pours" "ownerThen" "[I") (me_s (me_l (me_l (me_l (me_l (me_l (me_l (me_l (List.mem_of_getElem? (i := 7) rfl)))))))))) (fun _ h => h) rfl dX11_pour_115 ?_
            refine lv_iload hx hb dX11_pour_118 (lv_at hl 0 rfl) ?_
            refine lv_aload_n hx hb dX11_pour_120 rfl (lv_at hl 1 rfl) ?_
            refine z_get (T := TX11) (N := 13) (ci := 11) (i := 0) (v := .ref (ad 26)) hx hb hts zj_X11_pour_X11 hown hK hW rfl rfl 5 (by decide) (hts (.fieldLink RX11 37 "PetrolBoard" "coupons" "LPetrolBoard$Coupons;") (me_s (me_l (me_l (me_l (me_l (me_l (me_l (me_l (List.mem_of_getElem? (i := 8) rfl)))))))))) (fun _ h => h) rfl dX11_pour_121 ?_
            refine lv_iload_n hx hb dX11_pour_124 rfl (lv_at hl 4 rfl) ?_
            refine z_ci hW hS hA (va_runV (As := [.int a3]) (rest := [.int x19, .ref (ad 38)]) ⟨hx, hb, hml, hown, hts⟩ (sx_X0_ownerOf l G ad c I29 (by show 0 ≤ (I29 26 4).toInt ∧ (I29 26 4).toInt ≤ 512; rw [eI29, z_up_n (by decide), eI26, z_up_n (by decide)]; exact k18) a3 _) (cwV 1 hts gX11_pour_X0_ownerOf rfl rfl rfl hy_X0_ownerOf ⟨Nat.le_of_ble_eq_true rfl, Nat.le_of_ble_eq_true rfl⟩) (z_preV (i := 26) hK hW rfl rfl) rfl rfl hl.1 rfl (lv_room (Nat.le_of_ble_eq_true rfl)) dX11_pour_125 ⟨Nat.le_of_ble_eq_true rfl, Nat.le_of_ble_eq_true rfl⟩) (fun r u1 H locs hp hW hS => ?_)
            rw [hp] at hW
            refine lv_topi (fun x31 ex31 => ?_)
            refine z_iast (i := 38) hx hb hK hW hS rfl (z_ix rfl (by omega) (by omega)) dX11_pour_128 (fun H locs hz1 hW hS => ?_)
            obtain ⟨I32, eI32⟩ : ∃ K : z_I, K = z_up I29 38 x19.toNatClampNeg x31 := ⟨_, rfl⟩
            rw [← eI32] at hW
            have f33 := z_fr_a f30 (show z_wa L_X11_pour 38 = true by decide) eI32
            refine lv_iload hx hb dX11_pour_129 (lv_at hl 0 rfl) ?_
            exact z_iret hx hb hr hK hS (Nat.le_of_ble_eq_true rfl) (Nat.le_of_ble_eq_true rfl) hlocks dX11_pour_131 (shC c, ad, I32, JX, PC c ad) hW ⟨I32, rfl, (by show 0 ≤ (I32 30 8).toInt ∧ (I32 30 8).toInt ≤ 300; rw [eI32, z_up_n (by decide), eI29, z_up_n (by decide), eI26, z_up_n (by decide)]; exact hI11P), (by show 0 ≤ (I32 21 2).toInt ∧ (I32 21 2).toInt ≤ 12; rw [eI32, z_up_n (by decide), eI29, z_up_n (by decide), eI26, z_up_n (by decide)]; exact k13), ⟨(by show 0 ≤ (I32 1 5).toInt ∧ (I32 1 5).toInt ≤ 30; rw [eI32, z_up_n (by decide), eI29, z_up_n (by decide), eI26, z_up_n (by decide)]; exact k14), (by show 0 ≤ (I32 1 11).toInt ∧ (I32 1 11).toInt ≤ 200; rw [eI32, z_up_n (by decide), eI29, z_up_n (by decide), eI26, z_up_n (by decide)]; exact k15)⟩, ⟨(by show 0 ≤ (I32 0 0).toInt ∧ (I32 0 0).toInt ≤ 719; rw [eI32, z_up_n (by decide), eI29, z_up_n (by decide), eI26, z_up_n (by decide)]; exact k16), (by show 0 ≤ (I32 0 8).toInt ∧ (I32 0 8).toInt ≤ 10; rw [eI32, z_up_n (by decide), eI29, z_up_n (by decide), eI26, z_up_n (by decide)]; exact k17)⟩, (by show 0 ≤ (I32 26 4).toInt ∧ (I32 26 4).toInt ≤ 512; rw [eI32, z_up_n (by decide), eI29, z_up_n (by decide), eI26, z_up_n (by decide)]; exact k18), f33⟩
          · refine lv_if_eq (tgt := 109) hx hb dX11_pour_102 (by decide) (fun c34 => ?_) (fun c34 => absurd (by decide) c34)
            refine lv_iconst (v := 0) hx hb dX11_pour_109 (by decide) ?_
            refine z_iast (i := 37) hx hb hK hW hS rfl (z_ix rfl (by omega) (by omega)) dX11_pour_110 (fun H locs hz1 hW hS => ?_)
            obtain ⟨I35, eI35⟩ : ∃ K : z_I, K = z_up I26 37 x19.toNatClampNeg 0 := ⟨_, rfl⟩
            rw [← eI35] at hW
            have f36 := z_fr_a f27 (show z_wa L_X11_pour 37 = true by decide) eI35
            refine lv_aload_n hx hb dX11_pour_111 rfl (lv_at hl 1 rfl) ?_
            refine z_get (T := TX11) (N := 13) (ci := 11) (i := 0) (v := .ref (ad 30)) hx hb hts zj_X11_pour_X11 hown hK hW rfl rfl 6 (by decide) (hts (.fieldLink RX11 44 "PetrolBoard" "pours" "LPetrolBoard$Pours;") (me_s (me_l (me_l (me_l (me_l (me_l (me_l (me_l (List.mem_of_getElem? (i := 2) rfl)))))))))) (fun _ h => h) rfl dX11_pour_112 ?_
            refine z_get (T := TX8) (N := 9) (ci := 8) (i := 30) (v := .ref (ad 38)) hx hb hts zj_X11_pour_X8 hown hK hW rfl rfl 7 (by decide) (hts (.fieldLink RX11 198 "PetrolBoard$Pours" "ownerThen" "[I") (me_s (me_l (me_l (me_l (me_l (me_l (me_l (me_l (List.mem_of_getElem? (i := 7) rfl)))))))))) (fun _ h => h) rfl dX11_pour_115 ?_
            refine lv_iload hx hb dX11_pour_118 (lv_at hl 0 rfl) ?_
            refine lv_aload_n hx hb dX11_pour_120 rfl (lv_at hl 1 rfl) ?_
            refine z_get (T := TX11) (N := 13) (ci := 11) (i := 0) (v := .ref (ad 26)) hx hb hts zj_X11_pour_X11 hown hK hW rfl rfl 5 (by decide) (hts (.fieldLink RX11 37 "PetrolBoard" "coupons" "LPetrolBoard$Coupons;") (me_s (me_l (me_l (me_l (me_l (me_l (me_l (me_l (List.mem_of_getElem? (i := 8) rfl)))))))))) (fun _ h => h) rfl dX11_pour_121 ?_
            refine lv_iload_n hx hb dX11_pour_124 rfl (lv_at hl 4 rfl) ?_
            refine z_ci hW hS hA (va_runV (As := [.int a3]) (rest := [.int x19, .ref (ad 38)]) ⟨hx, hb, hml, hown, hts⟩ (sx_X0_ownerOf l G ad c I35 (by show 0 ≤ (I35 26 4).toInt ∧ (I35 26 4).toInt ≤ 512; rw [eI35, z_up_n (by decide), eI26, z_up_n (by decide)]; exact k18) a3 _) (cwV 1 hts gX11_pour_X0_ownerOf rfl rfl rfl hy_X0_ownerOf ⟨Nat.le_of_ble_eq_true rfl, Nat.le_of_ble_eq_true rfl⟩) (z_preV (i := 26) hK hW rfl rfl) rfl rfl hl.1 rfl (lv_room (Nat.le_of_ble_eq_true rfl)) dX11_pour_125 ⟨Nat.le_of_ble_eq_true rfl, Nat.le_of_ble_eq_true rfl⟩) (fun r u1 H locs hp hW hS => ?_)
            rw [hp] at hW
            refine lv_topi (fun x37 ex37 => ?_)
            refine z_iast (i := 38) hx hb hK hW hS rfl (z_ix rfl (by omega) (by omega)) dX11_pour_128 (fun H locs hz1 hW hS => ?_)
            obtain ⟨I38, eI38⟩ : ∃ K : z_I, K = z_up I35 38 x19.toNatClampNeg x37 := ⟨_, rfl⟩
            rw [← eI38] at hW
            have f39 := z_fr_a f36 (show z_wa L_X11_pour 38 = true by decide) eI38
            refine lv_iload hx hb dX11_pour_129 (lv_at hl 0 rfl) ?_
            exact z_iret hx hb hr hK hS (Nat.le_of_ble_eq_true rfl) (Nat.le_of_ble_eq_true rfl) hlocks dX11_pour_131 (shC c, ad, I38, JX, PC c ad) hW ⟨I38, rfl, (by show 0 ≤ (I38 30 8).toInt ∧ (I38 30 8).toInt ≤ 300; rw [eI38, z_up_n (by decide), eI35, z_up_n (by decide), eI26, z_up_n (by decide)]; exact hI11P), (by show 0 ≤ (I38 21 2).toInt ∧ (I38 21 2).toInt ≤ 12; rw [eI38, z_up_n (by decide), eI35, z_up_n (by decide), eI26, z_up_n (by decide)]; exact k13), ⟨(by show 0 ≤ (I38 1 5).toInt ∧ (I38 1 5).toInt ≤ 30; rw [eI38, z_up_n (by decide), eI35, z_up_n (by decide), eI26, z_up_n (by decide)]; exact k14), (by show 0 ≤ (I38 1 11).toInt ∧ (I38 1 11).toInt ≤ 200; rw [eI38, z_up_n (by decide), eI35, z_up_n (by decide), eI26, z_up_n (by decide)]; exact k15)⟩, ⟨(by show 0 ≤ (I38 0 0).toInt ∧ (I38 0 0).toInt ≤ 719; rw [eI38, z_up_n (by decide), eI35, z_up_n (by decide), eI26, z_up_n (by decide)]; exact k16), (by show 0 ≤ (I38 0 8).toInt ∧ (I38 0 8).toInt ≤ 10; rw [eI38, z_up_n (by decide), eI35, z_up_n (by decide), eI26, z_up_n (by decide)]; exact k17)⟩, (by show 0 ≤ (I38 26 4).toInt ∧ (I38 26 4).toInt ≤ 512; rw [eI38, z_up_n (by decide), eI35, z_up_n (by decide), eI26, z_up_n (by decide)]; exact k18), f39⟩
        · refine lv_if_eq (tgt := 129) hx hb dX11_pour_56 (by decide) (fun c40 => ?_) (fun c40 => absurd (by decide) c40)
          refine lv_iload hx hb dX11_pour_129 (lv_at hl 0 rfl) ?_
          exact z_iret hx hb hr hK hS (Nat.le_of_ble_eq_true rfl) (Nat.le_of_ble_eq_true rfl) hlocks dX11_pour_131 (shC c, ad, I11, JX, PC c ad) hW ⟨I11, rfl, (by show 0 ≤ (I11 30 8).toInt ∧ (I11 30 8).toInt ≤ 300; exact hI11P), (by show 0 ≤ (I11 21 2).toInt ∧ (I11 21 2).toInt ≤ 12; exact k13), ⟨(by show 0 ≤ (I11 1 5).toInt ∧ (I11 1 5).toInt ≤ 30; exact k14), (by show 0 ≤ (I11 1 11).toInt ∧ (I11 1 11).toInt ≤ 200; exact k15)⟩, ⟨(by show 0 ≤ (I11 0 0).toInt ∧ (I11 0 0).toInt ≤ 719; exact k16), (by show 0 ≤ (I11 0 8).toInt ∧ (I11 0 8).toInt ≤ 10; exact k17)⟩, (by show 0 ≤ (I11 26 4).toInt ∧ (I11 26 4).toInt ≤ 512; exact k18), f12⟩
      · refine lv_if_ne (tgt := 31) hx hb dX11_pour_26 (by decide) (fun c41 => absurd (by decide) c41) (fun c41 => ?_)
        refine lv_iconst (v := (-1)) hx hb dX11_pour_29 (by decide) ?_
        exact z_iret hx hb hr hK hS (Nat.le_of_ble_eq_true rfl) (Nat.le_of_ble_eq_true rfl) hlocks dX11_pour_30 (shC c, ad, I, JX, PC c ad) hW ⟨I, rfl, (by show 0 ≤ (I 30 8).toInt ∧ (I 30 8).toInt ≤ 300; exact hP), (by show 0 ≤ (I 21 2).toInt ∧ (I 21 2).toInt ≤ 12; exact hO), ⟨(by show 0 ≤ (I 1 5).toInt ∧ (I 1 5).toInt ≤ 30; exact hH.1), (by show 0 ≤ (I 1 11).toInt ∧ (I 1 11).toInt ≤ 200; exact hH.2)⟩, ⟨(by show 0 ≤ (I 0 0).toInt ∧ (I 0 0).toInt ≤ 719; exact hB.1), (by show 0 ≤ (I 0 8).toInt ∧ (I 0 8).toInt ≤ 10; exact hB.2)⟩, (by show 0 ≤ (I 26 4).toInt ∧ (I 26 4).toInt ≤ 512; exact hC), z_fr_0⟩
    · refine lv_if_eq (tgt := 29) hx hb dX11_pour_16 (by decide) (fun c42 => ?_) (fun c42 => absurd (by decide) c42)
      refine lv_iconst (v := (-1)) hx hb dX11_pour_29 (by decide) ?_
      exact z_iret hx hb hr hK hS (Nat.le_of_ble_eq_true rfl) (Nat.le_of_ble_eq_true rfl) hlocks dX11_pour_30 (shC c, ad, I, JX, PC c ad) hW ⟨I, rfl, (by show 0 ≤ (I 30 8).toInt ∧ (I 30 8).toInt ≤ 300; exact hP), (by show 0 ≤ (I 21 2).toInt ∧ (I 21 2).toInt ≤ 12; exact hO), ⟨(by show 0 ≤ (I 1 5).toInt ∧ (I 1 5).toInt ≤ 30; exact hH.1), (by show 0 ≤ (I 1 11).toInt ∧ (I 1 11).toInt ≤ 200; exact hH.2)⟩, ⟨(by show 0 ≤ (I 0 0).toInt ∧ (I 0 0).toInt ≤ 719; exact hB.1), (by show 0 ≤ (I 0 8).toInt ∧ (I 0 8).toInt ≤ 10; exact hB.2)⟩, (by show 0 ≤ (I 26 4).toInt ∧ (I 26 4).toInt ≤ 512; exact hC), z_fr_0⟩
  · refine lv_if_eq (tgt := 29) hx hb dX11_pour_5 (by decide) (fun c43 => ?_) (fun c43 => absurd (by decide) c43)
    refine lv_iconst (v := (-1)) hx hb dX11_pour_29 (by decide) ?_
    exact z_iret hx hb hr hK hS (Nat.le_of_ble_eq_true rfl) (Nat.le_of_ble_eq_true rfl) hlocks dX11_pour_30 (shC c, ad, I, JX, PC c ad) hW ⟨I, rfl, (by show 0 ≤ (I 30 8).toInt ∧ (I 30 8).toInt ≤ 300; exact hP), (by show 0 ≤ (I 21 2).toInt ∧ (I 21 2).toInt ≤ 12; exact hO), ⟨(by show 0 ≤ (I 1 5).toInt ∧ (I 1 5).toInt ≤ 30; exact hH.1), (by show 0 ≤ (I 1 11).toInt ∧ (I 1 11).toInt ≤ 200; exact hH.2)⟩, ⟨(by show 0 ≤ (I 0 0).toInt ∧ (I 0 0).toInt ≤ 719; exact hB.1), (by show 0 ≤ (I 0 8).toInt ∧ (I 0 8).toInt ≤ 10; exact hB.2)⟩, (by show 0 ≤ (I 26 4).toInt ∧ (I 26 4).toInt ≤ 512; exact hC), z_fr_0⟩
theorem zj_X11_verdictOn_X8 : ∀ w ∈ wsX80, w ∈ wsX11_verdictOn := fun w h => (List.mem_cons_of_mem _ (List.mem_append_left _ (List.mem_append_left _ (List.mem_append_left _ (List.mem_append_right _ h)))))
theorem zj_X11_verdictOn_X11 : ∀ w ∈ wsX110, w ∈ wsX11_verdictOn := fun w h => (List.mem_cons_of_mem _ (List.mem_append_left _ (List.mem_append_left _ (List.mem_append_left _ (List.mem_append_left _ (List.mem_append_right _ h))))))
set_option maxHeartbeats 8000000 in
set_option maxRecDepth 100000 in
theorem sx_X11_verdictOn (l : Launch) (G : z_G) (ad : Nat → Nat) (c : z_C) (I : z_I) (hP : z_iP I) (hO : z_iO I) (a1 : Int32) (hc : z_okc c) (h10 : c.1 ≤ 10) : z_MS l yX11_verdictOn wsX11_verdictOn { frames := 4, cells := 0, slots := 0, locals := 86 } [.ref (ad 0), .int a1] G (shC c, ad, I, JX, PC c ad) (fun r u1 => u1 = (shC c, ad, I, JX, PC c ad)) 0 0 := by
  intro sz
  refine z_headS (cc := cX11_verdictOn) (maxL := 5) (ret := (some .int)) (by decide) rfl (Nat.le_of_ble_eq_true rfl) ?_
  intro p e s m below meth c0 ls hIn hK hsz hW hl hSt
  obtain ⟨hx, hb, hr, hml, hown, hts, hlocks, hname⟩ := hIn
  subst hsz
  have hown : s.vm.findClass RX11 = some m.cls := hown
  have hA : ∀ q : Nat, s.heap.size ≤ q → z_A (shC c, ad, I, JX, PC c ad) s.heap.size q := fun q h => Or.inr h
  generalize hAe : z_A (shC c, ad, I, JX, PC c ad) s.heap.size = A at *
  have hS : va_S A s.heap s.heap [] := va_S.rf
  have hl : lv_has ls 5 [(0, .ref (ad 0)), (1, .int a1)] := hl
  refine lv_aload_n hx hb dX11_verdictOn_0 rfl (lv_at hl 0 rfl) ?_
  refine z_get (T := TX11) (N := 13) (ci := 11) (i := 0) (v := .ref (ad 30)) hx hb hts zj_X11_verdictOn_X11 hown hK hW rfl rfl 6 (by decide) (hts (.fieldLink RX11 44 "PetrolBoard" "pours" "LPetrolBoard$Pours;") (me_s (me_l (me_l (me_l (me_l (me_l (me_l (List.mem_of_getElem? (i := 0) rfl))))))))) (fun _ h => h) rfl dX11_verdictOn_1 ?_
  refine lv_iload_n hx hb dX11_verdictOn_4 rfl (lv_at hl 1 rfl) ?_
  refine z_ci hW hS hA (va_runV (As := [.int a1]) (rest := []) ⟨hx, hb, hml, hown, hts⟩ (sx_X8_has l G ad c I (by show 0 ≤ (I 30 8).toInt ∧ (I 30 8).toInt ≤ 300; exact hP) a1 _) (cwV 1 hts gX11_verdictOn_X8_has rfl rfl rfl hy_X8_has ⟨Nat.le_of_ble_eq_true rfl, Nat.le_of_ble_eq_true rfl⟩) (z_preV (i := 30) hK hW rfl rfl) rfl rfl hl.1 rfl (lv_room (Nat.le_of_ble_eq_true rfl)) dX11_verdictOn_5 ⟨Nat.le_of_ble_eq_true rfl, Nat.le_of_ble_eq_true rfl⟩) (fun r u1 H locs hp hW hS => ?_)
  obtain ⟨e9, hp⟩ := hp
  rw [e9] at hW
  rcases hp with ⟨rfl, h1, h2⟩ | rfl
  · refine lv_if_ne (tgt := 13) hx hb dX11_verdictOn_8 (by decide) (fun c3 => ?_) (fun c3 => absurd c3 (by decide))
    refine lv_aload_n hx hb dX11_verdictOn_13 rfl (lv_at hl 0 rfl) ?_
    refine z_get (T := TX11) (N := 13) (ci := 11) (i := 0) (v := .ref (ad 30)) hx hb hts zj_X11_verdictOn_X11 hown hK hW rfl rfl 6 (by decide) (hts (.fieldLink RX11 44 "PetrolBoard" "pours" "LPetrolBoard$Pours;") (me_s (me_l (me_l (me_l (me_l (me_l (me_l (List.mem_of_getElem? (i := 0) rfl))))))))) (fun _ h => h) rfl dX11_verdictOn_14 ?_
    refine z_get (T := TX8) (N := 9) (ci := 8) (i := 30) (v := .ref (ad 33)) hx hb hts zj_X11_verdictOn_X8 hown hK hW rfl rfl 2 (by decide) (hts (.fieldLink RX11 211 "PetrolBoard$Pours" "coupon" "[I") (me_s (me_l (me_l (me_l (me_l (me_l (me_l (List.mem_of_getElem? (i := 1) rfl))))))))) (fun _ h => h) rfl dX11_verdictOn_17 ?_
    refine lv_iload_n hx hb dX11_verdictOn_20 rfl (lv_at hl 1 rfl) ?_
    refine z_iald (i := 33) hx hb hK hW rfl (z_ix rfl (by omega) (by omega)) dX11_verdictOn_21 ?_
    refine lv_topi (fun x4 ex4 => ?_)
    refine lv_istore_n (lv' := [(2, .int x4), (0, .ref (ad 0)), (1, .int a1)]) hx hb dX11_verdictOn_22 rfl hl (by decide) rfl (fun ls hl => ?_)
    refine lv_aload_n hx hb dX11_verdictOn_23 rfl (lv_at hl 1 rfl) ?_
    refine z_get (T := TX11) (N := 13) (ci := 11) (i := 0) (v := .ref (ad 26)) hx hb hts zj_X11_verdictOn_X11 hown hK hW rfl rfl 5 (by decide) (hts (.fieldLink RX11 37 "PetrolBoard" "coupons" "LPetrolBoard$Coupons;") (me_s (me_l (me_l (me_l (me_l (me_l (me_l (List.mem_of_getElem? (i := 2) rfl))))))))) (fun _ h => h) rfl dX11_verdictOn_24 ?_
    refine lv_iload_n hx hb dX11_verdictOn_27 rfl (lv_at hl 0 rfl) ?_
    refine z_ci hW hS hA (va_runV (As := [.int x4]) (rest := []) ⟨hx, hb, hml, hown, hts⟩ (sx_X0_has l G ad c I  x4 _) (cwV 1 hts gX11_verdictOn_X0_has rfl rfl rfl hy_X0_has ⟨Nat.le_of_ble_eq_true rfl, Nat.le_of_ble_eq_true rfl⟩) (z_preV (i := 26) hK hW rfl rfl) rfl rfl hl.1 rfl (lv_room (Nat.le_of_ble_eq_true rfl)) dX11_verdictOn_28 ⟨Nat.le_of_ble_eq_true rfl, Nat.le_of_ble_eq_true rfl⟩) (fun r u1 H locs hp hW hS => ?_)
    obtain ⟨e9, hp⟩ := hp
    rw [e9] at hW
    rcases hp with rfl | rfl
    · refine lv_if_ne (tgt := 36) hx hb dX11_verdictOn_31 (by decide) (fun c5 => ?_) (fun c5 => absurd c5 (by decide))
      refine lv_aload_n hx hb dX11_verdictOn_36 rfl (lv_at hl 1 rfl) ?_
      refine z_get (T := TX11) (N := 13) (ci := 11) (i := 0) (v := .ref (ad 30)) hx hb hts zj_X11_verdictOn_X11 hown hK hW rfl rfl 6 (by decide) (hts (.fieldLink RX11 44 "PetrolBoard" "pours" "LPetrolBoard$Pours;") (me_s (me_l (me_l (me_l (me_l (me_l (me_l (List.mem_of_getElem? (i := 0) rfl))))))))) (fun _ h => h) rfl dX11_verdictOn_37 ?_
      refine lv_iload_n hx hb dX11_verdictOn_40 rfl (lv_at hl 0 rfl) ?_
      refine z_ci hW hS hA (va_runV (As := [.int x4]) (rest := []) ⟨hx, hb, hml, hown, hts⟩ (sx_X8_wasHandedIn l G ad c I (by show 0 ≤ (I 30 8).toInt ∧ (I 30 8).toInt ≤ 300; exact hP) x4 _) (cwV 1 hts gX11_verdictOn_X8_wasHandedIn rfl rfl rfl hy_X8_wasHandedIn ⟨Nat.le_of_ble_eq_true rfl, Nat.le_of_ble_eq_true rfl⟩) (z_preV (i := 30) hK hW rfl rfl) rfl rfl hl.1 rfl (lv_room (Nat.le_of_ble_eq_true rfl)) dX11_verdictOn_41 ⟨Nat.le_of_ble_eq_true rfl, Nat.le_of_ble_eq_true rfl⟩) (fun r u1 H locs hp hW hS => ?_)
      obtain ⟨e9, hp⟩ := hp
      rw [e9] at hW
      rcases hp with rfl | rfl
      · refine lv_if_eq (tgt := 49) hx hb dX11_verdictOn_44 (by decide) (fun c6 => absurd c6 (by decide)) (fun c6 => ?_)
        refine lv_iconst (v := 2) hx hb dX11_verdictOn_47 (by decide) ?_
        exact z_iret hx hb hr hK hS (Nat.le_of_ble_eq_true rfl) (Nat.le_of_ble_eq_true rfl) hlocks dX11_verdictOn_48 (shC c, ad, I, JX, PC c ad) hW rfl
      · refine lv_if_eq (tgt := 49) hx hb dX11_verdictOn_44 (by decide) (fun c7 => ?_) (fun c7 => absurd (by decide) c7)
        refine lv_iload_n hx hb dX11_verdictOn_49 rfl (lv_at hl 0 rfl) ?_
        refine z_ci hW hS hA (va_runS (As := [.int x4]) (rest := []) ⟨hx, hb, hml, hown, hts⟩ (sx_X0_monthOf l G ad c I  x4 _) (va_cwS 1 hts gX11_verdictOn_X0_monthOf rfl rfl rfl hy_X0_monthOf.2 ⟨Nat.le_of_ble_eq_true rfl, Nat.le_of_ble_eq_true rfl⟩) (z_preS hK hW) rfl rfl hl.1 rfl (lv_room (Nat.le_of_ble_eq_true rfl)) dX11_verdictOn_50 ⟨Nat.le_of_ble_eq_true rfl, Nat.le_of_ble_eq_true rfl⟩) (fun r u1 H locs hp hW hS => ?_)
        rw [hp] at hW
        refine lv_topi (fun x8 ex8 => ?_)
        refine lv_istore_n (lv' := [(3, .int x8), (2, .int x4), (0, .ref (ad 0)), (1, .int a1)]) hx hb dX11_verdictOn_53 rfl hl (by decide) rfl (fun ls hl => ?_)
        refine lv_aload_n hx hb dX11_verdictOn_54 rfl (lv_at hl 2 rfl) ?_
        refine z_get (T := TX11) (N := 13) (ci := 11) (i := 0) (v := .ref (ad 30)) hx hb hts zj_X11_verdictOn_X11 hown hK hW rfl rfl 6 (by decide) (hts (.fieldLink RX11 44 "PetrolBoard" "pours" "LPetrolBoard$Pours;") (me_s (me_l (me_l (me_l (me_l (me_l (me_l (List.mem_of_getElem? (i := 0) rfl))))))))) (fun _ h => h) rfl dX11_verdictOn_55 ?_
        refine z_get (T := TX8) (N := 9) (ci := 8) (i := 30) (v := .ref (ad 34)) hx hb hts zj_X11_verdictOn_X8 hown hK hW rfl rfl 3 (by decide) (hts (.fieldLink RX11 214 "PetrolBoard$Pours" "day" "[I") (me_s (me_l (me_l (me_l (me_l (me_l (me_l (List.mem_of_getElem? (i := 3) rfl))))))))) (fun _ h => h) rfl dX11_verdictOn_58 ?_
        refine lv_iload_n hx hb dX11_verdictOn_61 rfl (lv_at hl 3 rfl) ?_
        refine z_iald (i := 34) hx hb hK hW rfl (z_ix rfl (by omega) (by omega)) dX11_verdictOn_62 ?_
        refine lv_topi (fun x9 ex9 => ?_)
        refine lv_bipush (v := 30) hx hb dX11_verdictOn_63 (by decide) ?_
        refine lv_idiv hx hb dX11_verdictOn_65 (by decide) ?_
        refine lv_topi (fun x10 ex10 => ?_)
        have tx10 := z_tdiv ex10 rfl z_l30 (by decide)
        refine lv_istore (lv' := [(4, .int x10), (3, .int x8), (2, .int x4), (0, .ref (ad 0)), (1, .int a1)]) hx hb dX11_verdictOn_66 hl (by decide) rfl (fun ls hl => ?_)
        refine lv_iload hx hb dX11_verdictOn_68 (lv_at hl 0 rfl) ?_
        refine lv_iload_n hx hb dX11_verdictOn_70 rfl (lv_at hl 1 rfl) ?_
        refine lv_icmp_lt (tgt := 99) hx hb dX11_verdictOn_71 (by decide) (fun c11 => ?_) (fun c11 => ?_)
        · have g12 := z_f_lt rfl rfl c11
          have b13 := Int32.toInt_lt x10
          have b14 := Int32.toInt_lt x8
          refine lv_iconst (v := 3) hx hb dX11_verdictOn_99 (by decide) ?_
          exact z_iret hx hb hr hK hS (Nat.le_of_ble_eq_true rfl) (Nat.le_of_ble_eq_true rfl) hlocks dX11_verdictOn_100 (shC c, ad, I, JX, PC c ad) hW rfl
        · have g15 := z_f_nlt rfl rfl c11
          have b16 := Int32.toInt_lt x10
          have b17 := Int32.toInt_lt x8
          refine lv_iload hx hb dX11_verdictOn_74 (lv_at hl 0 rfl) ?_
          refine lv_iload_n hx hb dX11_verdictOn_76 rfl (lv_at hl 1 rfl) ?_
          refine lv_aload_n hx hb dX11_verdictOn_77 rfl (lv_at hl 3 rfl) ?_
          refine z_get (T := TX11) (N := 13) (ci := 11) (i := 0) (v := .ref (ad 21)) hx hb hts zj_X11_verdictOn_X11 hown hK hW rfl rfl 4 (by decide) (hts (.fieldLink RX11 30 "PetrolBoard" "orderBook" "LPetrolBoard$OrderBook;") (me_s (me_l (me_l (me_l (me_l (me_l (me_l (List.mem_of_getElem? (i := 4) rfl))))))))) (fun _ h => h) rfl dX11_verdictOn_78 ?_
          refine lv_iconst (v := 1) hx hb dX11_verdictOn_81 (by decide) ?_
          refine lv_iload_n hx hb dX11_verdictOn_82 rfl (lv_at hl 1 rfl) ?_
          refine lv_aload_n hx hb dX11_verdictOn_83 rfl (lv_at hl 3 rfl) ?_
          refine z_get (T := TX11) (N := 13) (ci := 11) (i := 0) (v := .ref (ad 30)) hx hb hts zj_X11_verdictOn_X11 hown hK hW rfl rfl 6 (by decide) (hts (.fieldLink RX11 44 "PetrolBoard" "pours" "LPetrolBoard$Pours;") (me_s (me_l (me_l (me_l (me_l (me_l (me_l (List.mem_of_getElem? (i := 0) rfl))))))))) (fun _ h => h) rfl dX11_verdictOn_84 ?_
          refine z_get (T := TX8) (N := 9) (ci := 8) (i := 30) (v := .ref (ad 34)) hx hb hts zj_X11_verdictOn_X8 hown hK hW rfl rfl 3 (by decide) (hts (.fieldLink RX11 214 "PetrolBoard$Pours" "day" "[I") (me_s (me_l (me_l (me_l (me_l (me_l (me_l (List.mem_of_getElem? (i := 3) rfl))))))))) (fun _ h => h) rfl dX11_verdictOn_87 ?_
          refine lv_iload_n hx hb dX11_verdictOn_90 rfl (lv_at hl 4 rfl) ?_
          refine z_iald (i := 34) hx hb hK hW rfl (z_ix rfl (by omega) (by omega)) dX11_verdictOn_91 ?_
          refine z_topi (v := x9) ex9.symm ?_
          refine z_ci hW hS hA (va_runV (As := [.int 1, .int x8, .int x9]) (rest := [.int x8, .int x10]) ⟨hx, hb, hml, hown, hts⟩ (sx_X6_amount l G ad c I (by show 0 ≤ (I 21 2).toInt ∧ (I 21 2).toInt ≤ 12; exact hO) 1 x8 x9 hc _) (cwV 3 hts gX11_verdictOn_X6_amount rfl rfl rfl hy_X6_amount ⟨Nat.le_of_ble_eq_true rfl, Nat.le_of_ble_eq_true rfl⟩) (z_preVS (i := 21) hK hW hS hA hSt rfl rfl) rfl rfl hl.1 rfl (lv_room (Nat.le_of_ble_eq_true rfl)) dX11_verdictOn_92 ⟨Nat.le_of_ble_eq_true rfl, Nat.le_of_ble_eq_true rfl⟩) (fun r u1 H locs hp hW hS => ?_)
          rw [hp] at hW
          refine lv_topi (fun x18 ex18 => ?_)
          refine lv_iadd hx hb dX11_verdictOn_95 ?_
          refine lv_topi (fun x19 ex19 => ?_)
          refine lv_icmp_le (tgt := 101) hx hb dX11_verdictOn_96 (by decide) (fun c20 => ?_) (fun c20 => ?_)
          · have g21 := z_f_le rfl rfl c20
            have b22 := Int32.toInt_lt x19
            refine lv_aload_n hx hb dX11_verdictOn_101 rfl (lv_at hl 3 rfl) ?_
            refine z_get (T := TX11) (N := 13) (ci := 11) (i := 0) (v := .ref (ad 30)) hx hb hts zj_X11_verdictOn_X11 hown hK hW rfl rfl 6 (by decide) (hts (.fieldLink RX11 44 "PetrolBoard" "pours" "LPetrolBoard$Pours;") (me_s (me_l (me_l (me_l (me_l (me_l (me_l (List.mem_of_getElem? (i := 0) rfl))))))))) (fun _ h => h) rfl dX11_verdictOn_102 ?_
            refine z_get (T := TX8) (N := 9) (ci := 8) (i := 30) (v := .ref (ad 38)) hx hb hts zj_X11_verdictOn_X8 hown hK hW rfl rfl 7 (by decide) (hts (.fieldLink RX11 198 "PetrolBoard$Pours" "ownerThen" "[I") (me_s (me_l (me_l (me_l (me_l (me_l (me_l (List.mem_of_getElem? (i := 5) rfl))))))))) (fun _ h => h) rfl dX11_verdictOn_105 ?_
            refine lv_iload_n hx hb dX11_verdictOn_108 rfl (lv_at hl 4 rfl) ?_
            refine z_iald (i := 38) hx hb hK hW rfl (z_ix rfl (by omega) (by omega)) dX11_verdictOn_109 ?_
            refine lv_topi (fun x23 ex23 => ?_)
            refine lv_aload_n hx hb dX11_verdictOn_110 rfl (lv_at hl 3 rfl) ?_
            refine z_get (T := TX11) (N := 13) (ci := 11) (i := 0) (v := .ref (ad 30)) hx hb hts zj_X11_verdictOn_X11 hown hK hW rfl rfl 6 (by decide) (hts (.fieldLink RX11 44 "PetrolBoard" "pours" "LPetrolBoard$Pours;") (me_s (me_l (me_l (me_l (me_l (me_l (me_l (List.mem_of_getElem? (i := 0) rfl))))))))) (fun _ h => h) rfl dX11_verdictOn_111 ?_
            refine z_get (T := TX8) (N := 9) (ci := 8) (i := 30) (v := .ref (ad 32)) hx hb hts zj_X11_verdictOn_X8 hown hK hW rfl rfl 1 (by decide) (hts (.fieldLink RX11 217 "PetrolBoard$Pours" "holder" "[I") (me_s (me_l (me_l (me_l (me_l (me_l (me_l (List.mem_of_getElem? (i := 6) rfl))))))))) (fun _ h => h) rfl dX11_verdictOn_114 ?_
            refine lv_iload_n hx hb dX11_verdictOn_117 rfl (lv_at hl 4 rfl) ?_
            refine z_iald (i := 32) hx hb hK hW rfl (z_ix rfl (by omega) (by omega)) dX11_verdictOn_118 ?_
            refine lv_topi (fun x24 ex24 => ?_)
            refine lv_icmp_ne (tgt := 126) hx hb dX11_verdictOn_119 (by decide) (fun c25 => ?_) (fun c25 => ?_)
            · have g26 := z_f_ne rfl rfl c25
              have b27 := Int32.toInt_lt x23
              have b28 := Int32.toInt_lt x24
              refine lv_iconst (v := 4) hx hb dX11_verdictOn_126 (by decide) ?_
              exact z_iret hx hb hr hK hS (Nat.le_of_ble_eq_true rfl) (Nat.le_of_ble_eq_true rfl) hlocks dX11_verdictOn_127 (shC c, ad, I, JX, PC c ad) hW rfl
            · have g29 := z_f_eq rfl rfl c25
              have b30 := Int32.toInt_lt x23
              have b31 := Int32.toInt_lt x24
              refine lv_iconst (v := 0) hx hb dX11_verdictOn_122 (by decide) ?_
              refine lv_goto (tgt := 127) hx hb dX11_verdictOn_123 (by decide) ?_
              exact z_iret hx hb hr hK hS (Nat.le_of_ble_eq_true rfl) (Nat.le_of_ble_eq_true rfl) hlocks dX11_verdictOn_127 (shC c, ad, I, JX, PC c ad) hW rfl
          · have g32 := z_f_nle rfl rfl c20
            have b33 := Int32.toInt_lt x19
            refine lv_iconst (v := 3) hx hb dX11_verdictOn_99 (by decide) ?_
            exact z_iret hx hb hr hK hS (Nat.le_of_ble_eq_true rfl) (Nat.le_of_ble_eq_true rfl) hlocks dX11_verdictOn_100 (shC c, ad, I, JX, PC c ad) hW rfl
    · refine lv_if_ne (tgt := 36) hx hb dX11_verdictOn_31 (by decide) (fun c34 => absurd (by decide) c34) (fun c34 => ?_)
      refine lv_iconst (v := 1) hx hb dX11_verdictOn_34 (by decide) ?_
      exact z_iret hx hb hr hK hS (Nat.le_of_ble_eq_true rfl) (Nat.le_of_ble_eq_true rfl) hlocks dX11_verdictOn_35 (shC c, ad, I, JX, PC c ad) hW rfl
  · refine lv_if_ne (tgt := 13) hx hb dX11_verdictOn_8 (by decide) (fun c35 => absurd (by decide) c35) (fun c35 => ?_)
    refine lv_iconst (v := (-1)) hx hb dX11_verdictOn_11 (by decide) ?_
    exact z_iret hx hb hr hK hS (Nat.le_of_ble_eq_true rfl) (Nat.le_of_ble_eq_true rfl) hlocks dX11_verdictOn_12 (shC c, ad, I, JX, PC c ad) hW rfl
noncomputable def L_X11_handIn : z_L := [(36, 999)]
theorem zj_X11_handIn_X8 : ∀ w ∈ wsX80, w ∈ wsX11_handIn := fun w h => (List.mem_cons_of_mem _ (List.mem_append_left _ (List.mem_append_left _ (List.mem_append_left _ (List.mem_append_right _ h)))))
theorem zj_X11_handIn_X11 : ∀ w ∈ wsX110, w ∈ wsX11_handIn := fun w h => (List.mem_cons_of_mem _ (List.mem_append_left _ (List.mem_append_left _ (List.mem_append_left _ (List.mem_append_left _ (List.mem_append_right _ h))))))
set_option maxHeartbeats 8000000 in
set_option maxRecDepth 100000 in
theorem sx_X11_handIn (l : Launch) (G : z_G) (ad : Nat → Nat) (c : z_C) (I : z_I) (hP : z_iP I) (hO : z_iO I) (hB : z_iB I) (a1 : Int32) (hc : z_okc c) (h10 : c.1 ≤ 10) : z_MS l yX11_handIn wsX11_handIn { frames := 5, cells := 0, slots := 0, locals := 110 } [.ref (ad 0), .int a1] G (shC c, ad, I, JX, PC c ad) (fun r u1 => ∃ I1 : z_I, u1 = (shC c, ad, I1, JX, PC c ad) ∧ z_iP I1 ∧ z_iO I1 ∧ z_iB I1 ∧ z_fr L_X11_handIn I1 I) 0 0 := by
  intro sz
  refine z_headS (cc := cX11_handIn) (maxL := 4) (ret := (some .int)) (by decide) rfl (Nat.le_of_ble_eq_true rfl) ?_
  intro p e s m below meth c0 ls hIn hK hsz hW hl hSt
  obtain ⟨hx, hb, hr, hml, hown, hts, hlocks, hname⟩ := hIn
  subst hsz
  have hown : s.vm.findClass RX11 = some m.cls := hown
  have hA : ∀ q : Nat, s.heap.size ≤ q → z_A (shC c, ad, I, JX, PC c ad) s.heap.size q := fun q h => Or.inr h
  generalize hAe : z_A (shC c, ad, I, JX, PC c ad) s.heap.size = A at *
  have hS : va_S A s.heap s.heap [] := va_S.rf
  have hl : lv_has ls 4 [(0, .ref (ad 0)), (1, .int a1)] := hl
  refine lv_aload_n hx hb dX11_handIn_0 rfl (lv_at hl 0 rfl) ?_
  refine lv_iload_n hx hb dX11_handIn_1 rfl (lv_at hl 1 rfl) ?_
  refine z_ci hW hS hA (va_runV (As := [.int a1]) (rest := []) ⟨hx, hb, hml, hown, hts⟩ (sx_X11_hasStation l G ad c I ⟨(by show 0 ≤ (I 0 0).toInt ∧ (I 0 0).toInt ≤ 719; exact hB.1), (by show 0 ≤ (I 0 8).toInt ∧ (I 0 8).toInt ≤ 10; exact hB.2)⟩ a1 hc h10 _) (cwV 1 hts gX11_handIn_X11_hasStation rfl rfl rfl hy_X11_hasStation ⟨Nat.le_of_ble_eq_true rfl, Nat.le_of_ble_eq_true rfl⟩) (z_preV (i := 0) hK hW rfl rfl) rfl rfl hl.1 rfl (lv_room (Nat.le_of_ble_eq_true rfl)) dX11_handIn_2 ⟨Nat.le_of_ble_eq_true rfl, Nat.le_of_ble_eq_true rfl⟩) (fun r u1 H locs hp hW hS => ?_)
  obtain ⟨e9, hp⟩ := hp
  rw [e9] at hW
  rcases hp with ⟨rfl, h1, h2⟩ | rfl
  · refine lv_if_ne (tgt := 10) hx hb dX11_handIn_5 (by decide) (fun c3 => ?_) (fun c3 => absurd c3 (by decide))
    refine lv_iconst (v := 0) hx hb dX11_handIn_10 (by decide) ?_
    refine lv_istore_n (lv' := [(2, .int 0), (0, .ref (ad 0)), (1, .int a1)]) hx hb dX11_handIn_11 rfl hl (by decide) rfl (fun ls hl => ?_)
    refine lv_iconst (v := 0) hx hb dX11_handIn_12 (by decide) ?_
    refine lv_istore_n (lv' := [(3, .int 0), (2, .int 0), (0, .ref (ad 0)), (1, .int a1)]) hx hb dX11_handIn_13 rfl hl (by decide) rfl (fun ls hl => ?_)
    have lp4 : ∀ (f : Nat) (y5 : Int32) (y6 : Int32) (I7 : z_I) (H : Heap) (locs : List Loc) (ls : Array Slot), (2147483647 < y5.toInt + (f : Int)) → (0 ≤ y5.toInt) → (z_iP I7) → (z_iO I7) → (z_iB I7) → (z_fr L_X11_handIn I7 I) → z_W G A (shC c, ad, I7, JX, PC c ad) H → va_S A s.heap H locs → lv_has ls 4 [(3, .int y5), (2, .int y6), (0, .ref (ad 0)), (1, .int a1)] → W p l e (headSpec wsX11_handIn { frames := 5, cells := 0, slots := 0, locals := 110 }).room s m ([.ref (ad 0), .int a1] : List Value).toArray below meth c0 H locs 0 0 (MQ below (va_Qi (fun (r : Int32) (u1 : z_U) => ∃ I1 : z_I, u1 = (shC c, ad, I1, JX, PC c ad) ∧ z_iP I1 ∧ z_iO I1 ∧ z_iB I1 ∧ z_fr L_X11_handIn I1 I) (z_B G A) A) ([.ref (ad 0), .int a1] : List Value).toArray s 0 0 A) (F0 m 14 ls []) := by
      intro f
      induction f with
      | zero => intro y5 y6 I7  H locs ls lp4m lp4l3 lp4P lp4O lp4B lp4fr hW hS hl; exact absurd lp4m (by have := Int32.toInt_lt y5; have := Int32.le_toInt y5; omega)
      | succ f lp4ih =>
        intro y5 y6 I7  H locs ls lp4m lp4l3 lp4P lp4O lp4B lp4fr hW hS hl
        refine lv_iload_n hx hb dX11_handIn_14 rfl (lv_at hl 0 rfl) ?_
        refine lv_aload_n hx hb dX11_handIn_15 rfl (lv_at hl 2 rfl) ?_
        refine z_get (T := TX11) (N := 13) (ci := 11) (i := 0) (v := .ref (ad 30)) hx hb hts zj_X11_handIn_X11 hown hK hW rfl rfl 6 (by decide) (hts (.fieldLink RX11 44 "PetrolBoard" "pours" "LPetrolBoard$Pours;") (me_s (me_l (me_l (me_l (me_l (me_l (me_l (List.mem_of_getElem? (i := 0) rfl))))))))) (fun _ h => h) rfl dX11_handIn_16 ?_
        have r8 : 0 ≤ (I7 30 8).toInt ∧ (I7 30 8).toInt ≤ 300 := lp4P
        refine z_get (T := TX8) (N := 9) (ci := 8) (i := 30) (v := .int (I7 30 8)) hx hb hts zj_X11_handIn_X8 hown hK hW rfl rfl 8 (by decide) (hts (.fieldLink RX11 201 "PetrolBoard$Pours" "number" "I") (me_s (me_l (me_l (me_l (me_l (me_l (me_l (List.mem_of_getElem? (i := 1) rfl))))))))) (fun _ h => h) rfl dX11_handIn_19 ?_
        refine lv_icmp_ge (tgt := 98) hx hb dX11_handIn_22 (by decide) (fun c9 => ?_) (fun c9 => ?_)
        · have g10 := z_f_ge rfl rfl c9
          have b11 := Int32.toInt_lt y5
          refine lv_iload_n hx hb dX11_handIn_98 rfl (lv_at hl 1 rfl) ?_
          exact z_iret hx hb hr hK hS (Nat.le_of_ble_eq_true rfl) (Nat.le_of_ble_eq_true rfl) hlocks dX11_handIn_99 (shC c, ad, I7, JX, PC c ad) hW ⟨I7, rfl, (by show 0 ≤ (I7 30 8).toInt ∧ (I7 30 8).toInt ≤ 300; exact lp4P), (by show 0 ≤ (I7 21 2).toInt ∧ (I7 21 2).toInt ≤ 12; exact lp4O), ⟨(by show 0 ≤ (I7 0 0).toInt ∧ (I7 0 0).toInt ≤ 719; exact lp4B.1), (by show 0 ≤ (I7 0 8).toInt ∧ (I7 0 8).toInt ≤ 10; exact lp4B.2)⟩, lp4fr⟩
        · have g12 := z_f_nge rfl rfl c9
          have b13 := Int32.toInt_lt y5
          refine lv_iload_n hx hb dX11_handIn_25 rfl (lv_at hl 0 rfl) ?_
          refine lv_sipush (v := 300) hx hb dX11_handIn_26 (by decide) ?_
          refine lv_icmp_ge (tgt := 98) hx hb dX11_handIn_29 (by decide) (fun c14 => (by have g := z_f_ge rfl z_l300 c14; omega)) (fun c14 => ?_)
          have g15 := z_f_nge rfl z_l300 c14
          refine lv_aload_n hx hb dX11_handIn_32 rfl (lv_at hl 2 rfl) ?_
          refine z_get (T := TX11) (N := 13) (ci := 11) (i := 0) (v := .ref (ad 30)) hx hb hts zj_X11_handIn_X11 hown hK hW rfl rfl 6 (by decide) (hts (.fieldLink RX11 44 "PetrolBoard" "pours" "LPetrolBoard$Pours;") (me_s (me_l (me_l (me_l (me_l (me_l (me_l (List.mem_of_getElem? (i := 0) rfl))))))))) (fun _ h => h) rfl dX11_handIn_33 ?_
          refine z_get (T := TX8) (N := 9) (ci := 8) (i := 30) (v := .ref (ad 31)) hx hb hts zj_X11_handIn_X8 hown hK hW rfl rfl 0 (by decide) (hts (.fieldLink RX11 202 "PetrolBoard$Pours" "station" "[I") (me_s (me_l (me_l (me_l (me_l (me_l (me_l (List.mem_of_getElem? (i := 2) rfl))))))))) (fun _ h => h) rfl dX11_handIn_36 ?_
          refine lv_iload_n hx hb dX11_handIn_39 rfl (lv_at hl 0 rfl) ?_
          refine z_iald (i := 31) hx hb hK hW rfl (z_ix rfl (by omega) (by omega)) dX11_handIn_40 ?_
          refine lv_topi (fun x16 ex16 => ?_)
          refine lv_iload_n hx hb dX11_handIn_41 rfl (lv_at hl 3 rfl) ?_
          refine lv_icmp_ne (tgt := 92) hx hb dX11_handIn_42 (by decide) (fun c17 => ?_) (fun c17 => ?_)
          · have g18 := z_f_ne rfl rfl c17
            have b19 := Int32.toInt_lt x16
            obtain ⟨x20, ex20⟩ : ∃ y : Int32, y = y5 + 1 := ⟨_, rfl⟩
            have tx20 : x20.toInt = y5.toInt + 1 := z_tadd ex20 rfl z_l1 (by omega) (by omega)
            refine lv_iinc (v := x20) (lv' := [(3, .int x20), (2, .int y6), (0, .ref (ad 0)), (1, .int a1)]) hx hb dX11_handIn_92 hl (k := 0) rfl (by rw [ex20]; rfl) (by decide) rfl (fun ls hl => ?_)
            refine lv_goto (tgt := 14) hx hb dX11_handIn_95 (by decide) ?_
            exact lp4ih x20 y6 I7  _ _ _ (by omega) (by omega) (by show 0 ≤ (I7 30 8).toInt ∧ (I7 30 8).toInt ≤ 300; exact lp4P) (by show 0 ≤ (I7 21 2).toInt ∧ (I7 21 2).toInt ≤ 12; exact lp4O) ⟨(by show 0 ≤ (I7 0 0).toInt ∧ (I7 0 0).toInt ≤ 719; exact lp4B.1), (by show 0 ≤ (I7 0 8).toInt ∧ (I7 0 8).toInt ≤ 10; exact lp4B.2)⟩ lp4fr hW hS (lv_sub hl [0, 1, 2, 3] rfl)
          · have g21 := z_f_eq rfl rfl c17
            have b22 := Int32.toInt_lt x16
            refine lv_aload_n hx hb dX11_handIn_45 rfl (lv_at hl 2 rfl) ?_
            refine z_get (T := TX11) (N := 13) (ci := 11) (i := 0) (v := .ref (ad 30)) hx hb hts zj_X11_handIn_X11 hown hK hW rfl rfl 6 (by decide) (hts (.fieldLink RX11 44 "PetrolBoard" "pours" "LPetrolBoard$Pours;") (me_s (me_l (me_l (me_l (me_l (me_l (me_l (List.mem_of_getElem? (i := 0) rfl))))))))) (fun _ h => h) rfl dX11_handIn_46 ?_
            refine z_get (T := TX8) (N := 9) (ci := 8) (i := 30) (v := .ref (ad 36)) hx hb hts zj_X11_handIn_X8 hown hK hW rfl rfl 5 (by decide) (hts (.fieldLink RX11 205 "PetrolBoard$Pours" "verdict" "[I") (me_s (me_l (me_l (me_l (me_l (me_l (me_l (List.mem_of_getElem? (i := 3) rfl))))))))) (fun _ h => h) rfl dX11_handIn_49 ?_
            refine lv_iload_n hx hb dX11_handIn_52 rfl (lv_at hl 0 rfl) ?_
            refine z_iald (i := 36) hx hb hK hW rfl (z_ix rfl (by omega) (by omega)) dX11_handIn_53 ?_
            refine lv_topi (fun x23 ex23 => ?_)
            refine lv_iconst (v := (-1)) hx hb dX11_handIn_54 (by decide) ?_
            refine lv_icmp_ne (tgt := 92) hx hb dX11_handIn_55 (by decide) (fun c24 => ?_) (fun c24 => ?_)
            · have g25 := z_f_ne rfl z_lm1 c24
              have b26 := Int32.toInt_lt x23
              obtain ⟨x27, ex27⟩ : ∃ y : Int32, y = y5 + 1 := ⟨_, rfl⟩
              have tx27 : x27.toInt = y5.toInt + 1 := z_tadd ex27 rfl z_l1 (by omega) (by omega)
              refine lv_iinc (v := x27) (lv' := [(3, .int x27), (2, .int y6), (0, .ref (ad 0)), (1, .int a1)]) hx hb dX11_handIn_92 hl (k := 0) rfl (by rw [ex27]; rfl) (by decide) rfl (fun ls hl => ?_)
              refine lv_goto (tgt := 14) hx hb dX11_handIn_95 (by decide) ?_
              exact lp4ih x27 y6 I7  _ _ _ (by omega) (by omega) (by show 0 ≤ (I7 30 8).toInt ∧ (I7 30 8).toInt ≤ 300; exact lp4P) (by show 0 ≤ (I7 21 2).toInt ∧ (I7 21 2).toInt ≤ 12; exact lp4O) ⟨(by show 0 ≤ (I7 0 0).toInt ∧ (I7 0 0).toInt ≤ 719; exact lp4B.1), (by show 0 ≤ (I7 0 8).toInt ∧ (I7 0 8).toInt ≤ 10; exact lp4B.2)⟩ lp4fr hW hS (lv_sub hl [0, 1, 2, 3] rfl)
            · have g28 := z_f_eq rfl z_lm1 c24
              have b29 := Int32.toInt_lt x23
              refine lv_aload_n hx hb dX11_handIn_58 rfl (lv_at hl 2 rfl) ?_
              refine z_get (T := TX11) (N := 13) (ci := 11) (i := 0) (v := .ref (ad 30)) hx hb hts zj_X11_handIn_X11 hown hK hW rfl rfl 6 (by decide) (hts (.fieldLink RX11 44 "PetrolBoard" "pours" "LPetrolBoard$Pours;") (me_s (me_l (me_l (me_l (me_l (me_l (me_l (List.mem_of_getElem? (i := 0) rfl))))))))) (fun _ h => h) rfl dX11_handIn_59 ?_
              refine z_get (T := TX8) (N := 9) (ci := 8) (i := 30) (v := .ref (ad 36)) hx hb hts zj_X11_handIn_X8 hown hK hW rfl rfl 5 (by decide) (hts (.fieldLink RX11 205 "PetrolBoard$Pours" "verdict" "[I") (me_s (me_l (me_l (me_l (me_l (me_l (me_l (List.mem_of_getElem? (i := 3) rfl))))))))) (fun _ h => h) rfl dX11_handIn_62 ?_
              refine lv_iload_n hx hb dX11_handIn_65 rfl (lv_at hl 0 rfl) ?_
              refine lv_aload_n hx hb dX11_handIn_66 rfl (lv_at hl 2 rfl) ?_
              refine lv_iload_n hx hb dX11_handIn_67 rfl (lv_at hl 0 rfl) ?_
              refine z_ci hW hS hA (va_runV (As := [.int y5]) (rest := [.int y5, .ref (ad 36)]) ⟨hx, hb, hml, hown, hts⟩ (sx_X11_verdictOn l G ad c I7 (by show 0 ≤ (I7 30 8).toInt ∧ (I7 30 8).toInt ≤ 300; exact lp4P) (by show 0 ≤ (I7 21 2).toInt ∧ (I7 21 2).toInt ≤ 12; exact lp4O) y5 hc h10 _) (cwV 1 hts gX11_handIn_X11_verdictOn rfl rfl rfl hy_X11_verdictOn ⟨Nat.le_of_ble_eq_true rfl, Nat.le_of_ble_eq_true rfl⟩) (z_preVS (i := 0) hK hW hS hA hSt rfl rfl) rfl rfl hl.1 rfl (lv_room (Nat.le_of_ble_eq_true rfl)) dX11_handIn_68 ⟨Nat.le_of_ble_eq_true rfl, Nat.le_of_ble_eq_true rfl⟩) (fun r u1 H locs hp hW hS => ?_)
              rw [hp] at hW
              refine lv_topi (fun x30 ex30 => ?_)
              refine z_iast (i := 36) hx hb hK hW hS rfl (z_ix rfl (by omega) (by omega)) dX11_handIn_71 (fun H locs hz1 hW hS => ?_)
              obtain ⟨I31, eI31⟩ : ∃ K : z_I, K = z_up I7 36 y5.toNatClampNeg x30 := ⟨_, rfl⟩
              rw [← eI31] at hW
              have f32 := z_fr_a lp4fr (show z_wa L_X11_handIn 36 = true by decide) eI31
              refine lv_iload_n hx hb dX11_handIn_72 rfl (lv_at hl 1 rfl) ?_
              refine lv_aload_n hx hb dX11_handIn_73 rfl (lv_at hl 2 rfl) ?_
              refine z_get (T := TX11) (N := 13) (ci := 11) (i := 0) (v := .ref (ad 30)) hx hb hts zj_X11_handIn_X11 hown hK hW rfl rfl 6 (by decide) (hts (.fieldLink RX11 44 "PetrolBoard" "pours" "LPetrolBoard$Pours;") (me_s (me_l (me_l (me_l (me_l (me_l (me_l (List.mem_of_getElem? (i := 0) rfl))))))))) (fun _ h => h) rfl dX11_handIn_74 ?_
              refine z_get (T := TX8) (N := 9) (ci := 8) (i := 30) (v := .ref (ad 36)) hx hb hts zj_X11_handIn_X8 hown hK hW rfl rfl 5 (by decide) (hts (.fieldLink RX11 205 "PetrolBoard$Pours" "verdict" "[I") (me_s (me_l (me_l (me_l (me_l (me_l (me_l (List.mem_of_getElem? (i := 3) rfl))))))))) (fun _ h => h) rfl dX11_handIn_77 ?_
              refine lv_iload_n hx hb dX11_handIn_80 rfl (lv_at hl 0 rfl) ?_
              refine z_iald (i := 36) hx hb hK hW rfl (z_ix rfl (by omega) (by omega)) dX11_handIn_81 ?_
              refine lv_topi (fun x33 ex33 => ?_)
              refine lv_if_ne (tgt := 89) hx hb dX11_handIn_82 (by decide) (fun c34 => ?_) (fun c34 => ?_)
              · have g35 := z_f_ne rfl z_l0 c34
                have b36 := Int32.toInt_lt x33
                refine lv_iconst (v := 0) hx hb dX11_handIn_89 (by decide) ?_
                refine lv_iadd hx hb dX11_handIn_90 ?_
                refine lv_topi (fun x37 ex37 => ?_)
                have tx37 : x37.toInt = y6.toInt + 0 := z_tadd ex37 rfl z_l0 (by have := Int32.le_toInt y6; have := Int32.toInt_lt y6; omega) (by have := Int32.le_toInt y6; have := Int32.toInt_lt y6; omega)
                refine lv_istore_n (lv' := [(2, .int x37), (3, .int y5), (0, .ref (ad 0)), (1, .int a1)]) hx hb dX11_handIn_91 rfl hl (by decide) rfl (fun ls hl => ?_)
                obtain ⟨x38, ex38⟩ : ∃ y : Int32, y = y5 + 1 := ⟨_, rfl⟩
                have tx38 : x38.toInt = y5.toInt + 1 := z_tadd ex38 rfl z_l1 (by omega) (by omega)
                refine lv_iinc (v := x38) (lv' := [(3, .int x38), (2, .int x37), (0, .ref (ad 0)), (1, .int a1)]) hx hb dX11_handIn_92 hl (k := 1) rfl (by rw [ex38]; rfl) (by decide) rfl (fun ls hl => ?_)
                refine lv_goto (tgt := 14) hx hb dX11_handIn_95 (by decide) ?_
                exact lp4ih x38 x37 I31  _ _ _ (by omega) (by omega) (by show 0 ≤ (I31 30 8).toInt ∧ (I31 30 8).toInt ≤ 300; rw [eI31, z_up_n (by decide)]; exact lp4P) (by show 0 ≤ (I31 21 2).toInt ∧ (I31 21 2).toInt ≤ 12; rw [eI31, z_up_n (by decide)]; exact lp4O) ⟨(by show 0 ≤ (I31 0 0).toInt ∧ (I31 0 0).toInt ≤ 719; rw [eI31, z_up_n (by decide)]; exact lp4B.1), (by show 0 ≤ (I31 0 8).toInt ∧ (I31 0 8).toInt ≤ 10; rw [eI31, z_up_n (by decide)]; exact lp4B.2)⟩ f32 hW hS (lv_sub hl [0, 1, 2, 3] rfl)
              · have g39 := z_f_eq rfl z_l0 c34
                have b40 := Int32.toInt_lt x33
                refine lv_iconst (v := 1) hx hb dX11_handIn_85 (by decide) ?_
                refine lv_goto (tgt := 90) hx hb dX11_handIn_86 (by decide) ?_
                refine lv_iadd hx hb dX11_handIn_90 ?_
                refine lv_topi (fun x41 ex41 => ?_)
                refine lv_istore_n (lv' := [(2, .int x41), (3, .int y5), (0, .ref (ad 0)), (1, .int a1)]) hx hb dX11_handIn_91 rfl hl (by decide) rfl (fun ls hl => ?_)
                obtain ⟨x42, ex42⟩ : ∃ y : Int32, y = y5 + 1 := ⟨_, rfl⟩
                have tx42 : x42.toInt = y5.toInt + 1 := z_tadd ex42 rfl z_l1 (by omega) (by omega)
                refine lv_iinc (v := x42) (lv' := [(3, .int x42), (2, .int x41), (0, .ref (ad 0)), (1, .int a1)]) hx hb dX11_handIn_92 hl (k := 1) rfl (by rw [ex42]; rfl) (by decide) rfl (fun ls hl => ?_)
                refine lv_goto (tgt := 14) hx hb dX11_handIn_95 (by decide) ?_
                exact lp4ih x42 x41 I31  _ _ _ (by omega) (by omega) (by show 0 ≤ (I31 30 8).toInt ∧ (I31 30 8).toInt ≤ 300; rw [eI31, z_up_n (by decide)]; exact lp4P) (by show 0 ≤ (I31 21 2).toInt ∧ (I31 21 2).toInt ≤ 12; rw [eI31, z_up_n (by decide)]; exact lp4O) ⟨(by show 0 ≤ (I31 0 0).toInt ∧ (I31 0 0).toInt ≤ 719; rw [eI31, z_up_n (by decide)]; exact lp4B.1), (by show 0 ≤ (I31 0 8).toInt ∧ (I31 0 8).toInt ≤ 10; rw [eI31, z_up_n (by decide)]; exact lp4B.2)⟩ f32 hW hS (lv_sub hl [0, 1, 2, 3] rfl)
    exact lp4 4294967296 (0) (0) I  _ _ _ (z_m0u _) (by rw [z_l0]; omega) (by show 0 ≤ (I 30 8).toInt ∧ (I 30 8).toInt ≤ 300; exact hP) (by show 0 ≤ (I 21 2).toInt ∧ (I 21 2).toInt ≤ 12; exact hO) ⟨(by show 0 ≤ (I 0 0).toInt ∧ (I 0 0).toInt ≤ 719; exact hB.1), (by show 0 ≤ (I 0 8).toInt ∧ (I 0 8).toInt ≤ 10; exact hB.2)⟩ z_fr_0 hW hS (lv_sub hl [0, 1, 2, 3] rfl)
  · refine lv_if_ne (tgt := 10) hx hb dX11_handIn_5 (by decide) (fun c43 => absurd (by decide) c43) (fun c43 => ?_)
    refine lv_iconst (v := (-1)) hx hb dX11_handIn_8 (by decide) ?_
    exact z_iret hx hb hr hK hS (Nat.le_of_ble_eq_true rfl) (Nat.le_of_ble_eq_true rfl) hlocks dX11_handIn_9 (shC c, ad, I, JX, PC c ad) hW ⟨I, rfl, (by show 0 ≤ (I 30 8).toInt ∧ (I 30 8).toInt ≤ 300; exact hP), (by show 0 ≤ (I 21 2).toInt ∧ (I 21 2).toInt ≤ 12; exact hO), ⟨(by show 0 ≤ (I 0 0).toInt ∧ (I 0 0).toInt ≤ 719; exact hB.1), (by show 0 ≤ (I 0 8).toInt ∧ (I 0 8).toInt ≤ 10; exact hB.2)⟩, z_fr_0⟩
theorem zj_X11_poured_X11 : ∀ w ∈ wsX110, w ∈ wsX11_poured := fun w h => (List.mem_cons_of_mem _ (List.mem_append_left _ (List.mem_append_right _ h)))
set_option maxHeartbeats 8000000 in
set_option maxRecDepth 100000 in
theorem sx_X11_poured (l : Launch) (G : z_G) (ad : Nat → Nat) (c : z_C) (I : z_I) (hP : z_iP I) (a1 : Int32) (a2 : Int32) (hc : z_okc c) (h10 : c.1 ≤ 10) : z_M l yX11_poured wsX11_poured { frames := 3, cells := 0, slots := 0, locals := 55 } [.ref (ad 0), .int a1, .int a2] G (shC c, ad, I, JX, PC c ad) (fun r u1 => u1 = (shC c, ad, I, JX, PC c ad)) 0 0 := by
  intro sz
  refine z_headQ (cc := cX11_poured) (maxL := 3) (ret := (some .int)) (by decide) rfl (Nat.le_of_ble_eq_true rfl) ?_
  intro p e s m below meth c0 ls hIn hK hsz hW hl
  obtain ⟨hx, hb, hr, hml, hown, hts, hlocks, hname⟩ := hIn
  subst hsz
  have hown : s.vm.findClass RX11 = some m.cls := hown
  have hA : ∀ q : Nat, s.heap.size ≤ q → z_A (shC c, ad, I, JX, PC c ad) s.heap.size q := fun q h => Or.inr h
  generalize hAe : z_A (shC c, ad, I, JX, PC c ad) s.heap.size = A at *
  have hS : va_S A s.heap s.heap [] := va_S.rf
  have hl : lv_has ls 3 [(0, .ref (ad 0)), (1, .int a1), (2, .int a2)] := hl
  refine lv_aload_n hx hb dX11_poured_0 rfl (lv_at hl 0 rfl) ?_
  refine z_get (T := TX11) (N := 13) (ci := 11) (i := 0) (v := .ref (ad 30)) hx hb hts zj_X11_poured_X11 hown hK hW rfl rfl 6 (by decide) (hts (.fieldLink RX11 44 "PetrolBoard" "pours" "LPetrolBoard$Pours;") (me_s (me_l (me_l (List.mem_of_getElem? (i := 0) rfl))))) (fun _ h => h) rfl dX11_poured_1 ?_
  refine lv_iload_n hx hb dX11_poured_4 rfl (lv_at hl 1 rfl) ?_
  refine lv_iload_n hx hb dX11_poured_5 rfl (lv_at hl 2 rfl) ?_
  refine z_ci hW hS hA (va_runV (As := [.int a1, .int a2]) (rest := []) ⟨hx, hb, hml, hown, hts⟩ (sx_X8_tell l G ad c I (by show 0 ≤ (I 30 8).toInt ∧ (I 30 8).toInt ≤ 300; exact hP) a1 a2 _) (cwV 2 hts gX11_poured_X8_tell rfl rfl rfl hy_X8_tell ⟨Nat.le_of_ble_eq_true rfl, Nat.le_of_ble_eq_true rfl⟩) (z_preV (i := 30) hK hW rfl rfl) rfl rfl hl.1 rfl (lv_room (Nat.le_of_ble_eq_true rfl)) dX11_poured_6 ⟨Nat.le_of_ble_eq_true rfl, Nat.le_of_ble_eq_true rfl⟩) (fun r u1 H locs hp hW hS => ?_)
  rw [hp] at hW
  refine lv_topi (fun x1 ex1 => ?_)
  exact z_iret hx hb hr hK hS (Nat.le_of_ble_eq_true rfl) (Nat.le_of_ble_eq_true rfl) hlocks dX11_poured_9 (shC c, ad, I, JX, PC c ad) hW rfl
theorem zj_X11_found_X11 : ∀ w ∈ wsX110, w ∈ wsX11_found := fun w h => (List.mem_cons_of_mem _ (List.mem_append_left _ (List.mem_append_left _ (List.mem_append_right _ h))))
set_option maxHeartbeats 8000000 in
set_option maxRecDepth 100000 in
theorem sx_X11_found (l : Launch) (G : z_G) (ad : Nat → Nat) (c : z_C) (I : z_I) (hP : z_iP I) (hH : z_iH I) (hB : z_iB I) (a1 : Int32) (hc : z_okc c) (h10 : c.1 ≤ 10) : z_M l yX11_found wsX11_found { frames := 3, cells := 0, slots := 0, locals := 62 } [.ref (ad 0), .int a1] G (shC c, ad, I, JX, PC c ad) (fun r u1 => u1 = (shC c, ad, I, JX, PC c ad)) 0 0 := by
  intro sz
  refine z_headQ (cc := cX11_found) (maxL := 2) (ret := (some .int)) (by decide) rfl (Nat.le_of_ble_eq_true rfl) ?_
  intro p e s m below meth c0 ls hIn hK hsz hW hl
  obtain ⟨hx, hb, hr, hml, hown, hts, hlocks, hname⟩ := hIn
  subst hsz
  have hown : s.vm.findClass RX11 = some m.cls := hown
  have hA : ∀ q : Nat, s.heap.size ≤ q → z_A (shC c, ad, I, JX, PC c ad) s.heap.size q := fun q h => Or.inr h
  generalize hAe : z_A (shC c, ad, I, JX, PC c ad) s.heap.size = A at *
  have hS : va_S A s.heap s.heap [] := va_S.rf
  have hl : lv_has ls 2 [(0, .ref (ad 0)), (1, .int a1)] := hl
  refine lv_aload_n hx hb dX11_found_0 rfl (lv_at hl 0 rfl) ?_
  refine z_get (T := TX11) (N := 13) (ci := 11) (i := 0) (v := .ref (ad 1)) hx hb hts zj_X11_found_X11 hown hK hW rfl rfl 2 (by decide) (hts (.fieldLink RX11 16 "PetrolBoard" "holders" "LPetrolBoard$Holders;") (me_s (me_l (me_l (me_l (me_l (List.mem_of_getElem? (i := 0) rfl))))))) (fun _ h => h) rfl dX11_found_1 ?_
  refine lv_iload_n hx hb dX11_found_4 rfl (lv_at hl 1 rfl) ?_
  refine z_ci hW hS hA (va_runV (As := [.int a1]) (rest := []) ⟨hx, hb, hml, hown, hts⟩ (sx_X2_has l G ad c I ⟨(by show 0 ≤ (I 1 5).toInt ∧ (I 1 5).toInt ≤ 30; exact hH.1), (by show 0 ≤ (I 1 11).toInt ∧ (I 1 11).toInt ≤ 200; exact hH.2)⟩ a1 _) (cwV 1 hts gX11_found_X2_has rfl rfl rfl hy_X2_has ⟨Nat.le_of_ble_eq_true rfl, Nat.le_of_ble_eq_true rfl⟩) (z_preV (i := 1) hK hW rfl rfl) rfl rfl hl.1 rfl (lv_room (Nat.le_of_ble_eq_true rfl)) dX11_found_5 ⟨Nat.le_of_ble_eq_true rfl, Nat.le_of_ble_eq_true rfl⟩) (fun r u1 H locs hp hW hS => ?_)
  obtain ⟨e9, hp⟩ := hp
  rw [e9] at hW
  rcases hp with ⟨rfl, h1, h2⟩ | rfl
  · refine lv_if_ne (tgt := 13) hx hb dX11_found_8 (by decide) (fun c3 => ?_) (fun c3 => absurd c3 (by decide))
    refine lv_aload_n hx hb dX11_found_13 rfl (lv_at hl 0 rfl) ?_
    refine z_get (T := TX11) (N := 13) (ci := 11) (i := 0) (v := .ref (ad 30)) hx hb hts zj_X11_found_X11 hown hK hW rfl rfl 6 (by decide) (hts (.fieldLink RX11 44 "PetrolBoard" "pours" "LPetrolBoard$Pours;") (me_s (me_l (me_l (me_l (me_l (List.mem_of_getElem? (i := 1) rfl))))))) (fun _ h => h) rfl dX11_found_14 ?_
    refine lv_iload_n hx hb dX11_found_17 rfl (lv_at hl 1 rfl) ?_
    refine z_ci hW hS hA (va_runV (As := [.int a1]) (rest := []) ⟨hx, hb, hml, hown, hts⟩ (sx_X8_lastWasDyed l G ad c I (by show 0 ≤ (I 30 8).toInt ∧ (I 30 8).toInt ≤ 300; exact hP) a1 _) (cwV 1 hts gX11_found_X8_lastWasDyed rfl rfl rfl hy_X8_lastWasDyed ⟨Nat.le_of_ble_eq_true rfl, Nat.le_of_ble_eq_true rfl⟩) (z_preV (i := 30) hK hW rfl rfl) rfl rfl hl.1 rfl (lv_room (Nat.le_of_ble_eq_true rfl)) dX11_found_18 ⟨Nat.le_of_ble_eq_true rfl, Nat.le_of_ble_eq_true rfl⟩) (fun r u1 H locs hp hW hS => ?_)
    obtain ⟨e9, hp⟩ := hp
    rw [e9] at hW
    rcases hp with rfl | rfl
    · refine lv_if_eq (tgt := 36) hx hb dX11_found_21 (by decide) (fun c4 => absurd c4 (by decide)) (fun c4 => ?_)
      refine lv_aload_n hx hb dX11_found_24 rfl (lv_at hl 0 rfl) ?_
      refine lv_iload_n hx hb dX11_found_25 rfl (lv_at hl 1 rfl) ?_
      refine z_ci hW hS hA (va_runV (As := [.int a1]) (rest := []) ⟨hx, hb, hml, hown, hts⟩ (sx_X11_isFarmerNow l G ad c I ⟨(by show 0 ≤ (I 1 5).toInt ∧ (I 1 5).toInt ≤ 30; exact hH.1), (by show 0 ≤ (I 1 11).toInt ∧ (I 1 11).toInt ≤ 200; exact hH.2)⟩ ⟨(by show 0 ≤ (I 0 0).toInt ∧ (I 0 0).toInt ≤ 719; exact hB.1), (by show 0 ≤ (I 0 8).toInt ∧ (I 0 8).toInt ≤ 10; exact hB.2)⟩ a1 hc h10 _) (cwV 1 hts gX11_found_X11_isFarmerNow rfl rfl rfl hy_X11_isFarmerNow ⟨Nat.le_of_ble_eq_true rfl, Nat.le_of_ble_eq_true rfl⟩) (z_preV (i := 0) hK hW rfl rfl) rfl rfl hl.1 rfl (lv_room (Nat.le_of_ble_eq_true rfl)) dX11_found_26 ⟨Nat.le_of_ble_eq_true rfl, Nat.le_of_ble_eq_true rfl⟩) (fun r u1 H locs hp hW hS => ?_)
      obtain ⟨e9, hp⟩ := hp
      rw [e9] at hW
      rcases hp with rfl | rfl
      · refine lv_if_ne (tgt := 36) hx hb dX11_found_29 (by decide) (fun c5 => ?_) (fun c5 => absurd c5 (by decide))
        refine lv_iconst (v := 0) hx hb dX11_found_36 (by decide) ?_
        exact z_iret hx hb hr hK hS (Nat.le_of_ble_eq_true rfl) (Nat.le_of_ble_eq_true rfl) hlocks dX11_found_37 (shC c, ad, I, JX, PC c ad) hW rfl
      · refine lv_if_ne (tgt := 36) hx hb dX11_found_29 (by decide) (fun c6 => absurd (by decide) c6) (fun c6 => ?_)
        refine lv_iconst (v := 1) hx hb dX11_found_32 (by decide) ?_
        refine lv_goto (tgt := 37) hx hb dX11_found_33 (by decide) ?_
        exact z_iret hx hb hr hK hS (Nat.le_of_ble_eq_true rfl) (Nat.le_of_ble_eq_true rfl) hlocks dX11_found_37 (shC c, ad, I, JX, PC c ad) hW rfl
    · refine lv_if_eq (tgt := 36) hx hb dX11_found_21 (by decide) (fun c7 => ?_) (fun c7 => absurd (by decide) c7)
      refine lv_iconst (v := 0) hx hb dX11_found_36 (by decide) ?_
      exact z_iret hx hb hr hK hS (Nat.le_of_ble_eq_true rfl) (Nat.le_of_ble_eq_true rfl) hlocks dX11_found_37 (shC c, ad, I, JX, PC c ad) hW rfl
  · refine lv_if_ne (tgt := 13) hx hb dX11_found_8 (by decide) (fun c8 => absurd (by decide) c8) (fun c8 => ?_)
    refine lv_iconst (v := (-1)) hx hb dX11_found_11 (by decide) ?_
    exact z_iret hx hb hr hK hS (Nat.le_of_ble_eq_true rfl) (Nat.le_of_ble_eq_true rfl) hlocks dX11_found_12 (shC c, ad, I, JX, PC c ad) hW rfl
