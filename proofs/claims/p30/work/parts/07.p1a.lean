theorem dX11_within_0 : decode cX11_within 0 = .ok (.iload_n 0, 1) := z_dd_26 (by decide +kernel)
theorem dX11_within_1 : decode cX11_within 1 = .ok (.iload_n 1, 1) := z_dd_27 (by decide +kernel)
theorem dX11_within_2 : decode cX11_within 2 = .ok (.if_icmp .lt 12, 3) := z_dd_161 (by decide +kernel)
theorem dX11_within_14 : decode cX11_within 14 = .ok (.iconst 0, 1) := z_dd_3 (by decide +kernel)
theorem dX11_within_15 : decode cX11_within 15 = .ok (.ireturn, 1) := z_dd_172 (by decide +kernel)
theorem dX11_within_5 : decode cX11_within 5 = .ok (.iload_n 0, 1) := z_dd_26 (by decide +kernel)
theorem dX11_within_6 : decode cX11_within 6 = .ok (.iload_n 2, 1) := z_dd_28 (by decide +kernel)
theorem dX11_within_7 : decode cX11_within 7 = .ok (.if_icmp .gt 7, 3) := z_dd_163 (by decide +kernel)
theorem dX11_within_10 : decode cX11_within 10 = .ok (.iconst 1, 1) := z_dd_4 (by decide +kernel)
theorem dX11_within_11 : decode cX11_within 11 = .ok (.goto 4, 3) := z_dd_167 (by decide +kernel)
theorem dX12_within_0 : decode cX12_within 0 = .ok (.iload_n 0, 1) := z_dd_26 (by decide +kernel)
theorem dX12_within_1 : decode cX12_within 1 = .ok (.iload_n 1, 1) := z_dd_27 (by decide +kernel)
theorem dX12_within_2 : decode cX12_within 2 = .ok (.if_icmp .lt 12, 3) := z_dd_161 (by decide +kernel)
theorem dX12_within_14 : decode cX12_within 14 = .ok (.iconst 0, 1) := z_dd_3 (by decide +kernel)
theorem dX12_within_15 : decode cX12_within 15 = .ok (.ireturn, 1) := z_dd_172 (by decide +kernel)
theorem dX12_within_5 : decode cX12_within 5 = .ok (.iload_n 0, 1) := z_dd_26 (by decide +kernel)
theorem dX12_within_6 : decode cX12_within 6 = .ok (.iload_n 2, 1) := z_dd_28 (by decide +kernel)
theorem dX12_within_7 : decode cX12_within 7 = .ok (.if_icmp .gt 7, 3) := z_dd_163 (by decide +kernel)
theorem dX12_within_10 : decode cX12_within 10 = .ok (.iconst 1, 1) := z_dd_4 (by decide +kernel)
theorem dX12_within_11 : decode cX12_within 11 = .ok (.goto 4, 3) := z_dd_167 (by decide +kernel)
theorem dX11_isDay_0 : decode cX11_isDay 0 = .ok (.iload_n 0, 1) := z_dd_26 (by decide +kernel)
theorem dX11_isDay_1 : decode cX11_isDay 1 = .ok (.iconst 0, 1) := z_dd_3 (by decide +kernel)
theorem dX11_isDay_2 : decode cX11_isDay 2 = .ok (.sipush 719, 3) := z_dd_17 (by decide +kernel)
set_option maxRecDepth 20000 in
theorem ggX11_isDay_X11_within : GoodIn wsX11_isDay wsX11_within := goodIn_sub (fa_c (me_s (List.mem_of_getElem? (i := 3) rfl)) fa_n) (by decide +kernel)
set_option maxRecDepth 20000 in
theorem gX11_isDay_X11_within : GoodIn wsX11_isDay (va_wsS RX11 88 yX11_within wsX11_within) := goodIn_app (goodIn_sub (fa_c (me_s (List.mem_of_getElem? (i := 0) rfl)) (fa_c (me_s (List.mem_of_getElem? (i := 1) rfl)) (fa_c (me_s (List.mem_of_getElem? (i := 2) rfl)) fa_n))) (by decide +kernel)) ggX11_isDay_X11_within
theorem dX11_isDay_5 : decode cX11_isDay 5 = .ok (.invokestatic 88, 3) := z_dd_184 (by decide +kernel)
theorem dX11_isDay_8 : decode cX11_isDay 8 = .ok (.ireturn, 1) := z_dd_172 (by decide +kernel)
theorem dX11_isMonth_0 : decode cX11_isMonth 0 = .ok (.iload_n 0, 1) := z_dd_26 (by decide +kernel)
theorem dX11_isMonth_1 : decode cX11_isMonth 1 = .ok (.iconst 0, 1) := z_dd_3 (by decide +kernel)
theorem dX11_isMonth_2 : decode cX11_isMonth 2 = .ok (.bipush 23, 2) := z_dd_16 (by decide +kernel)
set_option maxRecDepth 20000 in
theorem ggX11_isMonth_X11_within : GoodIn wsX11_isMonth wsX11_within := goodIn_sub (fa_c (me_s (List.mem_of_getElem? (i := 3) rfl)) fa_n) (by decide +kernel)
set_option maxRecDepth 20000 in
theorem gX11_isMonth_X11_within : GoodIn wsX11_isMonth (va_wsS RX11 88 yX11_within wsX11_within) := goodIn_app (goodIn_sub (fa_c (me_s (List.mem_of_getElem? (i := 0) rfl)) (fa_c (me_s (List.mem_of_getElem? (i := 1) rfl)) (fa_c (me_s (List.mem_of_getElem? (i := 2) rfl)) fa_n))) (by decide +kernel)) ggX11_isMonth_X11_within
theorem dX11_isMonth_4 : decode cX11_isMonth 4 = .ok (.invokestatic 88, 3) := z_dd_184 (by decide +kernel)
theorem dX11_isMonth_7 : decode cX11_isMonth 7 = .ok (.ireturn, 1) := z_dd_172 (by decide +kernel)
theorem dX11_isReason_0 : decode cX11_isReason 0 = .ok (.iload_n 0, 1) := z_dd_26 (by decide +kernel)
theorem dX11_isReason_1 : decode cX11_isReason 1 = .ok (.iconst 0, 1) := z_dd_3 (by decide +kernel)
theorem dX11_isReason_2 : decode cX11_isReason 2 = .ok (.iconst 4, 1) := z_dd_7 (by decide +kernel)
set_option maxRecDepth 20000 in
theorem ggX11_isReason_X11_within : GoodIn wsX11_isReason wsX11_within := goodIn_sub (fa_c (me_s (List.mem_of_getElem? (i := 3) rfl)) fa_n) (by decide +kernel)
set_option maxRecDepth 20000 in
theorem gX11_isReason_X11_within : GoodIn wsX11_isReason (va_wsS RX11 88 yX11_within wsX11_within) := goodIn_app (goodIn_sub (fa_c (me_s (List.mem_of_getElem? (i := 0) rfl)) (fa_c (me_s (List.mem_of_getElem? (i := 1) rfl)) (fa_c (me_s (List.mem_of_getElem? (i := 2) rfl)) fa_n))) (by decide +kernel)) ggX11_isReason_X11_within
theorem dX11_isReason_3 : decode cX11_isReason 3 = .ok (.invokestatic 88, 3) := z_dd_184 (by decide +kernel)
theorem dX11_isReason_6 : decode cX11_isReason 6 = .ok (.ireturn, 1) := z_dd_172 (by decide +kernel)
theorem dX12_isDay_0 : decode cX12_isDay 0 = .ok (.iload_n 0, 1) := z_dd_26 (by decide +kernel)
theorem dX12_isDay_1 : decode cX12_isDay 1 = .ok (.ifCond .lt 14, 3) := z_dd_155 (by decide +kernel)
theorem dX12_isDay_15 : decode cX12_isDay 15 = .ok (.iconst 0, 1) := z_dd_3 (by decide +kernel)
theorem dX12_isDay_16 : decode cX12_isDay 16 = .ok (.ireturn, 1) := z_dd_172 (by decide +kernel)
theorem dX12_isDay_4 : decode cX12_isDay 4 = .ok (.iload_n 0, 1) := z_dd_26 (by decide +kernel)
theorem dX12_isDay_5 : decode cX12_isDay 5 = .ok (.sipush 719, 3) := z_dd_17 (by decide +kernel)
theorem dX12_isDay_8 : decode cX12_isDay 8 = .ok (.if_icmp .gt 7, 3) := z_dd_163 (by decide +kernel)
theorem dX12_isDay_11 : decode cX12_isDay 11 = .ok (.iconst 1, 1) := z_dd_4 (by decide +kernel)
theorem dX12_isDay_12 : decode cX12_isDay 12 = .ok (.goto 4, 3) := z_dd_167 (by decide +kernel)
theorem dX12_isMonth_0 : decode cX12_isMonth 0 = .ok (.iload_n 0, 1) := z_dd_26 (by decide +kernel)
theorem dX12_isMonth_1 : decode cX12_isMonth 1 = .ok (.ifCond .lt 13, 3) := z_dd_155 (by decide +kernel)
theorem dX12_isMonth_14 : decode cX12_isMonth 14 = .ok (.iconst 0, 1) := z_dd_3 (by decide +kernel)
theorem dX12_isMonth_15 : decode cX12_isMonth 15 = .ok (.ireturn, 1) := z_dd_172 (by decide +kernel)
theorem dX12_isMonth_4 : decode cX12_isMonth 4 = .ok (.iload_n 0, 1) := z_dd_26 (by decide +kernel)
theorem dX12_isMonth_5 : decode cX12_isMonth 5 = .ok (.bipush 23, 2) := z_dd_16 (by decide +kernel)
theorem dX12_isMonth_7 : decode cX12_isMonth 7 = .ok (.if_icmp .gt 7, 3) := z_dd_163 (by decide +kernel)
theorem dX12_isMonth_10 : decode cX12_isMonth 10 = .ok (.iconst 1, 1) := z_dd_4 (by decide +kernel)
theorem dX12_isMonth_11 : decode cX12_isMonth 11 = .ok (.goto 4, 3) := z_dd_167 (by decide +kernel)
theorem dX2_has_0 : decode cX2_has 0 = .ok (.iload_n 1, 1) := z_dd_27 (by decide +kernel)
theorem dX2_has_1 : decode cX2_has 1 = .ok (.ifCond .lt 21, 3) := z_dd_155 (by decide +kernel)
theorem dX2_has_22 : decode cX2_has 22 = .ok (.iconst 0, 1) := z_dd_3 (by decide +kernel)
theorem dX2_has_23 : decode cX2_has 23 = .ok (.ireturn, 1) := z_dd_172 (by decide +kernel)
theorem dX2_has_4 : decode cX2_has 4 = .ok (.iload_n 1, 1) := z_dd_27 (by decide +kernel)
theorem dX2_has_5 : decode cX2_has 5 = .ok (.aload_n 0, 1) := z_dd_42 (by decide +kernel)
theorem dX2_has_6 : decode cX2_has 6 = .ok (.getfield 42, 3) := z_dd_180 (by decide +kernel)
theorem dX2_has_9 : decode cX2_has 9 = .ok (.if_icmp .ge 13, 3) := z_dd_162 (by decide +kernel)
theorem dX3_has_0 : decode cX3_has 0 = .ok (.iload_n 1, 1) := z_dd_27 (by decide +kernel)
theorem dX3_has_1 : decode cX3_has 1 = .ok (.ifCond .lt 21, 3) := z_dd_155 (by decide +kernel)
theorem dX3_has_22 : decode cX3_has 22 = .ok (.iconst 0, 1) := z_dd_3 (by decide +kernel)
theorem dX3_has_23 : decode cX3_has 23 = .ok (.ireturn, 1) := z_dd_172 (by decide +kernel)
theorem dX3_has_4 : decode cX3_has 4 = .ok (.iload_n 1, 1) := z_dd_27 (by decide +kernel)
theorem dX3_has_5 : decode cX3_has 5 = .ok (.aload_n 0, 1) := z_dd_42 (by decide +kernel)
theorem dX3_has_6 : decode cX3_has 6 = .ok (.getfield 45, 3) := z_dd_180 (by decide +kernel)
theorem dX3_has_9 : decode cX3_has 9 = .ok (.if_icmp .ge 13, 3) := z_dd_162 (by decide +kernel)
theorem dX4_hasPort_0 : decode cX4_hasPort 0 = .ok (.iload_n 1, 1) := z_dd_27 (by decide +kernel)
theorem dX4_hasPort_1 : decode cX4_hasPort 1 = .ok (.ifCond .lt 20, 3) := z_dd_155 (by decide +kernel)
theorem dX4_hasPort_21 : decode cX4_hasPort 21 = .ok (.iconst 0, 1) := z_dd_3 (by decide +kernel)
theorem dX4_hasPort_22 : decode cX4_hasPort 22 = .ok (.ireturn, 1) := z_dd_172 (by decide +kernel)
theorem dX4_hasPort_4 : decode cX4_hasPort 4 = .ok (.iload_n 1, 1) := z_dd_27 (by decide +kernel)
theorem dX4_hasPort_5 : decode cX4_hasPort 5 = .ok (.aload_n 0, 1) := z_dd_42 (by decide +kernel)
theorem dX4_hasPort_6 : decode cX4_hasPort 6 = .ok (.getfield 44, 3) := z_dd_180 (by decide +kernel)
theorem dX4_hasPort_9 : decode cX4_hasPort 9 = .ok (.if_icmp .ge 12, 3) := z_dd_162 (by decide +kernel)
theorem dX8_has_0 : decode cX8_has 0 = .ok (.iload_n 1, 1) := z_dd_27 (by decide +kernel)
theorem dX8_has_1 : decode cX8_has 1 = .ok (.ifCond .lt 22, 3) := z_dd_155 (by decide +kernel)
theorem dX8_has_23 : decode cX8_has 23 = .ok (.iconst 0, 1) := z_dd_3 (by decide +kernel)
theorem dX8_has_24 : decode cX8_has 24 = .ok (.ireturn, 1) := z_dd_172 (by decide +kernel)
theorem dX8_has_4 : decode cX8_has 4 = .ok (.iload_n 1, 1) := z_dd_27 (by decide +kernel)
theorem dX8_has_5 : decode cX8_has 5 = .ok (.aload_n 0, 1) := z_dd_42 (by decide +kernel)
theorem dX8_has_6 : decode cX8_has 6 = .ok (.getfield 36, 3) := z_dd_180 (by decide +kernel)
theorem dX8_has_9 : decode cX8_has 9 = .ok (.if_icmp .ge 14, 3) := z_dd_162 (by decide +kernel)
theorem dX11_hasStation_0 : decode cX11_hasStation 0 = .ok (.iload_n 1, 1) := z_dd_27 (by decide +kernel)
theorem dX11_hasStation_1 : decode cX11_hasStation 1 = .ok (.ifCond .lt 15, 3) := z_dd_155 (by decide +kernel)
theorem dX11_hasStation_16 : decode cX11_hasStation 16 = .ok (.iconst 0, 1) := z_dd_3 (by decide +kernel)
theorem dX11_hasStation_17 : decode cX11_hasStation 17 = .ok (.ireturn, 1) := z_dd_172 (by decide +kernel)
theorem dX11_hasStation_4 : decode cX11_hasStation 4 = .ok (.iload_n 1, 1) := z_dd_27 (by decide +kernel)
theorem dX11_hasStation_5 : decode cX11_hasStation 5 = .ok (.aload_n 0, 1) := z_dd_42 (by decide +kernel)
theorem dX11_hasStation_6 : decode cX11_hasStation 6 = .ok (.getfield 178, 3) := z_dd_180 (by decide +kernel)
theorem dX11_hasStation_9 : decode cX11_hasStation 9 = .ok (.if_icmp .ge 7, 3) := z_dd_162 (by decide +kernel)
theorem dX12_isHolder_0 : decode cX12_isHolder 0 = .ok (.iload_n 1, 1) := z_dd_27 (by decide +kernel)
theorem dX12_isHolder_1 : decode cX12_isHolder 1 = .ok (.ifCond .lt 15, 3) := z_dd_155 (by decide +kernel)
theorem dX12_isHolder_16 : decode cX12_isHolder 16 = .ok (.iconst 0, 1) := z_dd_3 (by decide +kernel)
theorem dX12_isHolder_17 : decode cX12_isHolder 17 = .ok (.ireturn, 1) := z_dd_172 (by decide +kernel)
theorem dX12_isHolder_4 : decode cX12_isHolder 4 = .ok (.iload_n 1, 1) := z_dd_27 (by decide +kernel)
theorem dX12_isHolder_5 : decode cX12_isHolder 5 = .ok (.aload_n 0, 1) := z_dd_42 (by decide +kernel)
theorem dX12_isHolder_6 : decode cX12_isHolder 6 = .ok (.getfield 229, 3) := z_dd_180 (by decide +kernel)
theorem dX12_isHolder_9 : decode cX12_isHolder 9 = .ok (.if_icmp .ge 7, 3) := z_dd_162 (by decide +kernel)
theorem dX12_isStation_0 : decode cX12_isStation 0 = .ok (.iload_n 1, 1) := z_dd_27 (by decide +kernel)
theorem dX12_isStation_1 : decode cX12_isStation 1 = .ok (.ifCond .lt 15, 3) := z_dd_155 (by decide +kernel)
theorem dX12_isStation_16 : decode cX12_isStation 16 = .ok (.iconst 0, 1) := z_dd_3 (by decide +kernel)
theorem dX12_isStation_17 : decode cX12_isStation 17 = .ok (.ireturn, 1) := z_dd_172 (by decide +kernel)
theorem dX12_isStation_4 : decode cX12_isStation 4 = .ok (.iload_n 1, 1) := z_dd_27 (by decide +kernel)
theorem dX12_isStation_5 : decode cX12_isStation 5 = .ok (.aload_n 0, 1) := z_dd_42 (by decide +kernel)
theorem dX12_isStation_6 : decode cX12_isStation 6 = .ok (.getfield 461, 3) := z_dd_180 (by decide +kernel)
theorem dX12_isStation_9 : decode cX12_isStation 9 = .ok (.if_icmp .ge 7, 3) := z_dd_162 (by decide +kernel)
theorem dX11_note_0 : decode cX11_note 0 = .ok (.aload_n 0, 1) := z_dd_42 (by decide +kernel)
theorem dX11_note_1 : decode cX11_note 1 = .ok (.getfield 16, 3) := z_dd_180 (by decide +kernel)
theorem dX11_note_4 : decode cX11_note 4 = .ok (.iload_n 1, 1) := z_dd_27 (by decide +kernel)
set_option maxRecDepth 20000 in
theorem ggX11_note_X2_has : GoodIn wsX11_note wsX2_has := goodIn_sub (fa_c (me_s (me_l (me_l (me_l (List.mem_of_getElem? (i := 6) rfl))))) (fa_a (fa_c (me_s (me_l (me_l (me_l (List.mem_of_getElem? (i := 7) rfl))))) fa_n) (fun w h => (me_s (me_r h))))) (by decide +kernel)
set_option maxRecDepth 20000 in
theorem gX11_note_X2_has : GoodIn wsX11_note (wsV RX11 96 RX2 yX2_has wsX2_has) := goodIn_app (goodIn_sub (fa_c (me_s (me_l (me_l (me_l (List.mem_of_getElem? (i := 2) rfl))))) (fa_c (me_s (me_l (me_l (me_l (List.mem_of_getElem? (i := 3) rfl))))) (fa_c (me_s (me_l (me_l (me_l (List.mem_of_getElem? (i := 4) rfl))))) (fa_c (me_s (me_l (me_l (me_l (List.mem_of_getElem? (i := 5) rfl))))) fa_n)))) (by decide +kernel)) ggX11_note_X2_has
theorem dX11_note_5 : decode cX11_note 5 = .ok (.invokevirtual 96, 3) := z_dd_182 (by decide +kernel)
theorem dX11_note_8 : decode cX11_note 8 = .ok (.ifCond .eq 19, 3) := z_dd_153 (by decide +kernel)
theorem dX11_note_27 : decode cX11_note 27 = .ok (.iconst (-1), 1) := z_dd_2 (by decide +kernel)
theorem dX11_note_28 : decode cX11_note 28 = .ok (.ireturn, 1) := z_dd_172 (by decide +kernel)
theorem dX12_note_0 : decode cX12_note 0 = .ok (.aload_n 0, 1) := z_dd_42 (by decide +kernel)
theorem dX12_note_1 : decode cX12_note 1 = .ok (.iload_n 1, 1) := z_dd_27 (by decide +kernel)
set_option maxRecDepth 20000 in
theorem ggX12_note_X12_isHolder : GoodIn wsX12_note wsX12_isHolder := goodIn_sub (fa_c (me_s (me_l (List.mem_of_getElem? (i := 11) rfl))) (fa_a (fa_c (me_s (me_l (List.mem_of_getElem? (i := 12) rfl))) fa_n) (fun w h => (me_s (me_r h))))) (by decide +kernel)
set_option maxRecDepth 20000 in
theorem gX12_note_X12_isHolder : GoodIn wsX12_note (wsV RX12 239 RX12 yX12_isHolder wsX12_isHolder) := goodIn_app (goodIn_sub (fa_c (me_s (me_l (List.mem_of_getElem? (i := 7) rfl))) (fa_c (me_s (me_l (List.mem_of_getElem? (i := 8) rfl))) (fa_c (me_s (me_l (List.mem_of_getElem? (i := 9) rfl))) (fa_c (me_s (me_l (List.mem_of_getElem? (i := 10) rfl))) fa_n)))) (by decide +kernel)) ggX12_note_X12_isHolder
theorem dX12_note_2 : decode cX12_note 2 = .ok (.invokevirtual 239, 3) := z_dd_182 (by decide +kernel)
theorem dX12_note_5 : decode cX12_note 5 = .ok (.ifCond .eq 29, 3) := z_dd_153 (by decide +kernel)
theorem dX12_note_34 : decode cX12_note 34 = .ok (.iconst (-1), 1) := z_dd_2 (by decide +kernel)
theorem dX12_note_35 : decode cX12_note 35 = .ok (.ireturn, 1) := z_dd_172 (by decide +kernel)
theorem dX11_classOf_0 : decode cX11_classOf 0 = .ok (.aload_n 0, 1) := z_dd_42 (by decide +kernel)
theorem dX11_classOf_1 : decode cX11_classOf 1 = .ok (.getfield 16, 3) := z_dd_180 (by decide +kernel)
theorem dX11_classOf_4 : decode cX11_classOf 4 = .ok (.iload_n 1, 1) := z_dd_27 (by decide +kernel)
set_option maxRecDepth 20000 in
theorem ggX11_classOf_X2_has : GoodIn wsX11_classOf wsX2_has := goodIn_sub (fa_c (me_s (me_l (me_l (List.mem_of_getElem? (i := 5) rfl)))) (fa_a (fa_c (me_s (me_l (me_l (List.mem_of_getElem? (i := 6) rfl)))) fa_n) (fun w h => (me_s (me_r h))))) (by decide +kernel)
set_option maxRecDepth 20000 in
theorem gX11_classOf_X2_has : GoodIn wsX11_classOf (wsV RX11 96 RX2 yX2_has wsX2_has) := goodIn_app (goodIn_sub (fa_c (me_s (me_l (me_l (List.mem_of_getElem? (i := 1) rfl)))) (fa_c (me_s (me_l (me_l (List.mem_of_getElem? (i := 2) rfl)))) (fa_c (me_s (me_l (me_l (List.mem_of_getElem? (i := 3) rfl)))) (fa_c (me_s (me_l (me_l (List.mem_of_getElem? (i := 4) rfl)))) fa_n)))) (by decide +kernel)) ggX11_classOf_X2_has
theorem dX11_classOf_5 : decode cX11_classOf 5 = .ok (.invokevirtual 96, 3) := z_dd_182 (by decide +kernel)
theorem dX11_classOf_8 : decode cX11_classOf 8 = .ok (.ifCond .eq 17, 3) := z_dd_153 (by decide +kernel)
theorem dX11_classOf_25 : decode cX11_classOf 25 = .ok (.iconst (-1), 1) := z_dd_2 (by decide +kernel)
theorem dX11_classOf_26 : decode cX11_classOf 26 = .ok (.ireturn, 1) := z_dd_172 (by decide +kernel)
theorem dX12_classOf_0 : decode cX12_classOf 0 = .ok (.aload_n 0, 1) := z_dd_42 (by decide +kernel)
theorem dX12_classOf_1 : decode cX12_classOf 1 = .ok (.iload_n 1, 1) := z_dd_27 (by decide +kernel)
set_option maxRecDepth 20000 in
theorem ggX12_classOf_X12_isHolder : GoodIn wsX12_classOf wsX12_isHolder := goodIn_sub (fa_c (me_s (me_l (List.mem_of_getElem? (i := 4) rfl))) (fa_a (fa_c (me_s (me_l (List.mem_of_getElem? (i := 5) rfl))) fa_n) (fun w h => (me_s (me_r h))))) (by decide +kernel)
set_option maxRecDepth 20000 in
theorem gX12_classOf_X12_isHolder : GoodIn wsX12_classOf (wsV RX12 239 RX12 yX12_isHolder wsX12_isHolder) := goodIn_app (goodIn_sub (fa_c (me_s (me_l (List.mem_of_getElem? (i := 0) rfl))) (fa_c (me_s (me_l (List.mem_of_getElem? (i := 1) rfl))) (fa_c (me_s (me_l (List.mem_of_getElem? (i := 2) rfl))) (fa_c (me_s (me_l (List.mem_of_getElem? (i := 3) rfl))) fa_n)))) (by decide +kernel)) ggX12_classOf_X12_isHolder
theorem dX12_classOf_2 : decode cX12_classOf 2 = .ok (.invokevirtual 239, 3) := z_dd_182 (by decide +kernel)
theorem dX12_classOf_5 : decode cX12_classOf 5 = .ok (.ifCond .eq 27, 3) := z_dd_153 (by decide +kernel)
theorem dX12_classOf_32 : decode cX12_classOf 32 = .ok (.iconst (-1), 1) := z_dd_2 (by decide +kernel)
theorem dX12_classOf_33 : decode cX12_classOf 33 = .ok (.ireturn, 1) := z_dd_172 (by decide +kernel)
theorem dX11_units_0 : decode cX11_units 0 = .ok (.aload_n 0, 1) := z_dd_42 (by decide +kernel)
theorem dX11_units_1 : decode cX11_units 1 = .ok (.getfield 16, 3) := z_dd_180 (by decide +kernel)
theorem dX11_units_4 : decode cX11_units 4 = .ok (.iload_n 1, 1) := z_dd_27 (by decide +kernel)
set_option maxRecDepth 20000 in
theorem ggX11_units_X2_has : GoodIn wsX11_units wsX2_has := goodIn_sub (fa_c (me_s (me_l (me_l (me_l (me_l (me_l (me_l (List.mem_of_getElem? (i := 6) rfl)))))))) (fa_a (fa_c (me_s (me_l (me_l (me_l (me_l (me_l (me_l (List.mem_of_getElem? (i := 7) rfl)))))))) fa_n) (fun w h => (me_s (me_l (me_l (me_l (me_r h)))))))) (by decide +kernel)
set_option maxRecDepth 20000 in
theorem gX11_units_X2_has : GoodIn wsX11_units (wsV RX11 96 RX2 yX2_has wsX2_has) := goodIn_app (goodIn_sub (fa_c (me_s (me_l (me_l (me_l (me_l (me_l (me_l (List.mem_of_getElem? (i := 2) rfl)))))))) (fa_c (me_s (me_l (me_l (me_l (me_l (me_l (me_l (List.mem_of_getElem? (i := 3) rfl)))))))) (fa_c (me_s (me_l (me_l (me_l (me_l (me_l (me_l (List.mem_of_getElem? (i := 4) rfl)))))))) (fa_c (me_s (me_l (me_l (me_l (me_l (me_l (me_l (List.mem_of_getElem? (i := 5) rfl)))))))) fa_n)))) (by decide +kernel)) ggX11_units_X2_has
theorem dX11_units_5 : decode cX11_units 5 = .ok (.invokevirtual 96, 3) := z_dd_182 (by decide +kernel)
theorem dX11_units_8 : decode cX11_units 8 = .ok (.ifCond .eq 17, 3) := z_dd_153 (by decide +kernel)
theorem dX11_units_25 : decode cX11_units 25 = .ok (.iconst (-1), 1) := z_dd_2 (by decide +kernel)
theorem dX11_units_26 : decode cX11_units 26 = .ok (.ireturn, 1) := z_dd_172 (by decide +kernel)
theorem dX12_units_0 : decode cX12_units 0 = .ok (.aload_n 0, 1) := z_dd_42 (by decide +kernel)
theorem dX12_units_1 : decode cX12_units 1 = .ok (.iload_n 1, 1) := z_dd_27 (by decide +kernel)
set_option maxRecDepth 20000 in
theorem ggX12_units_X12_isHolder : GoodIn wsX12_units wsX12_isHolder := goodIn_sub (fa_c (me_s (me_l (me_l (List.mem_of_getElem? (i := 4) rfl)))) (fa_a (fa_c (me_s (me_l (me_l (List.mem_of_getElem? (i := 5) rfl)))) fa_n) (fun w h => (me_s (me_r h))))) (by decide +kernel)
set_option maxRecDepth 20000 in
theorem gX12_units_X12_isHolder : GoodIn wsX12_units (wsV RX12 239 RX12 yX12_isHolder wsX12_isHolder) := goodIn_app (goodIn_sub (fa_c (me_s (me_l (me_l (List.mem_of_getElem? (i := 0) rfl)))) (fa_c (me_s (me_l (me_l (List.mem_of_getElem? (i := 1) rfl)))) (fa_c (me_s (me_l (me_l (List.mem_of_getElem? (i := 2) rfl)))) (fa_c (me_s (me_l (me_l (List.mem_of_getElem? (i := 3) rfl)))) fa_n)))) (by decide +kernel)) ggX12_units_X12_isHolder
theorem dX12_units_2 : decode cX12_units 2 = .ok (.invokevirtual 239, 3) := z_dd_182 (by decide +kernel)
theorem dX12_units_5 : decode cX12_units 5 = .ok (.ifCond .eq 27, 3) := z_dd_153 (by decide +kernel)
theorem dX12_units_32 : decode cX12_units 32 = .ok (.iconst (-1), 1) := z_dd_2 (by decide +kernel)
theorem dX12_units_33 : decode cX12_units 33 = .ok (.ireturn, 1) := z_dd_172 (by decide +kernel)
theorem dX11_issue_0 : decode cX11_issue 0 = .ok (.aload_n 0, 1) := z_dd_42 (by decide +kernel)
theorem dX11_issue_1 : decode cX11_issue 1 = .ok (.getfield 85, 3) := z_dd_180 (by decide +kernel)
theorem dX11_issue_4 : decode cX11_issue 4 = .ok (.bipush 30, 2) := z_dd_16 (by decide +kernel)
theorem dX11_issue_6 : decode cX11_issue 6 = .ok (.idiv, 1) := z_dd_108 (by decide +kernel)
theorem dX11_issue_7 : decode cX11_issue 7 = .ok (.istore_n 3, 1) := z_dd_62 (by decide +kernel)
theorem dX11_issue_8 : decode cX11_issue 8 = .ok (.aload_n 0, 1) := z_dd_42 (by decide +kernel)
theorem dX11_issue_9 : decode cX11_issue 9 = .ok (.getfield 16, 3) := z_dd_180 (by decide +kernel)
theorem dX11_issue_12 : decode cX11_issue 12 = .ok (.iload_n 1, 1) := z_dd_27 (by decide +kernel)
set_option maxRecDepth 20000 in
theorem ggX11_issue_X2_has : GoodIn wsX11_issue wsX2_has := goodIn_sub (fa_c (me_s (me_l (me_l (me_l (me_l (me_l (me_l (me_l (List.mem_of_getElem? (i := 8) rfl))))))))) (fa_a (fa_c (me_s (me_l (me_l (me_l (me_l (me_l (me_l (me_l (List.mem_of_getElem? (i := 9) rfl))))))))) fa_n) (fun w h => (me_s (me_l (me_l (me_l (me_l (me_r h))))))))) (by decide +kernel)
set_option maxRecDepth 20000 in
theorem gX11_issue_X2_has : GoodIn wsX11_issue (wsV RX11 96 RX2 yX2_has wsX2_has) := goodIn_app (goodIn_sub (fa_c (me_s (me_l (me_l (me_l (me_l (me_l (me_l (me_l (List.mem_of_getElem? (i := 4) rfl))))))))) (fa_c (me_s (me_l (me_l (me_l (me_l (me_l (me_l (me_l (List.mem_of_getElem? (i := 5) rfl))))))))) (fa_c (me_s (me_l (me_l (me_l (me_l (me_l (me_l (me_l (List.mem_of_getElem? (i := 6) rfl))))))))) (fa_c (me_s (me_l (me_l (me_l (me_l (me_l (me_l (me_l (List.mem_of_getElem? (i := 7) rfl))))))))) fa_n)))) (by decide +kernel)) ggX11_issue_X2_has
theorem dX11_issue_13 : decode cX11_issue 13 = .ok (.invokevirtual 96, 3) := z_dd_182 (by decide +kernel)
theorem dX11_issue_16 : decode cX11_issue 16 = .ok (.ifCond .eq 22, 3) := z_dd_153 (by decide +kernel)
theorem dX11_issue_38 : decode cX11_issue 38 = .ok (.iconst (-1), 1) := z_dd_2 (by decide +kernel)
theorem dX11_issue_39 : decode cX11_issue 39 = .ok (.ireturn, 1) := z_dd_172 (by decide +kernel)
theorem dX12_issue_0 : decode cX12_issue 0 = .ok (.aload_n 0, 1) := z_dd_42 (by decide +kernel)
theorem dX12_issue_1 : decode cX12_issue 1 = .ok (.iload_n 1, 1) := z_dd_27 (by decide +kernel)
set_option maxRecDepth 20000 in
theorem ggX12_issue_X12_isHolder : GoodIn wsX12_issue wsX12_isHolder := goodIn_sub (fa_c (me_s (me_l (me_l (List.mem_of_getElem? (i := 7) rfl)))) (fa_a (fa_c (me_s (me_l (me_l (List.mem_of_getElem? (i := 8) rfl)))) fa_n) (fun w h => (me_s (me_r h))))) (by decide +kernel)
set_option maxRecDepth 20000 in
theorem gX12_issue_X12_isHolder : GoodIn wsX12_issue (wsV RX12 239 RX12 yX12_isHolder wsX12_isHolder) := goodIn_app (goodIn_sub (fa_c (me_s (me_l (me_l (List.mem_of_getElem? (i := 3) rfl)))) (fa_c (me_s (me_l (me_l (List.mem_of_getElem? (i := 4) rfl)))) (fa_c (me_s (me_l (me_l (List.mem_of_getElem? (i := 5) rfl)))) (fa_c (me_s (me_l (me_l (List.mem_of_getElem? (i := 6) rfl)))) fa_n)))) (by decide +kernel)) ggX12_issue_X12_isHolder
theorem dX12_issue_2 : decode cX12_issue 2 = .ok (.invokevirtual 239, 3) := z_dd_182 (by decide +kernel)
theorem dX12_issue_5 : decode cX12_issue 5 = .ok (.ifCond .eq 48, 3) := z_dd_153 (by decide +kernel)
theorem dX12_issue_53 : decode cX12_issue 53 = .ok (.iconst (-1), 1) := z_dd_2 (by decide +kernel)
theorem dX12_issue_54 : decode cX12_issue 54 = .ok (.ireturn, 1) := z_dd_172 (by decide +kernel)
theorem dX11_pour_0 : decode cX11_pour 0 = .ok (.aload_n 0, 1) := z_dd_42 (by decide +kernel)
theorem dX11_pour_1 : decode cX11_pour 1 = .ok (.iload_n 1, 1) := z_dd_27 (by decide +kernel)
set_option maxRecDepth 20000 in
theorem ggX11_pour_X11_hasStation : GoodIn wsX11_pour wsX11_hasStation := goodIn_sub (fa_c (me_s (me_l (me_l (me_l (me_l (me_l (me_l (me_l (List.mem_of_getElem? (i := 13) rfl))))))))) (fa_a (fa_c (me_s (me_l (me_l (me_l (me_l (me_l (me_l (me_l (List.mem_of_getElem? (i := 14) rfl))))))))) fa_n) (fun w h => (me_s (me_l (me_l (me_l (me_l (me_l (me_r h)))))))))) (by decide +kernel)
set_option maxRecDepth 20000 in
theorem gX11_pour_X11_hasStation : GoodIn wsX11_pour (wsV RX11 182 RX11 yX11_hasStation wsX11_hasStation) := goodIn_app (goodIn_sub (fa_c (me_s (me_l (me_l (me_l (me_l (me_l (me_l (me_l (List.mem_of_getElem? (i := 9) rfl))))))))) (fa_c (me_s (me_l (me_l (me_l (me_l (me_l (me_l (me_l (List.mem_of_getElem? (i := 10) rfl))))))))) (fa_c (me_s (me_l (me_l (me_l (me_l (me_l (me_l (me_l (List.mem_of_getElem? (i := 11) rfl))))))))) (fa_c (me_s (me_l (me_l (me_l (me_l (me_l (me_l (me_l (List.mem_of_getElem? (i := 12) rfl))))))))) fa_n)))) (by decide +kernel)) ggX11_pour_X11_hasStation
theorem dX11_pour_2 : decode cX11_pour 2 = .ok (.invokevirtual 182, 3) := z_dd_182 (by decide +kernel)
theorem dX11_pour_5 : decode cX11_pour 5 = .ok (.ifCond .eq 24, 3) := z_dd_153 (by decide +kernel)
theorem dX11_pour_29 : decode cX11_pour 29 = .ok (.iconst (-1), 1) := z_dd_2 (by decide +kernel)
theorem dX11_pour_30 : decode cX11_pour 30 = .ok (.ireturn, 1) := z_dd_172 (by decide +kernel)
theorem dX12_pour_0 : decode cX12_pour 0 = .ok (.aload_n 0, 1) := z_dd_42 (by decide +kernel)
theorem dX12_pour_1 : decode cX12_pour 1 = .ok (.iload_n 1, 1) := z_dd_27 (by decide +kernel)
set_option maxRecDepth 20000 in
theorem ggX12_pour_X12_isStation : GoodIn wsX12_pour wsX12_isStation := goodIn_sub (fa_c (me_s (me_l (me_l (List.mem_of_getElem? (i := 17) rfl)))) (fa_a (fa_c (me_s (me_l (me_l (List.mem_of_getElem? (i := 18) rfl)))) fa_n) (fun w h => (me_s (me_r h))))) (by decide +kernel)
set_option maxRecDepth 20000 in
theorem gX12_pour_X12_isStation : GoodIn wsX12_pour (wsV RX12 464 RX12 yX12_isStation wsX12_isStation) := goodIn_app (goodIn_sub (fa_c (me_s (me_l (me_l (List.mem_of_getElem? (i := 13) rfl)))) (fa_c (me_s (me_l (me_l (List.mem_of_getElem? (i := 14) rfl)))) (fa_c (me_s (me_l (me_l (List.mem_of_getElem? (i := 15) rfl)))) (fa_c (me_s (me_l (me_l (List.mem_of_getElem? (i := 16) rfl)))) fa_n)))) (by decide +kernel)) ggX12_pour_X12_isStation
theorem dX12_pour_2 : decode cX12_pour 2 = .ok (.invokevirtual 464, 3) := z_dd_182 (by decide +kernel)
theorem dX12_pour_5 : decode cX12_pour 5 = .ok (.ifCond .eq 32, 3) := z_dd_153 (by decide +kernel)
theorem dX12_pour_37 : decode cX12_pour 37 = .ok (.iconst (-1), 1) := z_dd_2 (by decide +kernel)
theorem dX12_pour_38 : decode cX12_pour 38 = .ok (.ireturn, 1) := z_dd_172 (by decide +kernel)
theorem dX11_handIn_0 : decode cX11_handIn 0 = .ok (.aload_n 0, 1) := z_dd_42 (by decide +kernel)
theorem dX11_handIn_1 : decode cX11_handIn 1 = .ok (.iload_n 1, 1) := z_dd_27 (by decide +kernel)
set_option maxRecDepth 20000 in
theorem ggX11_handIn_X11_hasStation : GoodIn wsX11_handIn wsX11_hasStation := goodIn_sub (fa_c (me_s (me_l (me_l (me_l (me_l (me_l (me_l (List.mem_of_getElem? (i := 8) rfl)))))))) (fa_a (fa_c (me_s (me_l (me_l (me_l (me_l (me_l (me_l (List.mem_of_getElem? (i := 9) rfl)))))))) fa_n) (fun w h => (me_s (me_l (me_l (me_l (me_l (me_r h))))))))) (by decide +kernel)
set_option maxRecDepth 20000 in
theorem gX11_handIn_X11_hasStation : GoodIn wsX11_handIn (wsV RX11 182 RX11 yX11_hasStation wsX11_hasStation) := goodIn_app (goodIn_sub (fa_c (me_s (me_l (me_l (me_l (me_l (me_l (me_l (List.mem_of_getElem? (i := 4) rfl)))))))) (fa_c (me_s (me_l (me_l (me_l (me_l (me_l (me_l (List.mem_of_getElem? (i := 5) rfl)))))))) (fa_c (me_s (me_l (me_l (me_l (me_l (me_l (me_l (List.mem_of_getElem? (i := 6) rfl)))))))) (fa_c (me_s (me_l (me_l (me_l (me_l (me_l (me_l (List.mem_of_getElem? (i := 7) rfl)))))))) fa_n)))) (by decide +kernel)) ggX11_handIn_X11_hasStation
theorem dX11_handIn_2 : decode cX11_handIn 2 = .ok (.invokevirtual 182, 3) := z_dd_182 (by decide +kernel)
theorem dX11_handIn_5 : decode cX11_handIn 5 = .ok (.ifCond .ne 5, 3) := z_dd_154 (by decide +kernel)
theorem dX11_handIn_8 : decode cX11_handIn 8 = .ok (.iconst (-1), 1) := z_dd_2 (by decide +kernel)
theorem dX11_handIn_9 : decode cX11_handIn 9 = .ok (.ireturn, 1) := z_dd_172 (by decide +kernel)
theorem dX12_handIn_0 : decode cX12_handIn 0 = .ok (.aload_n 0, 1) := z_dd_42 (by decide +kernel)
theorem dX12_handIn_1 : decode cX12_handIn 1 = .ok (.iload_n 1, 1) := z_dd_27 (by decide +kernel)
set_option maxRecDepth 20000 in
theorem ggX12_handIn_X12_isStation : GoodIn wsX12_handIn wsX12_isStation := goodIn_sub (fa_c (me_s (me_l (me_l (List.mem_of_getElem? (i := 9) rfl)))) (fa_a (fa_c (me_s (me_l (me_l (List.mem_of_getElem? (i := 10) rfl)))) fa_n) (fun w h => (me_s (me_r h))))) (by decide +kernel)
set_option maxRecDepth 20000 in
theorem gX12_handIn_X12_isStation : GoodIn wsX12_handIn (wsV RX12 464 RX12 yX12_isStation wsX12_isStation) := goodIn_app (goodIn_sub (fa_c (me_s (me_l (me_l (List.mem_of_getElem? (i := 5) rfl)))) (fa_c (me_s (me_l (me_l (List.mem_of_getElem? (i := 6) rfl)))) (fa_c (me_s (me_l (me_l (List.mem_of_getElem? (i := 7) rfl)))) (fa_c (me_s (me_l (me_l (List.mem_of_getElem? (i := 8) rfl)))) fa_n)))) (by decide +kernel)) ggX12_handIn_X12_isStation
theorem dX12_handIn_2 : decode cX12_handIn 2 = .ok (.invokevirtual 464, 3) := z_dd_182 (by decide +kernel)
theorem dX12_handIn_5 : decode cX12_handIn 5 = .ok (.ifCond .ne 5, 3) := z_dd_154 (by decide +kernel)
theorem dX12_handIn_8 : decode cX12_handIn 8 = .ok (.iconst (-1), 1) := z_dd_2 (by decide +kernel)
theorem dX12_handIn_9 : decode cX12_handIn 9 = .ok (.ireturn, 1) := z_dd_172 (by decide +kernel)
theorem dX11_found_0 : decode cX11_found 0 = .ok (.aload_n 0, 1) := z_dd_42 (by decide +kernel)
theorem dX11_found_1 : decode cX11_found 1 = .ok (.getfield 16, 3) := z_dd_180 (by decide +kernel)
theorem dX11_found_4 : decode cX11_found 4 = .ok (.iload_n 1, 1) := z_dd_27 (by decide +kernel)
set_option maxRecDepth 20000 in
theorem ggX11_found_X2_has : GoodIn wsX11_found wsX2_has := goodIn_sub (fa_c (me_s (me_l (me_l (me_l (me_l (List.mem_of_getElem? (i := 6) rfl)))))) (fa_a (fa_c (me_s (me_l (me_l (me_l (me_l (List.mem_of_getElem? (i := 7) rfl)))))) fa_n) (fun w h => (me_s (me_l (me_r h)))))) (by decide +kernel)
set_option maxRecDepth 20000 in
theorem gX11_found_X2_has : GoodIn wsX11_found (wsV RX11 96 RX2 yX2_has wsX2_has) := goodIn_app (goodIn_sub (fa_c (me_s (me_l (me_l (me_l (me_l (List.mem_of_getElem? (i := 2) rfl)))))) (fa_c (me_s (me_l (me_l (me_l (me_l (List.mem_of_getElem? (i := 3) rfl)))))) (fa_c (me_s (me_l (me_l (me_l (me_l (List.mem_of_getElem? (i := 4) rfl)))))) (fa_c (me_s (me_l (me_l (me_l (me_l (List.mem_of_getElem? (i := 5) rfl)))))) fa_n)))) (by decide +kernel)) ggX11_found_X2_has
theorem dX11_found_5 : decode cX11_found 5 = .ok (.invokevirtual 96, 3) := z_dd_182 (by decide +kernel)
theorem dX11_found_8 : decode cX11_found 8 = .ok (.ifCond .ne 5, 3) := z_dd_154 (by decide +kernel)
theorem dX11_found_11 : decode cX11_found 11 = .ok (.iconst (-1), 1) := z_dd_2 (by decide +kernel)
theorem dX11_found_12 : decode cX11_found 12 = .ok (.ireturn, 1) := z_dd_172 (by decide +kernel)
theorem dX12_found_0 : decode cX12_found 0 = .ok (.aload_n 0, 1) := z_dd_42 (by decide +kernel)
theorem dX12_found_1 : decode cX12_found 1 = .ok (.iload_n 1, 1) := z_dd_27 (by decide +kernel)
set_option maxRecDepth 20000 in
theorem ggX12_found_X12_isHolder : GoodIn wsX12_found wsX12_isHolder := goodIn_sub (fa_c (me_s (me_l (List.mem_of_getElem? (i := 8) rfl))) (fa_a (fa_c (me_s (me_l (List.mem_of_getElem? (i := 9) rfl))) fa_n) (fun w h => (me_s (me_r h))))) (by decide +kernel)
set_option maxRecDepth 20000 in
theorem gX12_found_X12_isHolder : GoodIn wsX12_found (wsV RX12 239 RX12 yX12_isHolder wsX12_isHolder) := goodIn_app (goodIn_sub (fa_c (me_s (me_l (List.mem_of_getElem? (i := 4) rfl))) (fa_c (me_s (me_l (List.mem_of_getElem? (i := 5) rfl))) (fa_c (me_s (me_l (List.mem_of_getElem? (i := 6) rfl))) (fa_c (me_s (me_l (List.mem_of_getElem? (i := 7) rfl))) fa_n)))) (by decide +kernel)) ggX12_found_X12_isHolder
theorem dX12_found_2 : decode cX12_found 2 = .ok (.invokevirtual 239, 3) := z_dd_182 (by decide +kernel)
theorem dX12_found_5 : decode cX12_found 5 = .ok (.ifCond .ne 5, 3) := z_dd_154 (by decide +kernel)
theorem dX12_found_8 : decode cX12_found 8 = .ok (.iconst (-1), 1) := z_dd_2 (by decide +kernel)
theorem dX12_found_9 : decode cX12_found 9 = .ok (.ireturn, 1) := z_dd_172 (by decide +kernel)
theorem dX12_undo_0 : decode cX12_undo 0 = .ok (.iload_n 1, 1) := z_dd_27 (by decide +kernel)
theorem dX12_undo_1 : decode cX12_undo 1 = .ok (.ifCond .lt 20, 3) := z_dd_155 (by decide +kernel)
theorem dX12_undo_21 : decode cX12_undo 21 = .ok (.iconst 0, 1) := z_dd_3 (by decide +kernel)
theorem dX12_undo_22 : decode cX12_undo 22 = .ok (.ireturn, 1) := z_dd_172 (by decide +kernel)
theorem dX12_undo_4 : decode cX12_undo 4 = .ok (.iload_n 1, 1) := z_dd_27 (by decide +kernel)
theorem dX12_undo_5 : decode cX12_undo 5 = .ok (.aload_n 0, 1) := z_dd_42 (by decide +kernel)
theorem dX12_undo_6 : decode cX12_undo 6 = .ok (.getfield 246, 3) := z_dd_180 (by decide +kernel)
theorem dX12_undo_9 : decode cX12_undo 9 = .ok (.if_icmp .ge 12, 3) := z_dd_162 (by decide +kernel)
theorem dX11_want_0 : decode cX11_want 0 = .ok (.aload_n 0, 1) := z_dd_42 (by decide +kernel)
theorem dX11_want_1 : decode cX11_want 1 = .ok (.iload_n 1, 1) := z_dd_27 (by decide +kernel)
set_option maxRecDepth 20000 in
theorem ggX11_want_X11_hasStation : GoodIn wsX11_want wsX11_hasStation := goodIn_sub (fa_c (me_s (me_l (me_l (List.mem_of_getElem? (i := 5) rfl)))) (fa_a (fa_c (me_s (me_l (me_l (List.mem_of_getElem? (i := 6) rfl)))) fa_n) (fun w h => (me_s (me_l (me_r h)))))) (by decide +kernel)
set_option maxRecDepth 20000 in
theorem gX11_want_X11_hasStation : GoodIn wsX11_want (wsV RX11 182 RX11 yX11_hasStation wsX11_hasStation) := goodIn_app (goodIn_sub (fa_c (me_s (me_l (me_l (List.mem_of_getElem? (i := 1) rfl)))) (fa_c (me_s (me_l (me_l (List.mem_of_getElem? (i := 2) rfl)))) (fa_c (me_s (me_l (me_l (List.mem_of_getElem? (i := 3) rfl)))) (fa_c (me_s (me_l (me_l (List.mem_of_getElem? (i := 4) rfl)))) fa_n)))) (by decide +kernel)) ggX11_want_X11_hasStation
theorem dX11_want_2 : decode cX11_want 2 = .ok (.invokevirtual 182, 3) := z_dd_182 (by decide +kernel)
theorem dX11_want_5 : decode cX11_want 5 = .ok (.ifCond .eq 13, 3) := z_dd_153 (by decide +kernel)
theorem dX11_want_18 : decode cX11_want 18 = .ok (.iconst 0, 1) := z_dd_3 (by decide +kernel)
theorem dX11_want_19 : decode cX11_want 19 = .ok (.ireturn, 1) := z_dd_172 (by decide +kernel)
theorem dX12_want_0 : decode cX12_want 0 = .ok (.aload_n 0, 1) := z_dd_42 (by decide +kernel)
theorem dX12_want_1 : decode cX12_want 1 = .ok (.iload_n 1, 1) := z_dd_27 (by decide +kernel)
set_option maxRecDepth 20000 in
theorem ggX12_want_X12_isStation : GoodIn wsX12_want wsX12_isStation := goodIn_sub (fa_c (me_s (me_l (List.mem_of_getElem? (i := 5) rfl))) (fa_a (fa_c (me_s (me_l (List.mem_of_getElem? (i := 6) rfl))) fa_n) (fun w h => (me_s (me_r h))))) (by decide +kernel)
set_option maxRecDepth 20000 in
theorem gX12_want_X12_isStation : GoodIn wsX12_want (wsV RX12 464 RX12 yX12_isStation wsX12_isStation) := goodIn_app (goodIn_sub (fa_c (me_s (me_l (List.mem_of_getElem? (i := 1) rfl))) (fa_c (me_s (me_l (List.mem_of_getElem? (i := 2) rfl))) (fa_c (me_s (me_l (List.mem_of_getElem? (i := 3) rfl))) (fa_c (me_s (me_l (List.mem_of_getElem? (i := 4) rfl))) fa_n)))) (by decide +kernel)) ggX12_want_X12_isStation
theorem dX12_want_2 : decode cX12_want 2 = .ok (.invokevirtual 464, 3) := z_dd_182 (by decide +kernel)
theorem dX12_want_5 : decode cX12_want 5 = .ok (.ifCond .eq 13, 3) := z_dd_153 (by decide +kernel)
theorem dX12_want_18 : decode cX12_want 18 = .ok (.iconst 0, 1) := z_dd_3 (by decide +kernel)
theorem dX12_want_19 : decode cX12_want 19 = .ok (.ireturn, 1) := z_dd_172 (by decide +kernel)
theorem dX11_road_0 : decode cX11_road 0 = .ok (.aload_n 0, 1) := z_dd_42 (by decide +kernel)
theorem dX11_road_1 : decode cX11_road 1 = .ok (.getfield 61, 3) := z_dd_180 (by decide +kernel)
theorem dX11_road_4 : decode cX11_road 4 = .ok (.iload_n 1, 1) := z_dd_27 (by decide +kernel)
set_option maxRecDepth 20000 in
theorem ggX11_road_X4_hasPort : GoodIn wsX11_road wsX4_hasPort := goodIn_sub (fa_c (me_s (me_l (me_l (List.mem_of_getElem? (i := 5) rfl)))) (fa_a (fa_c (me_s (me_l (me_l (List.mem_of_getElem? (i := 6) rfl)))) fa_n) (fun w h => (me_s (me_r h))))) (by decide +kernel)
set_option maxRecDepth 20000 in
theorem gX11_road_X4_hasPort : GoodIn wsX11_road (wsV RX11 303 RX4 yX4_hasPort wsX4_hasPort) := goodIn_app (goodIn_sub (fa_c (me_s (me_l (me_l (List.mem_of_getElem? (i := 1) rfl)))) (fa_c (me_s (me_l (me_l (List.mem_of_getElem? (i := 2) rfl)))) (fa_c (me_s (me_l (me_l (List.mem_of_getElem? (i := 3) rfl)))) (fa_c (me_s (me_l (me_l (List.mem_of_getElem? (i := 4) rfl)))) fa_n)))) (by decide +kernel)) ggX11_road_X4_hasPort
theorem dX11_road_5 : decode cX11_road 5 = .ok (.invokevirtual 303, 3) := z_dd_182 (by decide +kernel)
theorem dX11_road_8 : decode cX11_road 8 = .ok (.ifCond .eq 22, 3) := z_dd_153 (by decide +kernel)
theorem dX11_road_30 : decode cX11_road 30 = .ok (.iconst 0, 1) := z_dd_3 (by decide +kernel)
theorem dX11_road_31 : decode cX11_road 31 = .ok (.ireturn, 1) := z_dd_172 (by decide +kernel)
theorem dX12_road_0 : decode cX12_road 0 = .ok (.iload_n 1, 1) := z_dd_27 (by decide +kernel)
theorem dX12_road_1 : decode cX12_road 1 = .ok (.ifCond .lt 30, 3) := z_dd_155 (by decide +kernel)
theorem dX12_road_31 : decode cX12_road 31 = .ok (.iconst 0, 1) := z_dd_3 (by decide +kernel)
theorem dX12_road_32 : decode cX12_road 32 = .ok (.ireturn, 1) := z_dd_172 (by decide +kernel)
theorem dX12_road_4 : decode cX12_road 4 = .ok (.iload_n 1, 1) := z_dd_27 (by decide +kernel)
theorem dX12_road_5 : decode cX12_road 5 = .ok (.aload_n 0, 1) := z_dd_42 (by decide +kernel)
theorem dX12_road_6 : decode cX12_road 6 = .ok (.getfield 493, 3) := z_dd_180 (by decide +kernel)
theorem dX12_road_9 : decode cX12_road 9 = .ok (.if_icmp .ge 22, 3) := z_dd_162 (by decide +kernel)
theorem dX11_ask_0 : decode cX11_ask 0 = .ok (.aload_n 0, 1) := z_dd_42 (by decide +kernel)
theorem dX11_ask_1 : decode cX11_ask 1 = .ok (.getfield 16, 3) := z_dd_180 (by decide +kernel)
theorem dX11_ask_4 : decode cX11_ask 4 = .ok (.iload_n 1, 1) := z_dd_27 (by decide +kernel)
set_option maxRecDepth 20000 in
theorem ggX11_ask_X2_has : GoodIn wsX11_ask wsX2_has := goodIn_sub (fa_c (me_s (me_l (me_l (me_l (me_l (me_l (me_l (me_l (List.mem_of_getElem? (i := 11) rfl))))))))) (fa_a (fa_c (me_s (me_l (me_l (me_l (me_l (me_l (me_l (me_l (List.mem_of_getElem? (i := 12) rfl))))))))) fa_n) (fun w h => (me_s (me_l (me_l (me_l (me_r h)))))))) (by decide +kernel)
set_option maxRecDepth 20000 in
theorem gX11_ask_X2_has : GoodIn wsX11_ask (wsV RX11 96 RX2 yX2_has wsX2_has) := goodIn_app (goodIn_sub (fa_c (me_s (me_l (me_l (me_l (me_l (me_l (me_l (me_l (List.mem_of_getElem? (i := 7) rfl))))))))) (fa_c (me_s (me_l (me_l (me_l (me_l (me_l (me_l (me_l (List.mem_of_getElem? (i := 8) rfl))))))))) (fa_c (me_s (me_l (me_l (me_l (me_l (me_l (me_l (me_l (List.mem_of_getElem? (i := 9) rfl))))))))) (fa_c (me_s (me_l (me_l (me_l (me_l (me_l (me_l (me_l (List.mem_of_getElem? (i := 10) rfl))))))))) fa_n)))) (by decide +kernel)) ggX11_ask_X2_has
theorem dX11_ask_5 : decode cX11_ask 5 = .ok (.invokevirtual 96, 3) := z_dd_182 (by decide +kernel)
theorem dX11_ask_8 : decode cX11_ask 8 = .ok (.ifCond .eq 24, 3) := z_dd_153 (by decide +kernel)
theorem dX11_ask_32 : decode cX11_ask 32 = .ok (.iconst (-1), 1) := z_dd_2 (by decide +kernel)
theorem dX11_ask_33 : decode cX11_ask 33 = .ok (.ireturn, 1) := z_dd_172 (by decide +kernel)
theorem dX12_ask_0 : decode cX12_ask 0 = .ok (.aload_n 0, 1) := z_dd_42 (by decide +kernel)
theorem dX12_ask_1 : decode cX12_ask 1 = .ok (.iload_n 1, 1) := z_dd_27 (by decide +kernel)
set_option maxRecDepth 20000 in
theorem ggX12_ask_X12_isHolder : GoodIn wsX12_ask wsX12_isHolder := goodIn_sub (fa_c (me_s (me_l (me_l (List.mem_of_getElem? (i := 15) rfl)))) (fa_a (fa_c (me_s (me_l (me_l (List.mem_of_getElem? (i := 16) rfl)))) fa_n) (fun w h => (me_s (me_r h))))) (by decide +kernel)
set_option maxRecDepth 20000 in
theorem gX12_ask_X12_isHolder : GoodIn wsX12_ask (wsV RX12 239 RX12 yX12_isHolder wsX12_isHolder) := goodIn_app (goodIn_sub (fa_c (me_s (me_l (me_l (List.mem_of_getElem? (i := 11) rfl)))) (fa_c (me_s (me_l (me_l (List.mem_of_getElem? (i := 12) rfl)))) (fa_c (me_s (me_l (me_l (List.mem_of_getElem? (i := 13) rfl)))) (fa_c (me_s (me_l (me_l (List.mem_of_getElem? (i := 14) rfl)))) fa_n)))) (by decide +kernel)) ggX12_ask_X12_isHolder
theorem dX12_ask_2 : decode cX12_ask 2 = .ok (.invokevirtual 239, 3) := z_dd_182 (by decide +kernel)
theorem dX12_ask_5 : decode cX12_ask 5 = .ok (.ifCond .eq 82, 3) := z_dd_153 (by decide +kernel)
theorem dX12_ask_87 : decode cX12_ask 87 = .ok (.iconst (-1), 1) := z_dd_2 (by decide +kernel)
theorem dX12_ask_88 : decode cX12_ask 88 = .ok (.ireturn, 1) := z_dd_172 (by decide +kernel)
theorem dX11_appeal_0 : decode cX11_appeal 0 = .ok (.aload_n 0, 1) := z_dd_42 (by decide +kernel)
theorem dX11_appeal_1 : decode cX11_appeal 1 = .ok (.getfield 68, 3) := z_dd_180 (by decide +kernel)
theorem dX11_appeal_4 : decode cX11_appeal 4 = .ok (.iload_n 1, 1) := z_dd_27 (by decide +kernel)
set_option maxRecDepth 20000 in
theorem ggX11_appeal_X3_has : GoodIn wsX11_appeal wsX3_has := goodIn_sub (fa_c (me_s (me_l (me_l (me_l (me_l (me_l (me_l (me_l (List.mem_of_getElem? (i := 9) rfl))))))))) (fa_a (fa_c (me_s (me_l (me_l (me_l (me_l (me_l (me_l (me_l (List.mem_of_getElem? (i := 10) rfl))))))))) fa_n) (fun w h => (me_s (me_l (me_l (me_l (me_l (me_r h))))))))) (by decide +kernel)
set_option maxRecDepth 20000 in
theorem gX11_appeal_X3_has : GoodIn wsX11_appeal (wsV RX11 328 RX3 yX3_has wsX3_has) := goodIn_app (goodIn_sub (fa_c (me_s (me_l (me_l (me_l (me_l (me_l (me_l (me_l (List.mem_of_getElem? (i := 5) rfl))))))))) (fa_c (me_s (me_l (me_l (me_l (me_l (me_l (me_l (me_l (List.mem_of_getElem? (i := 6) rfl))))))))) (fa_c (me_s (me_l (me_l (me_l (me_l (me_l (me_l (me_l (List.mem_of_getElem? (i := 7) rfl))))))))) (fa_c (me_s (me_l (me_l (me_l (me_l (me_l (me_l (me_l (List.mem_of_getElem? (i := 8) rfl))))))))) fa_n)))) (by decide +kernel)) ggX11_appeal_X3_has
theorem dX11_appeal_5 : decode cX11_appeal 5 = .ok (.invokevirtual 328, 3) := z_dd_182 (by decide +kernel)
theorem dX11_appeal_8 : decode cX11_appeal 8 = .ok (.ifCond .eq 10, 3) := z_dd_153 (by decide +kernel)
theorem dX11_appeal_18 : decode cX11_appeal 18 = .ok (.iconst (-1), 1) := z_dd_2 (by decide +kernel)
theorem dX11_appeal_19 : decode cX11_appeal 19 = .ok (.ireturn, 1) := z_dd_172 (by decide +kernel)
theorem dX12_appeal_0 : decode cX12_appeal 0 = .ok (.iload_n 1, 1) := z_dd_27 (by decide +kernel)
theorem dX12_appeal_1 : decode cX12_appeal 1 = .ok (.ifCond .lt 20, 3) := z_dd_155 (by decide +kernel)
theorem dX12_appeal_21 : decode cX12_appeal 21 = .ok (.iconst (-1), 1) := z_dd_2 (by decide +kernel)
theorem dX12_appeal_22 : decode cX12_appeal 22 = .ok (.ireturn, 1) := z_dd_172 (by decide +kernel)
theorem dX12_appeal_4 : decode cX12_appeal 4 = .ok (.iload_n 1, 1) := z_dd_27 (by decide +kernel)
theorem dX12_appeal_5 : decode cX12_appeal 5 = .ok (.aload_n 0, 1) := z_dd_42 (by decide +kernel)
theorem dX12_appeal_6 : decode cX12_appeal 6 = .ok (.getfield 505, 3) := z_dd_180 (by decide +kernel)
theorem dX12_appeal_9 : decode cX12_appeal 9 = .ok (.if_icmp .ge 12, 3) := z_dd_162 (by decide +kernel)
theorem dX11_journey_0 : decode cX11_journey 0 = .ok (.aload_n 0, 1) := z_dd_42 (by decide +kernel)
theorem dX11_journey_1 : decode cX11_journey 1 = .ok (.getfield 68, 3) := z_dd_180 (by decide +kernel)
theorem dX11_journey_4 : decode cX11_journey 4 = .ok (.iload_n 1, 1) := z_dd_27 (by decide +kernel)
set_option maxRecDepth 20000 in
theorem ggX11_journey_X3_has : GoodIn wsX11_journey wsX3_has := goodIn_sub (fa_c (me_s (me_l (me_l (me_l (me_l (List.mem_of_getElem? (i := 7) rfl)))))) (fa_a (fa_c (me_s (me_l (me_l (me_l (me_l (List.mem_of_getElem? (i := 8) rfl)))))) fa_n) (fun w h => (me_s (me_l (me_r h)))))) (by decide +kernel)
set_option maxRecDepth 20000 in
theorem gX11_journey_X3_has : GoodIn wsX11_journey (wsV RX11 328 RX3 yX3_has wsX3_has) := goodIn_app (goodIn_sub (fa_c (me_s (me_l (me_l (me_l (me_l (List.mem_of_getElem? (i := 3) rfl)))))) (fa_c (me_s (me_l (me_l (me_l (me_l (List.mem_of_getElem? (i := 4) rfl)))))) (fa_c (me_s (me_l (me_l (me_l (me_l (List.mem_of_getElem? (i := 5) rfl)))))) (fa_c (me_s (me_l (me_l (me_l (me_l (List.mem_of_getElem? (i := 6) rfl)))))) fa_n)))) (by decide +kernel)) ggX11_journey_X3_has
theorem dX11_journey_5 : decode cX11_journey 5 = .ok (.invokevirtual 328, 3) := z_dd_182 (by decide +kernel)
theorem dX11_journey_8 : decode cX11_journey 8 = .ok (.ifCond .ne 5, 3) := z_dd_154 (by decide +kernel)
theorem dX11_journey_11 : decode cX11_journey 11 = .ok (.iconst (-1), 1) := z_dd_2 (by decide +kernel)
theorem dX11_journey_12 : decode cX11_journey 12 = .ok (.ireturn, 1) := z_dd_172 (by decide +kernel)
theorem dX12_journey_0 : decode cX12_journey 0 = .ok (.iload_n 1, 1) := z_dd_27 (by decide +kernel)
theorem dX12_journey_1 : decode cX12_journey 1 = .ok (.ifCond .lt 11, 3) := z_dd_155 (by decide +kernel)
theorem dX12_journey_12 : decode cX12_journey 12 = .ok (.iconst (-1), 1) := z_dd_2 (by decide +kernel)
theorem dX12_journey_13 : decode cX12_journey 13 = .ok (.ireturn, 1) := z_dd_172 (by decide +kernel)
theorem dX12_journey_4 : decode cX12_journey 4 = .ok (.iload_n 1, 1) := z_dd_27 (by decide +kernel)
theorem dX12_journey_5 : decode cX12_journey 5 = .ok (.aload_n 0, 1) := z_dd_42 (by decide +kernel)
theorem dX12_journey_6 : decode cX12_journey 6 = .ok (.getfield 505, 3) := z_dd_180 (by decide +kernel)
theorem dX12_journey_9 : decode cX12_journey 9 = .ok (.if_icmp .lt 5, 3) := z_dd_161 (by decide +kernel)
theorem z_l0 : (0 : Int32).toInt = 0 := by decide
theorem z_l4 : (4 : Int32).toInt = 4 := by decide
theorem z_l23 : (23 : Int32).toInt = 23 := by decide
theorem z_l719 : (719 : Int32).toInt = 719 := by decide
noncomputable def zLX : List z_S := [.inr 11, .inr 2, .inl (.int, 30), .inl (.int, 30), .inl (.int, 30), .inl (.int, 30), .inl (.int, 30), .inl (.int, 200), .inl (.int, 200), .inl (.int, 200), .inl (.int, 200), .inl (.int, 200), .inr 9, .inl (.int, 500), .inl (.int, 501), .inl (.int, 501), .inl (.int, 501), .inl (.int, 500), .inl (.int, 24), .inl (.int, 24), .inl (.int, 24), .inr 6, .inl ((.object RX7), 12), .inr 5, .inl (.int, 7), .inl (.int, 64), .inr 0, .inl (.int, 720), .inl (.int, 512), .inl (.int, 512), .inr 8, .inl (.int, 300), .inl (.int, 300), .inl (.int, 300), .inl (.int, 300), .inl (.int, 300), .inl (.int, 300), .inl (.int, 300), .inl (.int, 300), .inl ((.object RX10), 10), .inl (.int, 30), .inr 4, .inl (.int, 4), .inl (.int, 10), .inl ((.array .int), 4), .inl (.int, 10), .inl (.int, 10), .inl (.int, 10), .inl (.int, 10), .inl ((.array .int), 4), .inl (.int, 10), .inl (.int, 10), .inl (.int, 10), .inl (.int, 10), .inl (.int, 4), .inl (.int, 10), .inl (.int, 4), .inl (.int, 10), .inl (.int, 10), .inl (.int, 4), .inr 3, .inl (.int, 60), .inl (.int, 60), .inl (.int, 60), .inl (.int, 60), .inl (.int, 60), .inl (.int, 60), .inl (.int, 60), .inl (.int, 60), .inl (.int, 60), .inl (.int, 12), .inl (.int, 12), .inr 1, .inl (.int, 30), .inl (.int, 30)]
noncomputable def shX : Nat → Option z_S := fun i => zLX[i]?
noncomputable def PX (ad : Nat → Nat) : z_P := fun i k => match i with
  | 0 => (([none, none, some (ad 1), some (ad 12), some (ad 21), some (ad 26), some (ad 30), some (ad 39), none, some (ad 40), some (ad 41), some (ad 60), some (ad 72)] : List (Option Nat))[k]?).join
  | 1 => (([some (ad 2), some (ad 3), some (ad 4), some (ad 5), some (ad 6), none, some (ad 7), some (ad 8), some (ad 9), some (ad 10), some (ad 11)] : List (Option Nat))[k]?).join
  | 12 => (([some (ad 13), none, some (ad 14), some (ad 15), some (ad 16), none, none, none, some (ad 17), none, some (ad 18), some (ad 19), some (ad 20)] : List (Option Nat))[k]?).join
  | 21 => (([some (ad 22), some (ad 23)] : List (Option Nat))[k]?).join
  | 23 => (([some (ad 24), some (ad 25)] : List (Option Nat))[k]?).join
  | 26 => (([some (ad 27), some (ad 28), some (ad 29)] : List (Option Nat))[k]?).join
  | 30 => (([some (ad 31), some (ad 32), some (ad 33), some (ad 34), some (ad 35), some (ad 36), some (ad 37), some (ad 38)] : List (Option Nat))[k]?).join
  | 41 => (([some (ad 42), some (ad 43), some (ad 44), some (ad 49), some (ad 54), some (ad 55), some (ad 56), some (ad 57), some (ad 58), some (ad 59)] : List (Option Nat))[k]?).join
  | 44 => (([some (ad 45), some (ad 46), some (ad 47), some (ad 48)] : List (Option Nat))[k]?).join
  | 49 => (([some (ad 50), some (ad 51), some (ad 52), some (ad 53)] : List (Option Nat))[k]?).join
  | 60 => (([some (ad 61), some (ad 62), some (ad 63), some (ad 64), some (ad 65), some (ad 66), some (ad 67), some (ad 68), some (ad 69), none, some (ad 70), some (ad 71)] : List (Option Nat))[k]?).join
  | 72 => (([some (ad 73), some (ad 74)] : List (Option Nat))[k]?).join
  | _ => none
noncomputable def IX : z_I := fun i k => match i with
  | 0 => if k = 1 then -1 else 0
  | 27 => -1
  | 40 => -1
  | _ => 0
noncomputable def JX : z_J := fun _ _ => 0
noncomputable def zLM : List z_S := [.inr 12, .inl (.int, 30), .inl (.int, 30), .inl (.int, 30), .inl (.int, 30), .inl (.int, 30), .inl (.int, 200), .inl (.int, 200), .inl (.int, 200), .inl (.int, 200), .inl (.int, 200), .inl (.int, 12), .inl (.int, 12), .inl (.int, 12), .inl (.int, 12), .inl (.int, 320), .inl (.int, 320), .inl (.int, 320), .inl (.int, 320), .inl (.int, 320), .inl (.int, 320), .inl (.int, 6200), .inl (.int, 6200), .inl (.int, 6200), .inl (.long, 6200), .inl (.byte, 500), .inl (.int, 120), .inl (.int, 120), .inl (.int, 120), .inl (.int, 120), .inl (.long, 7), .inl (.int, 720), .inl (.int, 72000), .inl (.boolean, 100000), .inl (.int, 300), .inl (.int, 300), .inl (.int, 300), .inl (.int, 300), .inl (.int, 300), .inl (.int, 300), .inl (.int, 300), .inl (.int, 300), .inl (.boolean, 300), .inl (.int, 10), .inl (.int, 10), .inl (.int, 300), .inl (.int, 300), .inl (.int, 10), .inl (.int, 300), .inl (.int, 300), .inl (.int, 300), .inl (.int, 30), .inl (.int, 4), .inl (.int, 10), .inl (.int, 40), .inl (.int, 256), .inl (.int, 256), .inl (.int, 16), .inl (.int, 16), .inl (.int, 60), .inl (.int, 60), .inl (.int, 60), .inl (.int, 60), .inl (.int, 60), .inl (.int, 60), .inl (.int, 60), .inl (.int, 60), .inl (.int, 60), .inl (.int, 12), .inl (.int, 30), .inl (.boolean, 30)]
noncomputable def shM : Nat → Option z_S := fun i => zLM[i]?
noncomputable def PM (ad : Nat → Nat) : z_P := fun i k => match i with
  | 0 => (([none, none, none, some (ad 1), some (ad 2), some (ad 3), some (ad 4), some (ad 5), some (ad 6), some (ad 7), some (ad 8), some (ad 9), some (ad 10), none, none, none, some (ad 11), some (ad 12), some (ad 13), some (ad 14), some (ad 15), some (ad 16), some (ad 17), some (ad 18), some (ad 19), some (ad 20), some (ad 21), some (ad 22), some (ad 23), some (ad 24), some (ad 25), none, none, none, none, none, none, none, none, none, none, none, none, some (ad 26), some (ad 27), some (ad 28), some (ad 29), none, some (ad 30), some (ad 31), none, none, some (ad 32), some (ad 33), none, none, none, some (ad 34), some (ad 35), some (ad 36), some (ad 37), some (ad 38), some (ad 39), some (ad 40), some (ad 41), some (ad 42), some (ad 43), some (ad 44), some (ad 45), some (ad 46), some (ad 47), some (ad 48), some (ad 49), some (ad 50), some (ad 51), none, some (ad 52), some (ad 53), some (ad 54), some (ad 55), some (ad 56), some (ad 57), some (ad 58), none, some (ad 59), some (ad 60), some (ad 61), some (ad 62), some (ad 63), some (ad 64), some (ad 65), some (ad 66), some (ad 67), some (ad 68), some (ad 69), some (ad 70)] : List (Option Nat))[k]?).join
  | _ => none
noncomputable def IM : z_I := fun i k => match i with
  | 0 => if k = 32 then -1 else 0
  | _ => 0
noncomputable def JM : z_J := fun _ _ => 0
set_option maxHeartbeats 4000000 in
set_option maxRecDepth 100000 in
theorem ct_X11_within (l : Launch) (G : z_G) (u : z_U) (a1 : Int32) (a2 : Int32) (a3 : Int32) : z_M l yX11_within wsX11_within { frames := 1, cells := 0, slots := 0, locals := 12 } [.int a1, .int a2, .int a3] G u (fun r u1 => u1 = u ∧ (r = 1 ∧ a2 ≤ a1 ∧ a1 ≤ a3 ∨ r = 0 ∧ ¬ (a2 ≤ a1 ∧ a1 ≤ a3))) 0 0 := by
  intro sz
  refine z_headQ (cc := cX11_within) (maxL := 3) (ret := (some .boolean)) (by decide) rfl (Nat.le_of_ble_eq_true rfl) ?_
  intro p e s m below meth c ls hIn hK hsz hW hl
  obtain ⟨hx, hb, hr, hml, hown, hts, hlocks, hname⟩ := hIn
  subst hsz
  have hown : s.vm.findClass RX11 = some m.cls := hown
  have hA : ∀ q : Nat, s.heap.size ≤ q → z_A u s.heap.size q := fun q h => Or.inr h
  generalize hAe : z_A u s.heap.size = A at *
  have hS : va_S A s.heap s.heap [] := va_S.rf
  have hl : lv_has ls 3 [(0, .int a1), (1, .int a2), (2, .int a3)] := hl
  refine lv_iload_n hx hb dX11_within_0 rfl (lv_at hl 0 rfl) ?_
  refine lv_iload_n hx hb dX11_within_1 rfl (lv_at hl 1 rfl) ?_
  refine lv_icmp_lt (tgt := 14) hx hb dX11_within_2 (by decide) (fun c1 => ?_) (fun c1 => ?_)
  · refine lv_iconst (v := 0) hx hb dX11_within_14 (by decide) ?_
    exact z_zret hx hb hr (by decide) hK hS (Nat.le_of_ble_eq_true rfl) (Nat.le_of_ble_eq_true rfl) hlocks dX11_within_15 u hW (by refine ⟨rfl, Or.inr ⟨rfl, fun q => ?_⟩⟩ <;> simp only [Int32.lt_iff_toInt_lt, Int32.le_iff_toInt_le] at * <;> omega)
  · refine lv_iload_n hx hb dX11_within_5 rfl (lv_at hl 0 rfl) ?_
    refine lv_iload_n hx hb dX11_within_6 rfl (lv_at hl 2 rfl) ?_
    refine lv_icmp_gt (tgt := 14) hx hb dX11_within_7 (by decide) (fun c2 => ?_) (fun c2 => ?_)
    · refine lv_iconst (v := 0) hx hb dX11_within_14 (by decide) ?_
      exact z_zret hx hb hr (by decide) hK hS (Nat.le_of_ble_eq_true rfl) (Nat.le_of_ble_eq_true rfl) hlocks dX11_within_15 u hW (by refine ⟨rfl, Or.inr ⟨rfl, fun q => ?_⟩⟩ <;> simp only [Int32.lt_iff_toInt_lt, Int32.le_iff_toInt_le] at * <;> omega)
    · refine lv_iconst (v := 1) hx hb dX11_within_10 (by decide) ?_
      refine lv_goto (tgt := 15) hx hb dX11_within_11 (by decide) ?_
      exact z_zret hx hb hr (by decide) hK hS (Nat.le_of_ble_eq_true rfl) (Nat.le_of_ble_eq_true rfl) hlocks dX11_within_15 u hW (by refine ⟨rfl, Or.inl ⟨rfl, ?_, ?_⟩⟩ <;> simp only [Int32.lt_iff_toInt_lt, Int32.le_iff_toInt_le] at * <;> omega)