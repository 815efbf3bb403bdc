theorem dX2_cancelNote_0 : decode cX2_cancelNote 0 = .ok (.iload_n 1, 1) := by decide +kernel
theorem dX2_cancelNote_1 : decode cX2_cancelNote 1 = .ok (.ifCond .lt 30, 3) := by decide +kernel
theorem dX2_cancelNote_31 : decode cX2_cancelNote 31 = .ok (.iconst 0, 1) := by decide +kernel
theorem dX2_cancelNote_32 : decode cX2_cancelNote 32 = .ok (.ireturn, 1) := by decide +kernel
theorem dX2_cancelNote_4 : decode cX2_cancelNote 4 = .ok (.iload_n 1, 1) := by decide +kernel
theorem dX2_cancelNote_5 : decode cX2_cancelNote 5 = .ok (.aload_n 0, 1) := by decide +kernel
theorem dX2_cancelNote_6 : decode cX2_cancelNote 6 = .ok (.getfield 46, 3) := by decide +kernel
theorem dX2_cancelNote_9 : decode cX2_cancelNote 9 = .ok (.if_icmp .ge 22, 3) := by decide +kernel
theorem dX11_undo_0 : decode cX11_undo 0 = .ok (.aload_n 0, 1) := by decide +kernel
theorem dX11_undo_1 : decode cX11_undo 1 = .ok (.getfield 16, 3) := by decide +kernel
theorem dX11_undo_4 : decode cX11_undo 4 = .ok (.iload_n 1, 1) := by decide +kernel
theorem dX11_undo_5 : decode cX11_undo 5 = .ok (.aload_n 0, 1) := by decide +kernel
theorem dX11_undo_6 : decode cX11_undo 6 = .ok (.getfield 85, 3) := by decide +kernel
set_option maxRecDepth 20000 in
theorem ggX11_undo_X2_cancelNote : GoodIn wsX11_undo wsX2_cancelNote := goodIn_sub (fa_c (me_s (me_l (me_l (List.mem_of_getElem? (i := 6) rfl)))) (fa_a (fa_c (me_s (me_l (me_l (List.mem_of_getElem? (i := 7) rfl)))) (fa_c (me_s (me_l (me_l (List.mem_of_getElem? (i := 8) rfl)))) fa_n)) (fun w h => (me_s (me_r h))))) (by decide +kernel)
set_option maxRecDepth 20000 in
theorem gX11_undo_X2_cancelNote : GoodIn wsX11_undo (wsV RX11 107 RX2 yX2_cancelNote wsX2_cancelNote) := goodIn_app (goodIn_sub (fa_c (me_s (me_l (me_l (List.mem_of_getElem? (i := 2) rfl)))) (fa_c (me_s (me_l (me_l (List.mem_of_getElem? (i := 3) rfl)))) (fa_c (me_s (me_l (me_l (List.mem_of_getElem? (i := 4) rfl)))) (fa_c (me_s (me_l (me_l (List.mem_of_getElem? (i := 5) rfl)))) fa_n)))) (by decide +kernel)) ggX11_undo_X2_cancelNote
theorem dX11_undo_9 : decode cX11_undo 9 = .ok (.invokevirtual 107, 3) := by decide +kernel
theorem dX11_undo_12 : decode cX11_undo 12 = .ok (.ireturn, 1) := by decide +kernel
theorem dX11_day_0 : decode cX11_day 0 = .ok (.iload_n 1, 1) := by decide +kernel
theorem dX11_day_1 : decode cX11_day 1 = .ok (.aload_n 0, 1) := by decide +kernel
theorem dX11_day_2 : decode cX11_day 2 = .ok (.getfield 85, 3) := by decide +kernel
theorem dX11_day_5 : decode cX11_day 5 = .ok (.if_icmp .le 10, 3) := by decide +kernel
theorem dX11_day_15 : decode cX11_day 15 = .ok (.iconst 0, 1) := by decide +kernel
theorem dX11_day_16 : decode cX11_day 16 = .ok (.ireturn, 1) := by decide +kernel
theorem dX11_day_8 : decode cX11_day 8 = .ok (.iload_n 1, 1) := by decide +kernel
theorem dX11_day_9 : decode cX11_day 9 = .ok (.sipush 720, 3) := by decide +kernel
theorem dX11_day_12 : decode cX11_day 12 = .ok (.if_icmp .lt 5, 3) := by decide +kernel
theorem dX11_day_17 : decode cX11_day 17 = .ok (.aload_n 0, 1) := by decide +kernel
theorem dX11_day_18 : decode cX11_day 18 = .ok (.iload_n 1, 1) := by decide +kernel
theorem dX11_day_19 : decode cX11_day 19 = .ok (.putfield 85, 3) := by decide +kernel
theorem dX11_day_22 : decode cX11_day 22 = .ok (.iconst 1, 1) := by decide +kernel
theorem dX11_day_23 : decode cX11_day 23 = .ok (.ireturn, 1) := by decide +kernel
theorem dX11_fault_0 : decode cX11_fault 0 = .ok (.aload_n 0, 1) := by decide +kernel
theorem dX11_fault_1 : decode cX11_fault 1 = .ok (.getfield 9, 3) := by decide +kernel
theorem dX11_fault_4 : decode cX11_fault 4 = .ok (.ireturn, 1) := by decide +kernel
theorem dX11_level_0 : decode cX11_level 0 = .ok (.iload_n 1, 1) := by decide +kernel
theorem dX11_level_1 : decode cX11_level 1 = .ok (.ifCond .lt 23, 3) := by decide +kernel
theorem dX11_level_24 : decode cX11_level 24 = .ok (.iconst 0, 1) := by decide +kernel
theorem dX11_level_25 : decode cX11_level 25 = .ok (.ireturn, 1) := by decide +kernel
theorem dX11_level_4 : decode cX11_level 4 = .ok (.iload_n 1, 1) := by decide +kernel
theorem dX11_level_5 : decode cX11_level 5 = .ok (.aload_n 0, 1) := by decide +kernel
theorem dX11_level_6 : decode cX11_level 6 = .ok (.getfield 54, 3) := by decide +kernel
theorem dX11_level_9 : decode cX11_level 9 = .ok (.arraylength, 1) := by decide +kernel
theorem dX11_level_10 : decode cX11_level 10 = .ok (.if_icmp .ge 14, 3) := by decide +kernel
theorem dX11_level_13 : decode cX11_level 13 = .ok (.iload_n 2, 1) := by decide +kernel
theorem dX11_level_14 : decode cX11_level 14 = .ok (.iconst 0, 1) := by decide +kernel
theorem dX11_level_15 : decode cX11_level 15 = .ok (.ldc_w 291, 3) := by decide +kernel
set_option maxRecDepth 20000 in
theorem ggX11_level_X11_within : GoodIn wsX11_level wsX11_within := goodIn_sub (fa_c (me_s (me_l (List.mem_of_getElem? (i := 5) rfl))) fa_n) (by decide +kernel)
set_option maxRecDepth 20000 in
theorem gX11_level_X11_within : GoodIn wsX11_level (va_wsS RX11 88 yX11_within wsX11_within) := goodIn_app (goodIn_sub (fa_c (me_s (me_l (List.mem_of_getElem? (i := 2) rfl))) (fa_c (me_s (me_l (List.mem_of_getElem? (i := 3) rfl))) (fa_c (me_s (me_l (List.mem_of_getElem? (i := 4) rfl))) fa_n))) (by decide +kernel)) ggX11_level_X11_within
theorem dX11_level_18 : decode cX11_level 18 = .ok (.invokestatic 88, 3) := by decide +kernel
theorem dX11_level_21 : decode cX11_level 21 = .ok (.ifCond .ne 5, 3) := by decide +kernel
theorem dX11_level_26 : decode cX11_level 26 = .ok (.aload_n 0, 1) := by decide +kernel
theorem dX11_level_27 : decode cX11_level 27 = .ok (.getfield 54, 3) := by decide +kernel
theorem dX11_level_30 : decode cX11_level 30 = .ok (.iload_n 1, 1) := by decide +kernel
theorem dX11_level_31 : decode cX11_level 31 = .ok (.iload_n 2, 1) := by decide +kernel
theorem dX11_level_32 : decode cX11_level 32 = .ok (.iastore, 1) := by decide +kernel
theorem dX11_level_33 : decode cX11_level 33 = .ok (.iconst 1, 1) := by decide +kernel
theorem dX11_level_34 : decode cX11_level 34 = .ok (.ireturn, 1) := by decide +kernel
theorem dX12_day_0 : decode cX12_day 0 = .ok (.iload_n 1, 1) := by decide +kernel
theorem dX12_day_1 : decode cX12_day 1 = .ok (.aload_n 0, 1) := by decide +kernel
theorem dX12_day_2 : decode cX12_day 2 = .ok (.getfield 232, 3) := by decide +kernel
theorem dX12_day_5 : decode cX12_day 5 = .ok (.if_icmp .le 10, 3) := by decide +kernel
theorem dX12_day_15 : decode cX12_day 15 = .ok (.iconst 0, 1) := by decide +kernel
theorem dX12_day_16 : decode cX12_day 16 = .ok (.ireturn, 1) := by decide +kernel
theorem dX12_day_8 : decode cX12_day 8 = .ok (.iload_n 1, 1) := by decide +kernel
theorem dX12_day_9 : decode cX12_day 9 = .ok (.sipush 719, 3) := by decide +kernel
theorem dX12_day_12 : decode cX12_day 12 = .ok (.if_icmp .le 5, 3) := by decide +kernel
theorem dX12_day_17 : decode cX12_day 17 = .ok (.aload_n 0, 1) := by decide +kernel
theorem dX12_day_18 : decode cX12_day 18 = .ok (.iload_n 1, 1) := by decide +kernel
theorem dX12_day_19 : decode cX12_day 19 = .ok (.putfield 232, 3) := by decide +kernel
theorem dX12_day_22 : decode cX12_day 22 = .ok (.iconst 1, 1) := by decide +kernel
theorem dX12_day_23 : decode cX12_day 23 = .ok (.ireturn, 1) := by decide +kernel
theorem dX12_fault_0 : decode cX12_fault 0 = .ok (.aload_n 0, 1) := by decide +kernel
theorem dX12_fault_1 : decode cX12_fault 1 = .ok (.getfield 87, 3) := by decide +kernel
theorem dX12_fault_4 : decode cX12_fault 4 = .ok (.ireturn, 1) := by decide +kernel
theorem dX12_level_0 : decode cX12_level 0 = .ok (.iload_n 1, 1) := by decide +kernel
theorem dX12_level_1 : decode cX12_level 1 = .ok (.iconst 0, 1) := by decide +kernel
theorem dX12_level_2 : decode cX12_level 2 = .ok (.bipush 29, 2) := by decide +kernel
set_option maxRecDepth 20000 in
theorem ggX12_level_X12_within : GoodIn wsX12_level wsX12_within := goodIn_sub (fa_c (me_s (me_l (List.mem_of_getElem? (i := 5) rfl))) fa_n) (by decide +kernel)
set_option maxRecDepth 20000 in
theorem gX12_level_X12_within : GoodIn wsX12_level (va_wsS RX12 235 yX12_within wsX12_within) := goodIn_app (goodIn_sub (fa_c (me_s (me_l (List.mem_of_getElem? (i := 2) rfl))) (fa_c (me_s (me_l (List.mem_of_getElem? (i := 3) rfl))) (fa_c (me_s (me_l (List.mem_of_getElem? (i := 4) rfl))) fa_n))) (by decide +kernel)) ggX12_level_X12_within
theorem dX12_level_4 : decode cX12_level 4 = .ok (.invokestatic 235, 3) := by decide +kernel
theorem dX12_level_7 : decode cX12_level 7 = .ok (.ifCond .eq 14, 3) := by decide +kernel
theorem dX12_level_10 : decode cX12_level 10 = .ok (.iload_n 2, 1) := by decide +kernel
theorem dX12_level_11 : decode cX12_level 11 = .ok (.iconst 0, 1) := by decide +kernel
theorem dX12_level_12 : decode cX12_level 12 = .ok (.ldc_w 492, 3) := by decide +kernel
theorem dX12_level_15 : decode cX12_level 15 = .ok (.invokestatic 235, 3) := by decide +kernel
theorem dX12_level_18 : decode cX12_level 18 = .ok (.ifCond .ne 5, 3) := by decide +kernel
theorem dX12_level_23 : decode cX12_level 23 = .ok (.aload_n 0, 1) := by decide +kernel
theorem dX12_level_24 : decode cX12_level 24 = .ok (.getfield 169, 3) := by decide +kernel
theorem dX12_level_27 : decode cX12_level 27 = .ok (.iload_n 1, 1) := by decide +kernel
theorem dX12_level_28 : decode cX12_level 28 = .ok (.iload_n 2, 1) := by decide +kernel
theorem dX12_level_29 : decode cX12_level 29 = .ok (.iastore, 1) := by decide +kernel
theorem dX12_level_30 : decode cX12_level 30 = .ok (.iconst 1, 1) := by decide +kernel
theorem dX12_level_31 : decode cX12_level 31 = .ok (.ireturn, 1) := by decide +kernel
theorem dX12_level_21 : decode cX12_level 21 = .ok (.iconst 0, 1) := by decide +kernel
theorem dX12_level_22 : decode cX12_level 22 = .ok (.ireturn, 1) := by decide +kernel
theorem dX4_addPort_0 : decode cX4_addPort 0 = .ok (.aload_n 0, 1) := by decide +kernel
theorem dX4_addPort_1 : decode cX4_addPort 1 = .ok (.getfield 44, 3) := by decide +kernel
theorem dX4_addPort_4 : decode cX4_addPort 4 = .ok (.iconst 4, 1) := by decide +kernel
theorem dX4_addPort_5 : decode cX4_addPort 5 = .ok (.if_icmp .lt 5, 3) := by decide +kernel
theorem dX4_addPort_10 : decode cX4_addPort 10 = .ok (.aload_n 0, 1) := by decide +kernel
theorem dX4_addPort_11 : decode cX4_addPort 11 = .ok (.getfield 9, 3) := by decide +kernel
theorem dX4_addPort_14 : decode cX4_addPort 14 = .ok (.aload_n 0, 1) := by decide +kernel
theorem dX4_addPort_15 : decode cX4_addPort 15 = .ok (.getfield 44, 3) := by decide +kernel
theorem dX4_addPort_18 : decode cX4_addPort 18 = .ok (.iload_n 1, 1) := by decide +kernel
theorem dX4_addPort_19 : decode cX4_addPort 19 = .ok (.iastore, 1) := by decide +kernel
theorem dX4_addPort_20 : decode cX4_addPort 20 = .ok (.aload_n 0, 1) := by decide +kernel
theorem dX4_addPort_21 : decode cX4_addPort 21 = .ok (.dup, 1) := by decide +kernel
theorem dX4_addPort_22 : decode cX4_addPort 22 = .ok (.getfield 44, 3) := by decide +kernel
theorem dX4_addPort_25 : decode cX4_addPort 25 = .ok (.iconst 1, 1) := by decide +kernel
theorem dX4_addPort_26 : decode cX4_addPort 26 = .ok (.iadd, 1) := by decide +kernel
theorem dX4_addPort_27 : decode cX4_addPort 27 = .ok (.putfield 44, 3) := by decide +kernel
theorem dX4_addPort_30 : decode cX4_addPort 30 = .ok (.aload_n 0, 1) := by decide +kernel
theorem dX4_addPort_31 : decode cX4_addPort 31 = .ok (.getfield 44, 3) := by decide +kernel
theorem dX4_addPort_34 : decode cX4_addPort 34 = .ok (.iconst 1, 1) := by decide +kernel
theorem dX4_addPort_35 : decode cX4_addPort 35 = .ok (.isub, 1) := by decide +kernel
theorem dX4_addPort_36 : decode cX4_addPort 36 = .ok (.ireturn, 1) := by decide +kernel
theorem dX2_add_0 : decode cX2_add 0 = .ok (.aload_n 0, 1) := by decide +kernel
theorem dX2_add_1 : decode cX2_add 1 = .ok (.getfield 42, 3) := by decide +kernel
theorem dX2_add_4 : decode cX2_add 4 = .ok (.bipush 30, 2) := by decide +kernel
theorem dX2_add_6 : decode cX2_add 6 = .ok (.if_icmp .lt 5, 3) := by decide +kernel
theorem dX2_add_11 : decode cX2_add 11 = .ok (.aload_n 0, 1) := by decide +kernel
theorem dX2_add_12 : decode cX2_add 12 = .ok (.getfield 9, 3) := by decide +kernel
theorem dX2_add_15 : decode cX2_add 15 = .ok (.aload_n 0, 1) := by decide +kernel
theorem dX2_add_16 : decode cX2_add 16 = .ok (.getfield 42, 3) := by decide +kernel
theorem dX2_add_19 : decode cX2_add 19 = .ok (.iload_n 1, 1) := by decide +kernel
theorem dX2_add_20 : decode cX2_add 20 = .ok (.iastore, 1) := by decide +kernel
theorem dX2_add_21 : decode cX2_add 21 = .ok (.aload_n 0, 1) := by decide +kernel
theorem dX2_add_22 : decode cX2_add 22 = .ok (.getfield 15, 3) := by decide +kernel
theorem dX2_add_25 : decode cX2_add 25 = .ok (.aload_n 0, 1) := by decide +kernel
theorem dX2_add_26 : decode cX2_add 26 = .ok (.getfield 42, 3) := by decide +kernel
theorem dX2_add_29 : decode cX2_add 29 = .ok (.iload_n 2, 1) := by decide +kernel
theorem dX2_add_30 : decode cX2_add 30 = .ok (.iastore, 1) := by decide +kernel
theorem dX2_add_31 : decode cX2_add 31 = .ok (.aload_n 0, 1) := by decide +kernel
theorem dX2_add_32 : decode cX2_add 32 = .ok (.getfield 18, 3) := by decide +kernel
theorem dX2_add_35 : decode cX2_add 35 = .ok (.aload_n 0, 1) := by decide +kernel
theorem dX2_add_36 : decode cX2_add 36 = .ok (.getfield 42, 3) := by decide +kernel
theorem dX2_add_39 : decode cX2_add 39 = .ok (.iload_n 3, 1) := by decide +kernel
theorem dX2_add_40 : decode cX2_add 40 = .ok (.iastore, 1) := by decide +kernel
theorem dX2_add_41 : decode cX2_add 41 = .ok (.aload_n 0, 1) := by decide +kernel
theorem dX2_add_42 : decode cX2_add 42 = .ok (.getfield 21, 3) := by decide +kernel
theorem dX2_add_45 : decode cX2_add 45 = .ok (.aload_n 0, 1) := by decide +kernel
theorem dX2_add_46 : decode cX2_add 46 = .ok (.getfield 42, 3) := by decide +kernel
theorem dX2_add_49 : decode cX2_add 49 = .ok (.iload 4, 2) := by decide +kernel
theorem dX2_add_51 : decode cX2_add 51 = .ok (.iastore, 1) := by decide +kernel
theorem dX2_add_52 : decode cX2_add 52 = .ok (.aload_n 0, 1) := by decide +kernel
theorem dX2_add_53 : decode cX2_add 53 = .ok (.getfield 24, 3) := by decide +kernel
theorem dX2_add_56 : decode cX2_add 56 = .ok (.aload_n 0, 1) := by decide +kernel
theorem dX2_add_57 : decode cX2_add 57 = .ok (.getfield 42, 3) := by decide +kernel
theorem dX2_add_60 : decode cX2_add 60 = .ok (.iload 5, 2) := by decide +kernel
theorem dX2_add_62 : decode cX2_add 62 = .ok (.iastore, 1) := by decide +kernel
theorem dX2_add_63 : decode cX2_add 63 = .ok (.aload_n 0, 1) := by decide +kernel
theorem dX2_add_64 : decode cX2_add 64 = .ok (.dup, 1) := by decide +kernel
theorem dX2_add_65 : decode cX2_add 65 = .ok (.getfield 42, 3) := by decide +kernel
theorem dX2_add_68 : decode cX2_add 68 = .ok (.iconst 1, 1) := by decide +kernel
theorem dX2_add_69 : decode cX2_add 69 = .ok (.iadd, 1) := by decide +kernel
theorem dX2_add_70 : decode cX2_add 70 = .ok (.putfield 42, 3) := by decide +kernel
theorem dX2_add_73 : decode cX2_add 73 = .ok (.aload_n 0, 1) := by decide +kernel
theorem dX2_add_74 : decode cX2_add 74 = .ok (.getfield 42, 3) := by decide +kernel
theorem dX2_add_77 : decode cX2_add 77 = .ok (.iconst 1, 1) := by decide +kernel
theorem dX2_add_78 : decode cX2_add 78 = .ok (.isub, 1) := by decide +kernel
theorem dX2_add_79 : decode cX2_add 79 = .ok (.ireturn, 1) := by decide +kernel
theorem dX8_judgedGood_0 : decode cX8_judgedGood 0 = .ok (.iconst 0, 1) := by decide +kernel
theorem dX8_judgedGood_1 : decode cX8_judgedGood 1 = .ok (.istore_n 1, 1) := by decide +kernel
theorem dX8_judgedGood_2 : decode cX8_judgedGood 2 = .ok (.iconst 0, 1) := by decide +kernel
theorem dX8_judgedGood_3 : decode cX8_judgedGood 3 = .ok (.istore_n 2, 1) := by decide +kernel
theorem dX8_judgedGood_4 : decode cX8_judgedGood 4 = .ok (.iload_n 2, 1) := by decide +kernel
theorem dX8_judgedGood_5 : decode cX8_judgedGood 5 = .ok (.aload_n 0, 1) := by decide +kernel
theorem dX8_judgedGood_6 : decode cX8_judgedGood 6 = .ok (.getfield 36, 3) := by decide +kernel
theorem dX8_judgedGood_9 : decode cX8_judgedGood 9 = .ok (.if_icmp .ge 33, 3) := by decide +kernel
theorem dX8_judgedGood_42 : decode cX8_judgedGood 42 = .ok (.iload_n 1, 1) := by decide +kernel
theorem dX8_judgedGood_43 : decode cX8_judgedGood 43 = .ok (.ireturn, 1) := by decide +kernel
theorem dX8_judgedOtherwise_0 : decode cX8_judgedOtherwise 0 = .ok (.iconst 0, 1) := by decide +kernel
theorem dX8_judgedOtherwise_1 : decode cX8_judgedOtherwise 1 = .ok (.istore_n 1, 1) := by decide +kernel
theorem dX8_judgedOtherwise_2 : decode cX8_judgedOtherwise 2 = .ok (.iconst 0, 1) := by decide +kernel
theorem dX8_judgedOtherwise_3 : decode cX8_judgedOtherwise 3 = .ok (.istore_n 2, 1) := by decide +kernel
theorem dX8_judgedOtherwise_4 : decode cX8_judgedOtherwise 4 = .ok (.iload_n 2, 1) := by decide +kernel
theorem dX8_judgedOtherwise_5 : decode cX8_judgedOtherwise 5 = .ok (.aload_n 0, 1) := by decide +kernel
theorem dX8_judgedOtherwise_6 : decode cX8_judgedOtherwise 6 = .ok (.getfield 36, 3) := by decide +kernel
theorem dX8_judgedOtherwise_9 : decode cX8_judgedOtherwise 9 = .ok (.if_icmp .ge 33, 3) := by decide +kernel
theorem dX8_judgedOtherwise_42 : decode cX8_judgedOtherwise 42 = .ok (.iload_n 1, 1) := by decide +kernel
theorem dX8_judgedOtherwise_43 : decode cX8_judgedOtherwise 43 = .ok (.ireturn, 1) := by decide +kernel
theorem dX8_tell_0 : decode cX8_tell 0 = .ok (.aload_n 0, 1) := by decide +kernel
theorem dX8_tell_1 : decode cX8_tell 1 = .ok (.iload_n 1, 1) := by decide +kernel
set_option maxRecDepth 20000 in
theorem ggX8_tell_X8_has : GoodIn wsX8_tell wsX8_has := goodIn_sub (fa_c (me_s (me_l (List.mem_of_getElem? (i := 11) rfl))) (fa_a (fa_c (me_s (me_l (List.mem_of_getElem? (i := 12) rfl))) fa_n) (fun w h => (me_s (me_r h))))) (by decide +kernel)
set_option maxRecDepth 20000 in
theorem gX8_tell_X8_has : GoodIn wsX8_tell (wsV RX8 40 RX8 yX8_has wsX8_has) := goodIn_app (goodIn_sub (fa_c (me_s (me_l (List.mem_of_getElem? (i := 7) rfl))) (fa_c (me_s (me_l (List.mem_of_getElem? (i := 8) rfl))) (fa_c (me_s (me_l (List.mem_of_getElem? (i := 9) rfl))) (fa_c (me_s (me_l (List.mem_of_getElem? (i := 10) rfl))) fa_n)))) (by decide +kernel)) ggX8_tell_X8_has
theorem dX8_tell_2 : decode cX8_tell 2 = .ok (.invokevirtual 40, 3) := by decide +kernel
theorem dX8_tell_5 : decode cX8_tell 5 = .ok (.ifCond .ne 5, 3) := by decide +kernel
theorem dX8_tell_8 : decode cX8_tell 8 = .ok (.iconst (-1), 1) := by decide +kernel
theorem dX8_tell_9 : decode cX8_tell 9 = .ok (.ireturn, 1) := by decide +kernel
theorem dX11_port_0 : decode cX11_port 0 = .ok (.iload_n 1, 1) := by decide +kernel
theorem dX11_port_1 : decode cX11_port 1 = .ok (.iconst 0, 1) := by decide +kernel
theorem dX11_port_2 : decode cX11_port 2 = .ok (.bipush 50, 2) := by decide +kernel
set_option maxRecDepth 20000 in
theorem ggX11_port_X11_within : GoodIn wsX11_port wsX11_within := goodIn_sub (fa_c (me_s (me_l (me_l (List.mem_of_getElem? (i := 4) rfl)))) fa_n) (by decide +kernel)
set_option maxRecDepth 20000 in
theorem gX11_port_X11_within : GoodIn wsX11_port (va_wsS RX11 88 yX11_within wsX11_within) := goodIn_app (goodIn_sub (fa_c (me_s (me_l (me_l (List.mem_of_getElem? (i := 1) rfl)))) (fa_c (me_s (me_l (me_l (List.mem_of_getElem? (i := 2) rfl)))) (fa_c (me_s (me_l (me_l (List.mem_of_getElem? (i := 3) rfl)))) fa_n))) (by decide +kernel)) ggX11_port_X11_within
theorem dX11_port_4 : decode cX11_port 4 = .ok (.invokestatic 88, 3) := by decide +kernel
theorem dX11_port_7 : decode cX11_port 7 = .ok (.ifCond .ne 5, 3) := by decide +kernel
theorem dX11_port_12 : decode cX11_port 12 = .ok (.aload_n 0, 1) := by decide +kernel
theorem dX11_port_13 : decode cX11_port 13 = .ok (.getfield 61, 3) := by decide +kernel
theorem dX11_port_16 : decode cX11_port 16 = .ok (.iload_n 1, 1) := by decide +kernel
set_option maxRecDepth 20000 in
theorem ggX11_port_X4_addPort : GoodIn wsX11_port wsX4_addPort := goodIn_sub (fa_c (me_s (me_l (me_l (List.mem_of_getElem? (i := 9) rfl)))) (fa_a (fa_c (me_s (me_l (me_l (List.mem_of_getElem? (i := 10) rfl)))) (fa_c (me_s (me_l (me_l (List.mem_of_getElem? (i := 11) rfl)))) fa_n)) (fun w h => (me_s (me_r h))))) (by decide +kernel)
set_option maxRecDepth 20000 in
theorem gX11_port_X4_addPort : GoodIn wsX11_port (wsV RX11 296 RX4 yX4_addPort wsX4_addPort) := goodIn_app (goodIn_sub (fa_c (me_s (me_l (me_l (List.mem_of_getElem? (i := 5) rfl)))) (fa_c (me_s (me_l (me_l (List.mem_of_getElem? (i := 6) rfl)))) (fa_c (me_s (me_l (me_l (List.mem_of_getElem? (i := 7) rfl)))) (fa_c (me_s (me_l (me_l (List.mem_of_getElem? (i := 8) rfl)))) fa_n)))) (by decide +kernel)) ggX11_port_X4_addPort
theorem dX11_port_17 : decode cX11_port 17 = .ok (.invokevirtual 296, 3) := by decide +kernel
theorem dX11_port_20 : decode cX11_port 20 = .ok (.ireturn, 1) := by decide +kernel
theorem dX11_port_10 : decode cX11_port 10 = .ok (.iconst (-1), 1) := by decide +kernel
theorem dX11_port_11 : decode cX11_port 11 = .ok (.ireturn, 1) := by decide +kernel
theorem dX11_holder_0 : decode cX11_holder 0 = .ok (.iload_n 1, 1) := by decide +kernel
theorem dX11_holder_1 : decode cX11_holder 1 = .ok (.iconst 1, 1) := by decide +kernel
theorem dX11_holder_2 : decode cX11_holder 2 = .ok (.bipush 9, 2) := by decide +kernel
set_option maxRecDepth 20000 in
theorem ggX11_holder_X11_within : GoodIn wsX11_holder wsX11_within := goodIn_sub (fa_c (me_s (me_l (me_l (List.mem_of_getElem? (i := 4) rfl)))) fa_n) (by decide +kernel)
set_option maxRecDepth 20000 in
theorem gX11_holder_X11_within : GoodIn wsX11_holder (va_wsS RX11 88 yX11_within wsX11_within) := goodIn_app (goodIn_sub (fa_c (me_s (me_l (me_l (List.mem_of_getElem? (i := 1) rfl)))) (fa_c (me_s (me_l (me_l (List.mem_of_getElem? (i := 2) rfl)))) (fa_c (me_s (me_l (me_l (List.mem_of_getElem? (i := 3) rfl)))) fa_n))) (by decide +kernel)) ggX11_holder_X11_within
theorem dX11_holder_4 : decode cX11_holder 4 = .ok (.invokestatic 88, 3) := by decide +kernel
theorem dX11_holder_7 : decode cX11_holder 7 = .ok (.ifCond .eq 23, 3) := by decide +kernel
theorem dX11_holder_10 : decode cX11_holder 10 = .ok (.iload_n 2, 1) := by decide +kernel
theorem dX11_holder_11 : decode cX11_holder 11 = .ok (.iconst 0, 1) := by decide +kernel
theorem dX11_holder_12 : decode cX11_holder 12 = .ok (.bipush 9, 2) := by decide +kernel
theorem dX11_holder_14 : decode cX11_holder 14 = .ok (.invokestatic 88, 3) := by decide +kernel
theorem dX11_holder_17 : decode cX11_holder 17 = .ok (.ifCond .eq 13, 3) := by decide +kernel
theorem dX11_holder_20 : decode cX11_holder 20 = .ok (.iload_n 3, 1) := by decide +kernel
theorem dX11_holder_21 : decode cX11_holder 21 = .ok (.iconst 1, 1) := by decide +kernel
theorem dX11_holder_22 : decode cX11_holder 22 = .ok (.bipush 8, 2) := by decide +kernel
theorem dX11_holder_24 : decode cX11_holder 24 = .ok (.invokestatic 88, 3) := by decide +kernel
theorem dX11_holder_27 : decode cX11_holder 27 = .ok (.ifCond .ne 5, 3) := by decide +kernel
theorem dX11_holder_32 : decode cX11_holder 32 = .ok (.iload 4, 2) := by decide +kernel
theorem dX11_holder_34 : decode cX11_holder 34 = .ok (.iconst 0, 1) := by decide +kernel
theorem dX11_holder_35 : decode cX11_holder 35 = .ok (.sipush 999, 3) := by decide +kernel
theorem dX11_holder_38 : decode cX11_holder 38 = .ok (.invokestatic 88, 3) := by decide +kernel
theorem dX11_holder_41 : decode cX11_holder 41 = .ok (.ifCond .eq 14, 3) := by decide +kernel
theorem dX11_holder_44 : decode cX11_holder 44 = .ok (.iload 5, 2) := by decide +kernel
theorem dX11_holder_46 : decode cX11_holder 46 = .ok (.iconst 0, 1) := by decide +kernel
theorem dX11_holder_47 : decode cX11_holder 47 = .ok (.bipush 99, 2) := by decide +kernel
theorem dX11_holder_49 : decode cX11_holder 49 = .ok (.invokestatic 88, 3) := by decide +kernel
theorem dX11_holder_52 : decode cX11_holder 52 = .ok (.ifCond .ne 5, 3) := by decide +kernel
theorem dX11_holder_57 : decode cX11_holder 57 = .ok (.aload_n 0, 1) := by decide +kernel
theorem dX11_holder_58 : decode cX11_holder 58 = .ok (.getfield 16, 3) := by decide +kernel
theorem dX11_holder_61 : decode cX11_holder 61 = .ok (.iload_n 1, 1) := by decide +kernel
theorem dX11_holder_62 : decode cX11_holder 62 = .ok (.iload_n 2, 1) := by decide +kernel
theorem dX11_holder_63 : decode cX11_holder 63 = .ok (.iload_n 3, 1) := by decide +kernel
theorem dX11_holder_64 : decode cX11_holder 64 = .ok (.iload 4, 2) := by decide +kernel
theorem dX11_holder_66 : decode cX11_holder 66 = .ok (.iload 5, 2) := by decide +kernel
set_option maxRecDepth 20000 in
theorem ggX11_holder_X2_add : GoodIn wsX11_holder wsX2_add := goodIn_sub (fa_c (me_s (me_l (me_l (List.mem_of_getElem? (i := 9) rfl)))) (fa_a (fa_c (me_s (me_l (me_l (List.mem_of_getElem? (i := 10) rfl)))) (fa_c (me_s (me_l (me_l (List.mem_of_getElem? (i := 11) rfl)))) (fa_c (me_s (me_l (me_l (List.mem_of_getElem? (i := 12) rfl)))) (fa_c (me_s (me_l (me_l (List.mem_of_getElem? (i := 13) rfl)))) (fa_c (me_s (me_l (me_l (List.mem_of_getElem? (i := 14) rfl)))) (fa_c (me_s (me_l (me_l (List.mem_of_getElem? (i := 15) rfl)))) fa_n)))))) (fun w h => (me_s (me_r h))))) (by decide +kernel)
set_option maxRecDepth 20000 in
theorem gX11_holder_X2_add : GoodIn wsX11_holder (wsV RX11 92 RX2 yX2_add wsX2_add) := goodIn_app (goodIn_sub (fa_c (me_s (me_l (me_l (List.mem_of_getElem? (i := 5) rfl)))) (fa_c (me_s (me_l (me_l (List.mem_of_getElem? (i := 6) rfl)))) (fa_c (me_s (me_l (me_l (List.mem_of_getElem? (i := 7) rfl)))) (fa_c (me_s (me_l (me_l (List.mem_of_getElem? (i := 8) rfl)))) fa_n)))) (by decide +kernel)) ggX11_holder_X2_add
theorem dX11_holder_68 : decode cX11_holder 68 = .ok (.invokevirtual 92, 3) := by decide +kernel
theorem dX11_holder_71 : decode cX11_holder 71 = .ok (.ireturn, 1) := by decide +kernel
theorem dX11_holder_55 : decode cX11_holder 55 = .ok (.iconst (-1), 1) := by decide +kernel
theorem dX11_holder_56 : decode cX11_holder 56 = .ok (.ireturn, 1) := by decide +kernel
theorem dX11_holder_30 : decode cX11_holder 30 = .ok (.iconst (-1), 1) := by decide +kernel
theorem dX11_holder_31 : decode cX11_holder 31 = .ok (.ireturn, 1) := by decide +kernel
theorem dX11_count_0 : decode cX11_count 0 = .ok (.iload_n 1, 1) := by decide +kernel
theorem dX11_count_1 : decode cX11_count 1 = .ok (.tableswitch 165 0 12 #[67, 72, 80, 88, 96, 104, 109, 117, 125, 133, 141, 149, 157], 67) := by decide +kernel
theorem dX11_count_68 : decode cX11_count 68 = .ok (.aload_n 0, 1) := by decide +kernel
theorem dX11_count_69 : decode cX11_count 69 = .ok (.getfield 85, 3) := by decide +kernel
theorem dX11_count_72 : decode cX11_count 72 = .ok (.ireturn, 1) := by decide +kernel
theorem dX11_count_73 : decode cX11_count 73 = .ok (.aload_n 0, 1) := by decide +kernel
theorem dX11_count_74 : decode cX11_count 74 = .ok (.getfield 16, 3) := by decide +kernel
theorem dX11_count_77 : decode cX11_count 77 = .ok (.getfield 373, 3) := by decide +kernel
theorem dX11_count_80 : decode cX11_count 80 = .ok (.ireturn, 1) := by decide +kernel
theorem dX11_count_81 : decode cX11_count 81 = .ok (.aload_n 0, 1) := by decide +kernel
theorem dX11_count_82 : decode cX11_count 82 = .ok (.getfield 16, 3) := by decide +kernel
theorem dX11_count_85 : decode cX11_count 85 = .ok (.getfield 407, 3) := by decide +kernel
theorem dX11_count_88 : decode cX11_count 88 = .ok (.ireturn, 1) := by decide +kernel
theorem dX11_count_89 : decode cX11_count 89 = .ok (.aload_n 0, 1) := by decide +kernel
theorem dX11_count_90 : decode cX11_count 90 = .ok (.getfield 30, 3) := by decide +kernel
theorem dX11_count_93 : decode cX11_count 93 = .ok (.getfield 125, 3) := by decide +kernel
theorem dX11_count_96 : decode cX11_count 96 = .ok (.ireturn, 1) := by decide +kernel
theorem dX11_count_97 : decode cX11_count 97 = .ok (.aload_n 0, 1) := by decide +kernel
theorem dX11_count_98 : decode cX11_count 98 = .ok (.getfield 37, 3) := by decide +kernel
theorem dX11_count_101 : decode cX11_count 101 = .ok (.getfield 410, 3) := by decide +kernel
theorem dX11_count_104 : decode cX11_count 104 = .ok (.ireturn, 1) := by decide +kernel
theorem dX11_count_105 : decode cX11_count 105 = .ok (.aload_n 0, 1) := by decide +kernel
theorem dX11_count_106 : decode cX11_count 106 = .ok (.getfield 178, 3) := by decide +kernel
theorem dX11_count_109 : decode cX11_count 109 = .ok (.ireturn, 1) := by decide +kernel
theorem dX11_count_110 : decode cX11_count 110 = .ok (.aload_n 0, 1) := by decide +kernel
theorem dX11_count_111 : decode cX11_count 111 = .ok (.getfield 44, 3) := by decide +kernel
theorem dX11_count_114 : decode cX11_count 114 = .ok (.getfield 201, 3) := by decide +kernel
theorem dX11_count_117 : decode cX11_count 117 = .ok (.ireturn, 1) := by decide +kernel
theorem dX11_count_118 : decode cX11_count 118 = .ok (.aload_n 0, 1) := by decide +kernel
theorem dX11_count_119 : decode cX11_count 119 = .ok (.getfield 44, 3) := by decide +kernel
set_option maxRecDepth 20000 in
theorem ggX11_count_X8_judgedGood : GoodIn wsX11_count wsX8_judgedGood := goodIn_sub (fa_c (me_s (me_l (me_l (me_l (me_l (me_l (me_l (me_l (me_l (me_l (List.mem_of_getElem? (i := 22) rfl))))))))))) (fa_a (fa_c (me_s (me_l (me_l (me_l (me_l (me_l (me_l (me_l (me_l (me_l (List.mem_of_getElem? (i := 23) rfl))))))))))) (fa_c (me_s (me_l (me_l (me_l (me_l (me_l (me_l (me_l (me_l (me_r (List.mem_of_getElem? (i := 0) rfl))))))))))) fa_n)) (fun w h => (me_s (me_l (me_l (me_l (me_r h)))))))) (by decide +kernel)
set_option maxRecDepth 20000 in
theorem gX11_count_X8_judgedGood : GoodIn wsX11_count (wsV RX11 413 RX8 yX8_judgedGood wsX8_judgedGood) := goodIn_app (goodIn_sub (fa_c (me_s (me_l (me_l (me_l (me_l (me_l (me_l (me_l (me_l (me_l (List.mem_of_getElem? (i := 18) rfl))))))))))) (fa_c (me_s (me_l (me_l (me_l (me_l (me_l (me_l (me_l (me_l (me_l (List.mem_of_getElem? (i := 19) rfl))))))))))) (fa_c (me_s (me_l (me_l (me_l (me_l (me_l (me_l (me_l (me_l (me_l (List.mem_of_getElem? (i := 20) rfl))))))))))) (fa_c (me_s (me_l (me_l (me_l (me_l (me_l (me_l (me_l (me_l (me_l (List.mem_of_getElem? (i := 21) rfl))))))))))) fa_n)))) (by decide +kernel)) ggX11_count_X8_judgedGood
theorem dX11_count_122 : decode cX11_count 122 = .ok (.invokevirtual 413, 3) := by decide +kernel
theorem dX11_count_125 : decode cX11_count 125 = .ok (.ireturn, 1) := by decide +kernel
theorem dX11_count_126 : decode cX11_count 126 = .ok (.aload_n 0, 1) := by decide +kernel
theorem dX11_count_127 : decode cX11_count 127 = .ok (.getfield 44, 3) := by decide +kernel
set_option maxRecDepth 20000 in
theorem ggX11_count_X8_judgedOtherwise : GoodIn wsX11_count wsX8_judgedOtherwise := goodIn_sub (fa_c (me_s (me_l (me_l (me_l (me_l (me_l (me_l (me_l (me_l (me_r (List.mem_of_getElem? (i := 4) rfl))))))))))) (fa_a (fa_c (me_s (me_l (me_l (me_l (me_l (me_l (me_l (me_l (me_l (me_l (List.mem_of_getElem? (i := 23) rfl))))))))))) (fa_c (me_s (me_l (me_l (me_l (me_l (me_l (me_l (me_l (me_l (me_r (List.mem_of_getElem? (i := 0) rfl))))))))))) fa_n)) (fun w h => (me_s (me_l (me_l (me_l (me_r h)))))))) (by decide +kernel)
set_option maxRecDepth 20000 in
theorem gX11_count_X8_judgedOtherwise : GoodIn wsX11_count (wsV RX11 416 RX8 yX8_judgedOtherwise wsX8_judgedOtherwise) := goodIn_app (goodIn_sub (fa_c (me_s (me_l (me_l (me_l (me_l (me_l (me_l (me_l (me_l (me_r (List.mem_of_getElem? (i := 1) rfl))))))))))) (fa_c (me_s (me_l (me_l (me_l (me_l (me_l (me_l (me_l (me_l (me_r (List.mem_of_getElem? (i := 2) rfl))))))))))) (fa_c (me_s (me_l (me_l (me_l (me_l (me_l (me_l (me_l (me_l (me_r (List.mem_of_getElem? (i := 3) rfl))))))))))) (fa_c (me_s (me_l (me_l (me_l (me_l (me_l (me_l (me_l (me_l (me_l (List.mem_of_getElem? (i := 21) rfl))))))))))) fa_n)))) (by decide +kernel)) ggX11_count_X8_judgedOtherwise
theorem dX11_count_130 : decode cX11_count 130 = .ok (.invokevirtual 416, 3) := by decide +kernel
theorem dX11_count_133 : decode cX11_count 133 = .ok (.ireturn, 1) := by decide +kernel
theorem dX11_count_134 : decode cX11_count 134 = .ok (.aload_n 0, 1) := by decide +kernel
theorem dX11_count_135 : decode cX11_count 135 = .ok (.getfield 37, 3) := by decide +kernel
theorem dX11_count_138 : decode cX11_count 138 = .ok (.getfield 419, 3) := by decide +kernel
theorem dX11_count_141 : decode cX11_count 141 = .ok (.ireturn, 1) := by decide +kernel
theorem dX11_count_142 : decode cX11_count 142 = .ok (.aload_n 0, 1) := by decide +kernel
theorem dX11_count_143 : decode cX11_count 143 = .ok (.getfield 61, 3) := by decide +kernel
theorem dX11_count_146 : decode cX11_count 146 = .ok (.getfield 422, 3) := by decide +kernel
theorem dX11_count_149 : decode cX11_count 149 = .ok (.ireturn, 1) := by decide +kernel
theorem dX11_count_150 : decode cX11_count 150 = .ok (.aload_n 0, 1) := by decide +kernel
theorem dX11_count_151 : decode cX11_count 151 = .ok (.getfield 68, 3) := by decide +kernel
theorem dX11_count_154 : decode cX11_count 154 = .ok (.getfield 425, 3) := by decide +kernel
theorem dX11_count_157 : decode cX11_count 157 = .ok (.ireturn, 1) := by decide +kernel
theorem dX11_count_158 : decode cX11_count 158 = .ok (.aload_n 0, 1) := by decide +kernel
theorem dX11_count_159 : decode cX11_count 159 = .ok (.getfield 23, 3) := by decide +kernel
theorem dX11_count_162 : decode cX11_count 162 = .ok (.getfield 115, 3) := by decide +kernel
theorem dX11_count_165 : decode cX11_count 165 = .ok (.ireturn, 1) := by decide +kernel
theorem dX11_count_166 : decode cX11_count 166 = .ok (.iconst (-1), 1) := by decide +kernel
theorem dX11_count_167 : decode cX11_count 167 = .ok (.ireturn, 1) := by decide +kernel
theorem dX11_other_0 : decode cX11_other 0 = .ok (.iload_n 1, 1) := by decide +kernel
theorem dX11_other_1 : decode cX11_other 1 = .ok (.iconst 0, 1) := by decide +kernel
theorem dX11_other_2 : decode cX11_other 2 = .ok (.iconst 2, 1) := by decide +kernel
set_option maxRecDepth 20000 in
theorem ggX11_other_X11_within : GoodIn wsX11_other wsX11_within := goodIn_sub (fa_c (me_s (me_l (me_l (me_l (me_l (me_l (me_l (me_l (List.mem_of_getElem? (i := 5) rfl))))))))) fa_n) (by decide +kernel)
set_option maxRecDepth 20000 in
theorem gX11_other_X11_within : GoodIn wsX11_other (va_wsS RX11 88 yX11_within wsX11_within) := goodIn_app (goodIn_sub (fa_c (me_s (me_l (me_l (me_l (me_l (me_l (me_l (me_l (List.mem_of_getElem? (i := 2) rfl))))))))) (fa_c (me_s (me_l (me_l (me_l (me_l (me_l (me_l (me_l (List.mem_of_getElem? (i := 3) rfl))))))))) (fa_c (me_s (me_l (me_l (me_l (me_l (me_l (me_l (me_l (List.mem_of_getElem? (i := 4) rfl))))))))) fa_n))) (by decide +kernel)) ggX11_other_X11_within
theorem dX11_other_3 : decode cX11_other 3 = .ok (.invokestatic 88, 3) := by decide +kernel
theorem dX11_other_6 : decode cX11_other 6 = .ok (.ifCond .eq 31, 3) := by decide +kernel
theorem dX11_other_9 : decode cX11_other 9 = .ok (.iload_n 2, 1) := by decide +kernel
set_option maxRecDepth 20000 in
theorem ggX11_other_X11_isMonth : GoodIn wsX11_other wsX11_isMonth := goodIn_sub (fa_c (me_s (me_l (me_l (me_l (me_l (me_l (me_l (me_l (List.mem_of_getElem? (i := 8) rfl))))))))) (fa_c (me_s (me_l (me_l (me_l (me_l (me_l (me_l (me_l (List.mem_of_getElem? (i := 2) rfl))))))))) (fa_c (me_s (me_l (me_l (me_l (me_l (me_l (me_l (me_l (List.mem_of_getElem? (i := 3) rfl))))))))) (fa_c (me_s (me_l (me_l (me_l (me_l (me_l (me_l (me_l (List.mem_of_getElem? (i := 4) rfl))))))))) (fa_c (me_s (me_l (me_l (me_l (me_l (me_l (me_l (me_l (List.mem_of_getElem? (i := 5) rfl))))))))) fa_n))))) (by decide +kernel)
set_option maxRecDepth 20000 in
theorem gX11_other_X11_isMonth : GoodIn wsX11_other (va_wsS RX11 122 yX11_isMonth wsX11_isMonth) := goodIn_app (goodIn_sub (fa_c (me_s (me_l (me_l (me_l (me_l (me_l (me_l (me_l (List.mem_of_getElem? (i := 6) rfl))))))))) (fa_c (me_s (me_l (me_l (me_l (me_l (me_l (me_l (me_l (List.mem_of_getElem? (i := 7) rfl))))))))) (fa_c (me_s (me_l (me_l (me_l (me_l (me_l (me_l (me_l (List.mem_of_getElem? (i := 4) rfl))))))))) fa_n))) (by decide +kernel)) ggX11_other_X11_isMonth
theorem dX11_other_10 : decode cX11_other 10 = .ok (.invokestatic 122, 3) := by decide +kernel
theorem dX11_other_13 : decode cX11_other 13 = .ok (.ifCond .eq 24, 3) := by decide +kernel
theorem dX11_other_16 : decode cX11_other 16 = .ok (.aload_n 0, 1) := by decide +kernel
theorem dX11_other_17 : decode cX11_other 17 = .ok (.getfield 16, 3) := by decide +kernel
theorem dX11_other_20 : decode cX11_other 20 = .ok (.iload_n 3, 1) := by decide +kernel
set_option maxRecDepth 20000 in
theorem ggX11_other_X2_has : GoodIn wsX11_other wsX2_has := goodIn_sub (fa_c (me_s (me_l (me_l (me_l (me_l (me_l (me_l (me_l (List.mem_of_getElem? (i := 13) rfl))))))))) (fa_a (fa_c (me_s (me_l (me_l (me_l (me_l (me_l (me_l (me_l (List.mem_of_getElem? (i := 14) rfl))))))))) fa_n) (fun w h => (me_s (me_l (me_l (me_l (me_l (me_r h))))))))) (by decide +kernel)
set_option maxRecDepth 20000 in
theorem gX11_other_X2_has : GoodIn wsX11_other (wsV RX11 96 RX2 yX2_has wsX2_has) := goodIn_app (goodIn_sub (fa_c (me_s (me_l (me_l (me_l (me_l (me_l (me_l (me_l (List.mem_of_getElem? (i := 9) rfl))))))))) (fa_c (me_s (me_l (me_l (me_l (me_l (me_l (me_l (me_l (List.mem_of_getElem? (i := 10) rfl))))))))) (fa_c (me_s (me_l (me_l (me_l (me_l (me_l (me_l (me_l (List.mem_of_getElem? (i := 11) rfl))))))))) (fa_c (me_s (me_l (me_l (me_l (me_l (me_l (me_l (me_l (List.mem_of_getElem? (i := 12) rfl))))))))) fa_n)))) (by decide +kernel)) ggX11_other_X2_has
theorem dX11_other_21 : decode cX11_other 21 = .ok (.invokevirtual 96, 3) := by decide +kernel
theorem dX11_other_24 : decode cX11_other 24 = .ok (.ifCond .eq 13, 3) := by decide +kernel
theorem dX11_other_37 : decode cX11_other 37 = .ok (.iconst (-1), 1) := by decide +kernel
theorem dX11_other_38 : decode cX11_other 38 = .ok (.ireturn, 1) := by decide +kernel
theorem dX11_poured_0 : decode cX11_poured 0 = .ok (.aload_n 0, 1) := by decide +kernel
theorem dX11_poured_1 : decode cX11_poured 1 = .ok (.getfield 44, 3) := by decide +kernel
theorem dX11_poured_4 : decode cX11_poured 4 = .ok (.iload_n 1, 1) := by decide +kernel
theorem dX11_poured_5 : decode cX11_poured 5 = .ok (.iload_n 2, 1) := by decide +kernel
set_option maxRecDepth 20000 in
theorem ggX11_poured_X8_tell : GoodIn wsX11_poured wsX8_tell := goodIn_sub (fa_c (me_s (me_l (me_l (List.mem_of_getElem? (i := 5) rfl)))) (fa_a (fa_c (me_s (me_l (me_l (List.mem_of_getElem? (i := 6) rfl)))) (fa_c (me_s (me_l (me_l (List.mem_of_getElem? (i := 7) rfl)))) (fa_c (me_s (me_l (me_l (List.mem_of_getElem? (i := 8) rfl)))) (fa_c (me_s (me_l (me_l (List.mem_of_getElem? (i := 9) rfl)))) (fa_c (me_s (me_l (me_l (List.mem_of_getElem? (i := 10) rfl)))) (fa_c (me_s (me_l (me_l (List.mem_of_getElem? (i := 11) rfl)))) (fa_c (me_s (me_l (me_l (List.mem_of_getElem? (i := 12) rfl)))) (fa_c (me_s (me_l (me_l (List.mem_of_getElem? (i := 13) rfl)))) (fa_c (me_s (me_l (me_l (List.mem_of_getElem? (i := 14) rfl)))) (fa_c (me_s (me_l (me_l (List.mem_of_getElem? (i := 15) rfl)))) (fa_c (me_s (me_l (me_l (List.mem_of_getElem? (i := 4) rfl)))) (fa_c (me_s (me_l (me_l (List.mem_of_getElem? (i := 16) rfl)))) (fa_c (me_s (me_l (me_l (List.mem_of_getElem? (i := 17) rfl)))) fa_n))))))))))))) (fun w h => (me_s (me_r h))))) (by decide +kernel)
set_option maxRecDepth 20000 in
theorem gX11_poured_X8_tell : GoodIn wsX11_poured (wsV RX11 220 RX8 yX8_tell wsX8_tell) := goodIn_app (goodIn_sub (fa_c (me_s (me_l (me_l (List.mem_of_getElem? (i := 1) rfl)))) (fa_c (me_s (me_l (me_l (List.mem_of_getElem? (i := 2) rfl)))) (fa_c (me_s (me_l (me_l (List.mem_of_getElem? (i := 3) rfl)))) (fa_c (me_s (me_l (me_l (List.mem_of_getElem? (i := 4) rfl)))) fa_n)))) (by decide +kernel)) ggX11_poured_X8_tell
theorem dX11_poured_6 : decode cX11_poured 6 = .ok (.invokevirtual 220, 3) := by decide +kernel
theorem dX11_poured_9 : decode cX11_poured 9 = .ok (.ireturn, 1) := by decide +kernel
theorem dX12_port_0 : decode cX12_port 0 = .ok (.iload_n 1, 1) := by decide +kernel
theorem dX12_port_1 : decode cX12_port 1 = .ok (.iconst 0, 1) := by decide +kernel
theorem dX12_port_2 : decode cX12_port 2 = .ok (.bipush 50, 2) := by decide +kernel
set_option maxRecDepth 20000 in
theorem ggX12_port_X12_within : GoodIn wsX12_port wsX12_within := goodIn_sub (fa_c (me_s (me_l (List.mem_of_getElem? (i := 5) rfl))) fa_n) (by decide +kernel)
set_option maxRecDepth 20000 in
theorem gX12_port_X12_within : GoodIn wsX12_port (va_wsS RX12 235 yX12_within wsX12_within) := goodIn_app (goodIn_sub (fa_c (me_s (me_l (List.mem_of_getElem? (i := 2) rfl))) (fa_c (me_s (me_l (List.mem_of_getElem? (i := 3) rfl))) (fa_c (me_s (me_l (List.mem_of_getElem? (i := 4) rfl))) fa_n))) (by decide +kernel)) ggX12_port_X12_within
theorem dX12_port_4 : decode cX12_port 4 = .ok (.invokestatic 235, 3) := by decide +kernel
theorem dX12_port_7 : decode cX12_port 7 = .ok (.ifCond .eq 11, 3) := by decide +kernel
theorem dX12_port_10 : decode cX12_port 10 = .ok (.aload_n 0, 1) := by decide +kernel
theorem dX12_port_11 : decode cX12_port 11 = .ok (.getfield 493, 3) := by decide +kernel
theorem dX12_port_14 : decode cX12_port 14 = .ok (.iconst 4, 1) := by decide +kernel
theorem dX12_port_15 : decode cX12_port 15 = .ok (.if_icmp .ne 5, 3) := by decide +kernel
theorem dX12_port_20 : decode cX12_port 20 = .ok (.aload_n 0, 1) := by decide +kernel
theorem dX12_port_21 : decode cX12_port 21 = .ok (.getfield 172, 3) := by decide +kernel
theorem dX12_port_24 : decode cX12_port 24 = .ok (.aload_n 0, 1) := by decide +kernel
theorem dX12_port_25 : decode cX12_port 25 = .ok (.getfield 493, 3) := by decide +kernel
theorem dX12_port_28 : decode cX12_port 28 = .ok (.iload_n 1, 1) := by decide +kernel
theorem dX12_port_29 : decode cX12_port 29 = .ok (.iastore, 1) := by decide +kernel
theorem dX12_port_30 : decode cX12_port 30 = .ok (.aload_n 0, 1) := by decide +kernel
theorem dX12_port_31 : decode cX12_port 31 = .ok (.dup, 1) := by decide +kernel
theorem dX12_port_32 : decode cX12_port 32 = .ok (.getfield 493, 3) := by decide +kernel
theorem dX12_port_35 : decode cX12_port 35 = .ok (.iconst 1, 1) := by decide +kernel
theorem dX12_port_36 : decode cX12_port 36 = .ok (.iadd, 1) := by decide +kernel
theorem dX12_port_37 : decode cX12_port 37 = .ok (.putfield 493, 3) := by decide +kernel
theorem dX12_port_40 : decode cX12_port 40 = .ok (.aload_n 0, 1) := by decide +kernel
theorem dX12_port_41 : decode cX12_port 41 = .ok (.getfield 493, 3) := by decide +kernel
theorem dX12_port_44 : decode cX12_port 44 = .ok (.iconst 1, 1) := by decide +kernel
theorem dX12_port_45 : decode cX12_port 45 = .ok (.isub, 1) := by decide +kernel
theorem dX12_port_46 : decode cX12_port 46 = .ok (.ireturn, 1) := by decide +kernel
theorem dX12_port_18 : decode cX12_port 18 = .ok (.iconst (-1), 1) := by decide +kernel
theorem dX12_port_19 : decode cX12_port 19 = .ok (.ireturn, 1) := by decide +kernel
theorem dX12_holder_0 : decode cX12_holder 0 = .ok (.iload_n 1, 1) := by decide +kernel
theorem dX12_holder_1 : decode cX12_holder 1 = .ok (.iconst 1, 1) := by decide +kernel
theorem dX12_holder_2 : decode cX12_holder 2 = .ok (.bipush 9, 2) := by decide +kernel
set_option maxRecDepth 20000 in
theorem ggX12_holder_X12_within : GoodIn wsX12_holder wsX12_within := goodIn_sub (fa_c (me_s (me_l (List.mem_of_getElem? (i := 9) rfl))) fa_n) (by decide +kernel)
set_option maxRecDepth 20000 in
theorem gX12_holder_X12_within : GoodIn wsX12_holder (va_wsS RX12 235 yX12_within wsX12_within) := goodIn_app (goodIn_sub (fa_c (me_s (me_l (List.mem_of_getElem? (i := 6) rfl))) (fa_c (me_s (me_l (List.mem_of_getElem? (i := 7) rfl))) (fa_c (me_s (me_l (List.mem_of_getElem? (i := 8) rfl))) fa_n))) (by decide +kernel)) ggX12_holder_X12_within
theorem dX12_holder_4 : decode cX12_holder 4 = .ok (.invokestatic 235, 3) := by decide +kernel
theorem dX12_holder_7 : decode cX12_holder 7 = .ok (.ifCond .eq 55, 3) := by decide +kernel
theorem dX12_holder_10 : decode cX12_holder 10 = .ok (.iload_n 2, 1) := by decide +kernel
theorem dX12_holder_11 : decode cX12_holder 11 = .ok (.iconst 0, 1) := by decide +kernel
theorem dX12_holder_12 : decode cX12_holder 12 = .ok (.bipush 9, 2) := by decide +kernel
theorem dX12_holder_14 : decode cX12_holder 14 = .ok (.invokestatic 235, 3) := by decide +kernel
theorem dX12_holder_17 : decode cX12_holder 17 = .ok (.ifCond .eq 45, 3) := by decide +kernel
theorem dX12_holder_20 : decode cX12_holder 20 = .ok (.iload_n 3, 1) := by decide +kernel
theorem dX12_holder_21 : decode cX12_holder 21 = .ok (.iconst 1, 1) := by decide +kernel
theorem dX12_holder_22 : decode cX12_holder 22 = .ok (.bipush 8, 2) := by decide +kernel
theorem dX12_holder_24 : decode cX12_holder 24 = .ok (.invokestatic 235, 3) := by decide +kernel
theorem dX12_holder_27 : decode cX12_holder 27 = .ok (.ifCond .eq 35, 3) := by decide +kernel
theorem dX12_holder_30 : decode cX12_holder 30 = .ok (.iload 4, 2) := by decide +kernel
theorem dX12_holder_32 : decode cX12_holder 32 = .ok (.iconst 0, 1) := by decide +kernel
theorem dX12_holder_33 : decode cX12_holder 33 = .ok (.sipush 999, 3) := by decide +kernel
theorem dX12_holder_36 : decode cX12_holder 36 = .ok (.invokestatic 235, 3) := by decide +kernel
theorem dX12_holder_39 : decode cX12_holder 39 = .ok (.ifCond .eq 23, 3) := by decide +kernel
theorem dX12_holder_42 : decode cX12_holder 42 = .ok (.iload 5, 2) := by decide +kernel
theorem dX12_holder_44 : decode cX12_holder 44 = .ok (.iconst 0, 1) := by decide +kernel
theorem dX12_holder_45 : decode cX12_holder 45 = .ok (.bipush 99, 2) := by decide +kernel
theorem dX12_holder_47 : decode cX12_holder 47 = .ok (.invokestatic 235, 3) := by decide +kernel
theorem dX12_holder_50 : decode cX12_holder 50 = .ok (.ifCond .eq 12, 3) := by decide +kernel
theorem dX12_holder_53 : decode cX12_holder 53 = .ok (.aload_n 0, 1) := by decide +kernel
theorem dX12_holder_54 : decode cX12_holder 54 = .ok (.getfield 229, 3) := by decide +kernel
theorem dX12_holder_57 : decode cX12_holder 57 = .ok (.bipush 30, 2) := by decide +kernel
theorem dX12_holder_59 : decode cX12_holder 59 = .ok (.if_icmp .ne 5, 3) := by decide +kernel
theorem dX12_holder_64 : decode cX12_holder 64 = .ok (.aload_n 0, 1) := by decide +kernel
theorem dX12_holder_65 : decode cX12_holder 65 = .ok (.getfield 7, 3) := by decide +kernel
theorem dX12_holder_68 : decode cX12_holder 68 = .ok (.aload_n 0, 1) := by decide +kernel
theorem dX12_holder_69 : decode cX12_holder 69 = .ok (.getfield 229, 3) := by decide +kernel
theorem dX12_holder_72 : decode cX12_holder 72 = .ok (.iload_n 1, 1) := by decide +kernel
theorem dX12_holder_73 : decode cX12_holder 73 = .ok (.iastore, 1) := by decide +kernel
theorem dX12_holder_74 : decode cX12_holder 74 = .ok (.aload_n 0, 1) := by decide +kernel
theorem dX12_holder_75 : decode cX12_holder 75 = .ok (.getfield 13, 3) := by decide +kernel
theorem dX12_holder_78 : decode cX12_holder 78 = .ok (.aload_n 0, 1) := by decide +kernel
theorem dX12_holder_79 : decode cX12_holder 79 = .ok (.getfield 229, 3) := by decide +kernel
theorem dX12_holder_82 : decode cX12_holder 82 = .ok (.iload_n 2, 1) := by decide +kernel
theorem dX12_holder_83 : decode cX12_holder 83 = .ok (.iastore, 1) := by decide +kernel
theorem dX12_holder_84 : decode cX12_holder 84 = .ok (.aload_n 0, 1) := by decide +kernel
theorem dX12_holder_85 : decode cX12_holder 85 = .ok (.getfield 16, 3) := by decide +kernel
theorem dX12_holder_88 : decode cX12_holder 88 = .ok (.aload_n 0, 1) := by decide +kernel
theorem dX12_holder_89 : decode cX12_holder 89 = .ok (.getfield 229, 3) := by decide +kernel
theorem dX12_holder_92 : decode cX12_holder 92 = .ok (.iload_n 3, 1) := by decide +kernel
theorem dX12_holder_93 : decode cX12_holder 93 = .ok (.iastore, 1) := by decide +kernel
theorem dX12_holder_94 : decode cX12_holder 94 = .ok (.aload_n 0, 1) := by decide +kernel
theorem dX12_holder_95 : decode cX12_holder 95 = .ok (.getfield 19, 3) := by decide +kernel
theorem dX12_holder_98 : decode cX12_holder 98 = .ok (.aload_n 0, 1) := by decide +kernel
theorem dX12_holder_99 : decode cX12_holder 99 = .ok (.getfield 229, 3) := by decide +kernel
theorem dX12_holder_102 : decode cX12_holder 102 = .ok (.iload 4, 2) := by decide +kernel
theorem dX12_holder_104 : decode cX12_holder 104 = .ok (.iastore, 1) := by decide +kernel
theorem dX12_holder_105 : decode cX12_holder 105 = .ok (.aload_n 0, 1) := by decide +kernel
theorem dX12_holder_106 : decode cX12_holder 106 = .ok (.getfield 22, 3) := by decide +kernel
theorem dX12_holder_109 : decode cX12_holder 109 = .ok (.aload_n 0, 1) := by decide +kernel
theorem dX12_holder_110 : decode cX12_holder 110 = .ok (.getfield 229, 3) := by decide +kernel
theorem dX12_holder_113 : decode cX12_holder 113 = .ok (.iload 5, 2) := by decide +kernel
theorem dX12_holder_115 : decode cX12_holder 115 = .ok (.iastore, 1) := by decide +kernel
theorem dX12_holder_116 : decode cX12_holder 116 = .ok (.aload_n 0, 1) := by decide +kernel
theorem dX12_holder_117 : decode cX12_holder 117 = .ok (.dup, 1) := by decide +kernel
theorem dX12_holder_118 : decode cX12_holder 118 = .ok (.getfield 229, 3) := by decide +kernel
theorem dX12_holder_121 : decode cX12_holder 121 = .ok (.iconst 1, 1) := by decide +kernel
theorem dX12_holder_122 : decode cX12_holder 122 = .ok (.iadd, 1) := by decide +kernel
theorem dX12_holder_123 : decode cX12_holder 123 = .ok (.putfield 229, 3) := by decide +kernel
theorem dX12_holder_126 : decode cX12_holder 126 = .ok (.aload_n 0, 1) := by decide +kernel
theorem dX12_holder_127 : decode cX12_holder 127 = .ok (.getfield 229, 3) := by decide +kernel
theorem dX12_holder_130 : decode cX12_holder 130 = .ok (.iconst 1, 1) := by decide +kernel
theorem dX12_holder_131 : decode cX12_holder 131 = .ok (.isub, 1) := by decide +kernel
theorem dX12_holder_132 : decode cX12_holder 132 = .ok (.ireturn, 1) := by decide +kernel
theorem dX12_holder_62 : decode cX12_holder 62 = .ok (.iconst (-1), 1) := by decide +kernel
theorem dX12_holder_63 : decode cX12_holder 63 = .ok (.ireturn, 1) := by decide +kernel
theorem dX12_count_0 : decode cX12_count 0 = .ok (.iconst 0, 1) := by decide +kernel
theorem dX12_count_1 : decode cX12_count 1 = .ok (.istore_n 2, 1) := by decide +kernel
theorem dX12_count_2 : decode cX12_count 2 = .ok (.iconst 0, 1) := by decide +kernel
theorem dX12_count_3 : decode cX12_count 3 = .ok (.istore_n 3, 1) := by decide +kernel
theorem dX12_count_4 : decode cX12_count 4 = .ok (.iconst 0, 1) := by decide +kernel
theorem dX12_count_5 : decode cX12_count 5 = .ok (.istore 4, 2) := by decide +kernel
theorem dX12_count_7 : decode cX12_count 7 = .ok (.iload 4, 2) := by decide +kernel
theorem dX12_count_9 : decode cX12_count 9 = .ok (.aload_n 0, 1) := by decide +kernel
theorem dX12_count_10 : decode cX12_count 10 = .ok (.getfield 468, 3) := by decide +kernel
theorem dX12_count_13 : decode cX12_count 13 = .ok (.if_icmp .ge 35, 3) := by decide +kernel
theorem dX12_count_48 : decode cX12_count 48 = .ok (.iload_n 1, 1) := by decide +kernel
theorem dX12_count_49 : decode cX12_count 49 = .ok (.tableswitch 126 0 12 #[67, 72, 77, 82, 87, 92, 97, 102, 104, 106, 111, 116, 121], 67) := by decide +kernel
theorem dX12_count_116 : decode cX12_count 116 = .ok (.aload_n 0, 1) := by decide +kernel
theorem dX12_count_117 : decode cX12_count 117 = .ok (.getfield 232, 3) := by decide +kernel
theorem dX12_count_120 : decode cX12_count 120 = .ok (.ireturn, 1) := by decide +kernel
theorem dX12_count_121 : decode cX12_count 121 = .ok (.aload_n 0, 1) := by decide +kernel
theorem dX12_count_122 : decode cX12_count 122 = .ok (.getfield 229, 3) := by decide +kernel
theorem dX12_count_125 : decode cX12_count 125 = .ok (.ireturn, 1) := by decide +kernel
theorem dX12_count_126 : decode cX12_count 126 = .ok (.aload_n 0, 1) := by decide +kernel
theorem dX12_count_127 : decode cX12_count 127 = .ok (.getfield 246, 3) := by decide +kernel
theorem dX12_count_130 : decode cX12_count 130 = .ok (.ireturn, 1) := by decide +kernel
theorem dX12_count_131 : decode cX12_count 131 = .ok (.aload_n 0, 1) := by decide +kernel
theorem dX12_count_132 : decode cX12_count 132 = .ok (.getfield 408, 3) := by decide +kernel
theorem dX12_count_135 : decode cX12_count 135 = .ok (.ireturn, 1) := by decide +kernel
theorem dX12_count_136 : decode cX12_count 136 = .ok (.aload_n 0, 1) := by decide +kernel
theorem dX12_count_137 : decode cX12_count 137 = .ok (.getfield 449, 3) := by decide +kernel
theorem dX12_count_140 : decode cX12_count 140 = .ok (.ireturn, 1) := by decide +kernel
theorem dX12_count_141 : decode cX12_count 141 = .ok (.aload_n 0, 1) := by decide +kernel
theorem dX12_count_142 : decode cX12_count 142 = .ok (.getfield 461, 3) := by decide +kernel
theorem dX12_count_145 : decode cX12_count 145 = .ok (.ireturn, 1) := by decide +kernel
theorem dX12_count_146 : decode cX12_count 146 = .ok (.aload_n 0, 1) := by decide +kernel
theorem dX12_count_147 : decode cX12_count 147 = .ok (.getfield 468, 3) := by decide +kernel
theorem dX12_count_150 : decode cX12_count 150 = .ok (.ireturn, 1) := by decide +kernel
theorem dX12_count_151 : decode cX12_count 151 = .ok (.iload_n 2, 1) := by decide +kernel
theorem dX12_count_152 : decode cX12_count 152 = .ok (.ireturn, 1) := by decide +kernel
theorem dX12_count_153 : decode cX12_count 153 = .ok (.iload_n 3, 1) := by decide +kernel
theorem dX12_count_154 : decode cX12_count 154 = .ok (.ireturn, 1) := by decide +kernel
theorem dX12_count_155 : decode cX12_count 155 = .ok (.aload_n 0, 1) := by decide +kernel
theorem dX12_count_156 : decode cX12_count 156 = .ok (.getfield 455, 3) := by decide +kernel
theorem dX12_count_159 : decode cX12_count 159 = .ok (.ireturn, 1) := by decide +kernel
theorem dX12_count_160 : decode cX12_count 160 = .ok (.aload_n 0, 1) := by decide +kernel
theorem dX12_count_161 : decode cX12_count 161 = .ok (.getfield 493, 3) := by decide +kernel
theorem dX12_count_164 : decode cX12_count 164 = .ok (.ireturn, 1) := by decide +kernel
theorem dX12_count_165 : decode cX12_count 165 = .ok (.aload_n 0, 1) := by decide +kernel
theorem dX12_count_166 : decode cX12_count 166 = .ok (.getfield 505, 3) := by decide +kernel
theorem dX12_count_169 : decode cX12_count 169 = .ok (.ireturn, 1) := by decide +kernel
theorem dX12_count_170 : decode cX12_count 170 = .ok (.aload_n 0, 1) := by decide +kernel
theorem dX12_count_171 : decode cX12_count 171 = .ok (.getfield 253, 3) := by decide +kernel
theorem dX12_count_174 : decode cX12_count 174 = .ok (.ireturn, 1) := by decide +kernel
theorem dX12_count_175 : decode cX12_count 175 = .ok (.iconst (-1), 1) := by decide +kernel
theorem dX12_count_176 : decode cX12_count 176 = .ok (.ireturn, 1) := by decide +kernel
theorem dX12_other_0 : decode cX12_other 0 = .ok (.iload_n 1, 1) := by decide +kernel
theorem dX12_other_1 : decode cX12_other 1 = .ok (.iconst 0, 1) := by decide +kernel
theorem dX12_other_2 : decode cX12_other 2 = .ok (.iconst 2, 1) := by decide +kernel
set_option maxRecDepth 20000 in
theorem ggX12_other_X12_within : GoodIn wsX12_other wsX12_within := goodIn_sub (fa_c (me_s (me_l (me_l (List.mem_of_getElem? (i := 5) rfl)))) fa_n) (by decide +kernel)
set_option maxRecDepth 20000 in
theorem gX12_other_X12_within : GoodIn wsX12_other (va_wsS RX12 235 yX12_within wsX12_within) := goodIn_app (goodIn_sub (fa_c (me_s (me_l (me_l (List.mem_of_getElem? (i := 2) rfl)))) (fa_c (me_s (me_l (me_l (List.mem_of_getElem? (i := 3) rfl)))) (fa_c (me_s (me_l (me_l (List.mem_of_getElem? (i := 4) rfl)))) fa_n))) (by decide +kernel)) ggX12_other_X12_within
theorem dX12_other_3 : decode cX12_other 3 = .ok (.invokestatic 235, 3) := by decide +kernel
theorem dX12_other_6 : decode cX12_other 6 = .ok (.ifCond .eq 28, 3) := by decide +kernel
theorem dX12_other_9 : decode cX12_other 9 = .ok (.iload_n 2, 1) := by decide +kernel
set_option maxRecDepth 20000 in
theorem ggX12_other_X12_isMonth : GoodIn wsX12_other wsX12_isMonth := goodIn_sub (fa_c (me_s (me_l (me_l (List.mem_of_getElem? (i := 8) rfl)))) fa_n) (by decide +kernel)
set_option maxRecDepth 20000 in
theorem gX12_other_X12_isMonth : GoodIn wsX12_other (va_wsS RX12 405 yX12_isMonth wsX12_isMonth) := goodIn_app (goodIn_sub (fa_c (me_s (me_l (me_l (List.mem_of_getElem? (i := 6) rfl)))) (fa_c (me_s (me_l (me_l (List.mem_of_getElem? (i := 7) rfl)))) (fa_c (me_s (me_l (me_l (List.mem_of_getElem? (i := 4) rfl)))) fa_n))) (by decide +kernel)) ggX12_other_X12_isMonth
theorem dX12_other_10 : decode cX12_other 10 = .ok (.invokestatic 405, 3) := by decide +kernel
theorem dX12_other_13 : decode cX12_other 13 = .ok (.ifCond .eq 21, 3) := by decide +kernel
theorem dX12_other_16 : decode cX12_other 16 = .ok (.aload_n 0, 1) := by decide +kernel
theorem dX12_other_17 : decode cX12_other 17 = .ok (.iload_n 3, 1) := by decide +kernel
set_option maxRecDepth 20000 in
theorem ggX12_other_X12_isHolder : GoodIn wsX12_other wsX12_isHolder := goodIn_sub (fa_c (me_s (me_l (me_l (List.mem_of_getElem? (i := 12) rfl)))) (fa_a (fa_c (me_s (me_l (me_l (List.mem_of_getElem? (i := 13) rfl)))) fa_n) (fun w h => (me_s (me_r h))))) (by decide +kernel)
set_option maxRecDepth 20000 in
theorem gX12_other_X12_isHolder : GoodIn wsX12_other (wsV RX12 239 RX12 yX12_isHolder wsX12_isHolder) := goodIn_app (goodIn_sub (fa_c (me_s (me_l (me_l (List.mem_of_getElem? (i := 9) rfl)))) (fa_c (me_s (me_l (me_l (List.mem_of_getElem? (i := 10) rfl)))) (fa_c (me_s (me_l (me_l (List.mem_of_getElem? (i := 11) rfl)))) (fa_c (me_s (me_l (me_l (List.mem_of_getElem? (i := 4) rfl)))) fa_n)))) (by decide +kernel)) ggX12_other_X12_isHolder
theorem dX12_other_18 : decode cX12_other 18 = .ok (.invokevirtual 239, 3) := by decide +kernel
theorem dX12_other_21 : decode cX12_other 21 = .ok (.ifCond .eq 13, 3) := by decide +kernel
theorem dX12_other_34 : decode cX12_other 34 = .ok (.iconst (-1), 1) := by decide +kernel
theorem dX12_other_35 : decode cX12_other 35 = .ok (.ireturn, 1) := by decide +kernel
theorem dX12_poured_0 : decode cX12_poured 0 = .ok (.iload_n 1, 1) := by decide +kernel
theorem dX12_poured_1 : decode cX12_poured 1 = .ok (.ifCond .lt 11, 3) := by decide +kernel
theorem dX12_poured_12 : decode cX12_poured 12 = .ok (.iconst (-1), 1) := by decide +kernel
theorem dX12_poured_13 : decode cX12_poured 13 = .ok (.ireturn, 1) := by decide +kernel
theorem dX12_poured_4 : decode cX12_poured 4 = .ok (.iload_n 1, 1) := by decide +kernel
theorem dX12_poured_5 : decode cX12_poured 5 = .ok (.aload_n 0, 1) := by decide +kernel
theorem dX12_poured_6 : decode cX12_poured 6 = .ok (.getfield 468, 3) := by decide +kernel
theorem dX12_poured_9 : decode cX12_poured 9 = .ok (.if_icmp .lt 5, 3) := by decide +kernel
theorem dX12_deliver_0 : decode cX12_deliver 0 = .ok (.aload_n 0, 1) := by decide +kernel
theorem dX12_deliver_1 : decode cX12_deliver 1 = .ok (.iload_n 1, 1) := by decide +kernel
set_option maxRecDepth 20000 in
theorem ggX12_deliver_X12_isStation : GoodIn wsX12_deliver wsX12_isStation := goodIn_sub (fa_c (me_s (me_l (List.mem_of_getElem? (i := 10) rfl))) (fa_a (fa_c (me_s (me_l (List.mem_of_getElem? (i := 11) rfl))) fa_n) (fun w h => (me_s (me_r h))))) (by decide +kernel)
set_option maxRecDepth 20000 in
theorem gX12_deliver_X12_isStation : GoodIn wsX12_deliver (wsV RX12 464 RX12 yX12_isStation wsX12_isStation) := goodIn_app (goodIn_sub (fa_c (me_s (me_l (List.mem_of_getElem? (i := 6) rfl))) (fa_c (me_s (me_l (List.mem_of_getElem? (i := 7) rfl))) (fa_c (me_s (me_l (List.mem_of_getElem? (i := 8) rfl))) (fa_c (me_s (me_l (List.mem_of_getElem? (i := 9) rfl))) fa_n)))) (by decide +kernel)) ggX12_deliver_X12_isStation
theorem dX12_deliver_2 : decode cX12_deliver 2 = .ok (.invokevirtual 464, 3) := by decide +kernel
theorem dX12_deliver_5 : decode cX12_deliver 5 = .ok (.ifCond .eq 24, 3) := by decide +kernel
theorem dX12_deliver_29 : decode cX12_deliver 29 = .ok (.iconst (-1), 1) := by decide +kernel
theorem dX12_deliver_30 : decode cX12_deliver 30 = .ok (.ireturn, 1) := by decide +kernel
theorem dX12_dip_0 : decode cX12_dip 0 = .ok (.aload_n 0, 1) := by decide +kernel
theorem dX12_dip_1 : decode cX12_dip 1 = .ok (.iload_n 1, 1) := by decide +kernel
set_option maxRecDepth 20000 in
theorem ggX12_dip_X12_isStation : GoodIn wsX12_dip wsX12_isStation := goodIn_sub (fa_c (me_s (me_l (List.mem_of_getElem? (i := 11) rfl))) (fa_a (fa_c (me_s (me_l (List.mem_of_getElem? (i := 12) rfl))) fa_n) (fun w h => (me_s (me_r h))))) (by decide +kernel)
set_option maxRecDepth 20000 in
theorem gX12_dip_X12_isStation : GoodIn wsX12_dip (wsV RX12 464 RX12 yX12_isStation wsX12_isStation) := goodIn_app (goodIn_sub (fa_c (me_s (me_l (List.mem_of_getElem? (i := 7) rfl))) (fa_c (me_s (me_l (List.mem_of_getElem? (i := 8) rfl))) (fa_c (me_s (me_l (List.mem_of_getElem? (i := 9) rfl))) (fa_c (me_s (me_l (List.mem_of_getElem? (i := 10) rfl))) fa_n)))) (by decide +kernel)) ggX12_dip_X12_isStation
theorem dX12_dip_2 : decode cX12_dip 2 = .ok (.invokevirtual 464, 3) := by decide +kernel
theorem dX12_dip_5 : decode cX12_dip 5 = .ok (.ifCond .eq 25, 3) := by decide +kernel
theorem dX12_dip_30 : decode cX12_dip 30 = .ok (.iconst (-1), 1) := by decide +kernel
theorem dX12_dip_31 : decode cX12_dip 31 = .ok (.ireturn, 1) := by decide +kernel
theorem dX12_in_0 : decode cX12_in 0 = .ok (.aload_n 0, 1) := by decide +kernel
theorem dX12_in_1 : decode cX12_in 1 = .ok (.iload_n 1, 1) := by decide +kernel
set_option maxRecDepth 20000 in
theorem ggX12_in_X12_isStation : GoodIn wsX12_in wsX12_isStation := goodIn_sub (fa_c (me_s (me_l (me_l (List.mem_of_getElem? (i := 6) rfl)))) (fa_a (fa_c (me_s (me_l (me_l (List.mem_of_getElem? (i := 7) rfl)))) fa_n) (fun w h => (me_s (me_r h))))) (by decide +kernel)
set_option maxRecDepth 20000 in
theorem gX12_in_X12_isStation : GoodIn wsX12_in (wsV RX12 464 RX12 yX12_isStation wsX12_isStation) := goodIn_app (goodIn_sub (fa_c (me_s (me_l (me_l (List.mem_of_getElem? (i := 2) rfl)))) (fa_c (me_s (me_l (me_l (List.mem_of_getElem? (i := 3) rfl)))) (fa_c (me_s (me_l (me_l (List.mem_of_getElem? (i := 4) rfl)))) (fa_c (me_s (me_l (me_l (List.mem_of_getElem? (i := 5) rfl)))) fa_n)))) (by decide +kernel)) ggX12_in_X12_isStation
theorem dX12_in_2 : decode cX12_in 2 = .ok (.invokevirtual 464, 3) := by decide +kernel
theorem dX12_in_5 : decode cX12_in 5 = .ok (.ifCond .eq 29, 3) := by decide +kernel
theorem dX12_in_34 : decode cX12_in 34 = .ok (.ldc_w 482, 3) := by decide +kernel
theorem dX12_in_37 : decode cX12_in 37 = .ok (.ireturn, 1) := by decide +kernel
theorem dX12_sums__0 : decode cX12_sums_ 0 = .ok (.aload_n 0, 1) := by decide +kernel
theorem dX12_sums__1 : decode cX12_sums_ 1 = .ok (.iload_n 1, 1) := by decide +kernel
set_option maxRecDepth 20000 in
theorem ggX12_sums__X12_isStation : GoodIn wsX12_sums_ wsX12_isStation := goodIn_sub (fa_c (me_s (me_l (me_l (List.mem_of_getElem? (i := 7) rfl)))) (fa_a (fa_c (me_s (me_l (me_l (List.mem_of_getElem? (i := 8) rfl)))) fa_n) (fun w h => (me_s (me_r h))))) (by decide +kernel)
set_option maxRecDepth 20000 in
theorem gX12_sums__X12_isStation : GoodIn wsX12_sums_ (wsV RX12 464 RX12 yX12_isStation wsX12_isStation) := goodIn_app (goodIn_sub (fa_c (me_s (me_l (me_l (List.mem_of_getElem? (i := 3) rfl)))) (fa_c (me_s (me_l (me_l (List.mem_of_getElem? (i := 4) rfl)))) (fa_c (me_s (me_l (me_l (List.mem_of_getElem? (i := 5) rfl)))) (fa_c (me_s (me_l (me_l (List.mem_of_getElem? (i := 6) rfl)))) fa_n)))) (by decide +kernel)) ggX12_sums__X12_isStation
theorem dX12_sums__2 : decode cX12_sums_ 2 = .ok (.invokevirtual 464, 3) := by decide +kernel
theorem dX12_sums__5 : decode cX12_sums_ 5 = .ok (.ifCond .eq 32, 3) := by decide +kernel
theorem dX12_sums__37 : decode cX12_sums_ 37 = .ok (.ldc2_w 269, 3) := by decide +kernel
theorem dX12_sums__40 : decode cX12_sums_ 40 = .ok (.lreturn, 1) := by decide +kernel
theorem dX12_judged_0 : decode cX12_judged 0 = .ok (.aload_n 0, 1) := by decide +kernel
theorem dX12_judged_1 : decode cX12_judged 1 = .ok (.iload_n 1, 1) := by decide +kernel
set_option maxRecDepth 20000 in
theorem ggX12_judged_X12_isStation : GoodIn wsX12_judged wsX12_isStation := goodIn_sub (fa_c (me_s (me_l (me_l (List.mem_of_getElem? (i := 7) rfl)))) (fa_a (fa_c (me_s (me_l (me_l (List.mem_of_getElem? (i := 8) rfl)))) fa_n) (fun w h => (me_s (me_r h))))) (by decide +kernel)
set_option maxRecDepth 20000 in
theorem gX12_judged_X12_isStation : GoodIn wsX12_judged (wsV RX12 464 RX12 yX12_isStation wsX12_isStation) := goodIn_app (goodIn_sub (fa_c (me_s (me_l (me_l (List.mem_of_getElem? (i := 3) rfl)))) (fa_c (me_s (me_l (me_l (List.mem_of_getElem? (i := 4) rfl)))) (fa_c (me_s (me_l (me_l (List.mem_of_getElem? (i := 5) rfl)))) (fa_c (me_s (me_l (me_l (List.mem_of_getElem? (i := 6) rfl)))) fa_n)))) (by decide +kernel)) ggX12_judged_X12_isStation
theorem dX12_judged_2 : decode cX12_judged 2 = .ok (.invokevirtual 464, 3) := by decide +kernel
theorem dX12_judged_5 : decode cX12_judged 5 = .ok (.ifCond .eq 22, 3) := by decide +kernel
theorem dX12_judged_27 : decode cX12_judged 27 = .ok (.ldc2_w 269, 3) := by decide +kernel
theorem dX12_judged_30 : decode cX12_judged 30 = .ok (.lreturn, 1) := by decide +kernel
theorem z_l1 : (1 : Int32).toInt = 1 := by decide
theorem z_l2 : (2 : Int32).toInt = 2 := by decide
theorem z_l3 : (3 : Int32).toInt = 3 := by decide
theorem z_l5 : (5 : Int32).toInt = 5 := by decide
theorem z_l6 : (6 : Int32).toInt = 6 := by decide
theorem z_l7 : (7 : Int32).toInt = 7 := by decide
theorem z_l8 : (8 : Int32).toInt = 8 := by decide
theorem z_l9 : (9 : Int32).toInt = 9 := by decide
theorem z_l10 : (10 : Int32).toInt = 10 := by decide
theorem z_l11 : (11 : Int32).toInt = 11 := by decide
theorem z_l12 : (12 : Int32).toInt = 12 := by decide
theorem z_l29 : (29 : Int32).toInt = 29 := by decide
theorem z_l30 : (30 : Int32).toInt = 30 := by decide
theorem z_l50 : (50 : Int32).toInt = 50 := by decide
theorem z_l99 : (99 : Int32).toInt = 99 := by decide
theorem z_l720 : (720 : Int32).toInt = 720 := by decide
theorem z_l999 : (999 : Int32).toInt = 999 := by decide
theorem z_l300000 : (300000 : Int32).toInt = 300000 := by decide
theorem z_inl {x : Int32} {n : Nat} (h : ¬ (x < 0 ∨ n ≤ x.toNatClampNeg)) : vp_in x n := h