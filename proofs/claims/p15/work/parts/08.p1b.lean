theorem dX2_cancelNote_0 : decode cX2_cancelNote 0 = .ok (.iload_n 1, 1) := by decide +kernel
theorem dX2_cancelNote_1 : decode cX2_cancelNote 1 = .ok (.ifCond .lt 30, 3) := by decide +kernel
theorem dX2_cancelNote_31 : decode cX2_cancelNote 31 = .ok (.iconst 0, 1) := by decide +kernel
theorem dX2_cancelNote_32 : decode cX2_cancelNote 32 = .ok (.ireturn, 1) := by decide +kernel
theorem dX2_cancelNote_4 : decode cX2_cancelNote 4 = .ok (.iload_n 1, 1) := by decide +kernel
theorem dX2_cancelNote_5 : decode cX2_cancelNote 5 = .ok (.aload_n 0, 1) := by decide +kernel
theorem dX2_cancelNote_6 : decode cX2_cancelNote 6 = .ok (.getfield 46, 3) := by decide +kernel
theorem dX2_cancelNote_9 : decode cX2_cancelNote 9 = .ok (.if_icmp .ge 22, 3) := by decide +kernel
theorem dX11_undo_0 : decode cX11_undo 0 = .ok (.aload_n 0, 1) := by decide +kernel
theorem dX11_undo_1 : decode cX11_undo 1 = .ok (.getfield 16, 3) := by decide +kernel
theorem dX11_undo_4 : decode cX11_undo 4 = .ok (.iload_n 1, 1) := by decide +kernel
theorem dX11_undo_5 : decode cX11_undo 5 = .ok (.aload_n 0, 1) := by decide +kernel
theorem dX11_undo_6 : decode cX11_undo 6 = .ok (.getfield 85, 3) := by decide +kernel
set_option maxRecDepth 20000 in
theorem ggX11_undo_X2_cancelNote : GoodIn wsX11_undo wsX2_cancelNote := goodIn_r _ [7, 8, 9, 23, 24, 25, 26, 27, 28, 29, 30, 31, 32, 33, 34] rfl (by decide +kernel)
set_option maxRecDepth 20000 in
theorem gX11_undo_X2_cancelNote : GoodIn wsX11_undo (wsV RX11 107 RX2 yX2_cancelNote wsX2_cancelNote) := goodIn_app (goodIn_r _ [3, 4, 5, 6] rfl (by decide +kernel)) ggX11_undo_X2_cancelNote
theorem dX11_undo_9 : decode cX11_undo 9 = .ok (.invokevirtual 107, 3) := by decide +kernel
theorem dX11_undo_12 : decode cX11_undo 12 = .ok (.ireturn, 1) := by decide +kernel
theorem dX11_day_0 : decode cX11_day 0 = .ok (.iload_n 1, 1) := by decide +kernel
theorem dX11_day_1 : decode cX11_day 1 = .ok (.aload_n 0, 1) := by decide +kernel
theorem dX11_day_2 : decode cX11_day 2 = .ok (.getfield 85, 3) := by decide +kernel
theorem dX11_day_5 : decode cX11_day 5 = .ok (.if_icmp .le 10, 3) := by decide +kernel
theorem dX11_day_15 : decode cX11_day 15 = .ok (.iconst 0, 1) := by decide +kernel
theorem dX11_day_16 : decode cX11_day 16 = .ok (.ireturn, 1) := by decide +kernel
theorem dX11_day_8 : decode cX11_day 8 = .ok (.iload_n 1, 1) := by decide +kernel
theorem dX11_day_9 : decode cX11_day 9 = .ok (.sipush 720, 3) := by decide +kernel
theorem dX11_day_12 : decode cX11_day 12 = .ok (.if_icmp .lt 5, 3) := by decide +kernel
theorem dX11_day_17 : decode cX11_day 17 = .ok (.aload_n 0, 1) := by decide +kernel
theorem dX11_day_18 : decode cX11_day 18 = .ok (.iload_n 1, 1) := by decide +kernel
theorem dX11_day_19 : decode cX11_day 19 = .ok (.putfield 85, 3) := by decide +kernel
theorem dX11_day_22 : decode cX11_day 22 = .ok (.iconst 1, 1) := by decide +kernel
theorem dX11_day_23 : decode cX11_day 23 = .ok (.ireturn, 1) := by decide +kernel
theorem dX11_fault_0 : decode cX11_fault 0 = .ok (.aload_n 0, 1) := by decide +kernel
theorem dX11_fault_1 : decode cX11_fault 1 = .ok (.getfield 9, 3) := by decide +kernel
theorem dX11_fault_4 : decode cX11_fault 4 = .ok (.ireturn, 1) := by decide +kernel
theorem dX11_level_0 : decode cX11_level 0 = .ok (.iload_n 1, 1) := by decide +kernel
theorem dX11_level_1 : decode cX11_level 1 = .ok (.ifCond .lt 23, 3) := by decide +kernel
theorem dX11_level_24 : decode cX11_level 24 = .ok (.iconst 0, 1) := by decide +kernel
theorem dX11_level_25 : decode cX11_level 25 = .ok (.ireturn, 1) := by decide +kernel
theorem dX11_level_4 : decode cX11_level 4 = .ok (.iload_n 1, 1) := by decide +kernel
theorem dX11_level_5 : decode cX11_level 5 = .ok (.aload_n 0, 1) := by decide +kernel
theorem dX11_level_6 : decode cX11_level 6 = .ok (.getfield 54, 3) := by decide +kernel
theorem dX11_level_9 : decode cX11_level 9 = .ok (.arraylength, 1) := by decide +kernel
theorem dX11_level_10 : decode cX11_level 10 = .ok (.if_icmp .ge 14, 3) := by decide +kernel
theorem dX11_level_13 : decode cX11_level 13 = .ok (.iload_n 2, 1) := by decide +kernel
theorem dX11_level_14 : decode cX11_level 14 = .ok (.iconst 0, 1) := by decide +kernel
theorem dX11_level_15 : decode cX11_level 15 = .ok (.ldc_w 291, 3) := by decide +kernel
set_option maxRecDepth 20000 in
theorem ggX11_level_X11_within : GoodIn wsX11_level wsX11_within := goodIn_r _ [6] rfl (by decide +kernel)
set_option maxRecDepth 20000 in
theorem gX11_level_X11_within : GoodIn wsX11_level (va_wsS RX11 88 yX11_within wsX11_within) := goodIn_app (goodIn_r _ [3, 4, 5] rfl (by decide +kernel)) ggX11_level_X11_within
theorem dX11_level_18 : decode cX11_level 18 = .ok (.invokestatic 88, 3) := by decide +kernel
theorem dX11_level_21 : decode cX11_level 21 = .ok (.ifCond .ne 5, 3) := by decide +kernel
theorem dX11_level_26 : decode cX11_level 26 = .ok (.aload_n 0, 1) := by decide +kernel
theorem dX11_level_27 : decode cX11_level 27 = .ok (.getfield 54, 3) := by decide +kernel
theorem dX11_level_30 : decode cX11_level 30 = .ok (.iload_n 1, 1) := by decide +kernel
theorem dX11_level_31 : decode cX11_level 31 = .ok (.iload_n 2, 1) := by decide +kernel
theorem dX11_level_32 : decode cX11_level 32 = .ok (.iastore, 1) := by decide +kernel
theorem dX11_level_33 : decode cX11_level 33 = .ok (.iconst 1, 1) := by decide +kernel
theorem dX11_level_34 : decode cX11_level 34 = .ok (.ireturn, 1) := by decide +kernel
theorem dX12_day_0 : decode cX12_day 0 = .ok (.iload_n 1, 1) := by decide +kernel
theorem dX12_day_1 : decode cX12_day 1 = .ok (.aload_n 0, 1) := by decide +kernel
theorem dX12_day_2 : decode cX12_day 2 = .ok (.getfield 232, 3) := by decide +kernel
theorem dX12_day_5 : decode cX12_day 5 = .ok (.if_icmp .le 10, 3) := by decide +kernel
theorem dX12_day_15 : decode cX12_day 15 = .ok (.iconst 0, 1) := by decide +kernel
theorem dX12_day_16 : decode cX12_day 16 = .ok (.ireturn, 1) := by decide +kernel
theorem dX12_day_8 : decode cX12_day 8 = .ok (.iload_n 1, 1) := by decide +kernel
theorem dX12_day_9 : decode cX12_day 9 = .ok (.sipush 719, 3) := by decide +kernel
theorem dX12_day_12 : decode cX12_day 12 = .ok (.if_icmp .le 5, 3) := by decide +kernel
theorem dX12_day_17 : decode cX12_day 17 = .ok (.aload_n 0, 1) := by decide +kernel
theorem dX12_day_18 : decode cX12_day 18 = .ok (.iload_n 1, 1) := by decide +kernel
theorem dX12_day_19 : decode cX12_day 19 = .ok (.putfield 232, 3) := by decide +kernel
theorem dX12_day_22 : decode cX12_day 22 = .ok (.iconst 1, 1) := by decide +kernel
theorem dX12_day_23 : decode cX12_day 23 = .ok (.ireturn, 1) := by decide +kernel
theorem dX12_fault_0 : decode cX12_fault 0 = .ok (.aload_n 0, 1) := by decide +kernel
theorem dX12_fault_1 : decode cX12_fault 1 = .ok (.getfield 87, 3) := by decide +kernel
theorem dX12_fault_4 : decode cX12_fault 4 = .ok (.ireturn, 1) := by decide +kernel
theorem dX12_level_0 : decode cX12_level 0 = .ok (.iload_n 1, 1) := by decide +kernel
theorem dX12_level_1 : decode cX12_level 1 = .ok (.iconst 0, 1) := by decide +kernel
theorem dX12_level_2 : decode cX12_level 2 = .ok (.bipush 29, 2) := by decide +kernel
set_option maxRecDepth 20000 in
theorem ggX12_level_X12_within : GoodIn wsX12_level wsX12_within := goodIn_r _ [6] rfl (by decide +kernel)
set_option maxRecDepth 20000 in
theorem gX12_level_X12_within : GoodIn wsX12_level (va_wsS RX12 235 yX12_within wsX12_within) := goodIn_app (goodIn_r _ [3, 4, 5] rfl (by decide +kernel)) ggX12_level_X12_within
theorem dX12_level_4 : decode cX12_level 4 = .ok (.invokestatic 235, 3) := by decide +kernel
theorem dX12_level_7 : decode cX12_level 7 = .ok (.ifCond .eq 14, 3) := by decide +kernel
theorem dX12_level_10 : decode cX12_level 10 = .ok (.iload_n 2, 1) := by decide +kernel
theorem dX12_level_11 : decode cX12_level 11 = .ok (.iconst 0, 1) := by decide +kernel
theorem dX12_level_12 : decode cX12_level 12 = .ok (.ldc_w 492, 3) := by decide +kernel
theorem dX12_level_15 : decode cX12_level 15 = .ok (.invokestatic 235, 3) := by decide +kernel
theorem dX12_level_18 : decode cX12_level 18 = .ok (.ifCond .ne 5, 3) := by decide +kernel
theorem dX12_level_23 : decode cX12_level 23 = .ok (.aload_n 0, 1) := by decide +kernel
theorem dX12_level_24 : decode cX12_level 24 = .ok (.getfield 169, 3) := by decide +kernel
theorem dX12_level_27 : decode cX12_level 27 = .ok (.iload_n 1, 1) := by decide +kernel
theorem dX12_level_28 : decode cX12_level 28 = .ok (.iload_n 2, 1) := by decide +kernel
theorem dX12_level_29 : decode cX12_level 29 = .ok (.iastore, 1) := by decide +kernel
theorem dX12_level_30 : decode cX12_level 30 = .ok (.iconst 1, 1) := by decide +kernel
theorem dX12_level_31 : decode cX12_level 31 = .ok (.ireturn, 1) := by decide +kernel
theorem dX12_level_21 : decode cX12_level 21 = .ok (.iconst 0, 1) := by decide +kernel
theorem dX12_level_22 : decode cX12_level 22 = .ok (.ireturn, 1) := by decide +kernel
theorem dX4_addPort_0 : decode cX4_addPort 0 = .ok (.aload_n 0, 1) := by decide +kernel
theorem dX4_addPort_1 : decode cX4_addPort 1 = .ok (.getfield 44, 3) := by decide +kernel
theorem dX4_addPort_4 : decode cX4_addPort 4 = .ok (.iconst 4, 1) := by decide +kernel
theorem dX4_addPort_5 : decode cX4_addPort 5 = .ok (.if_icmp .lt 5, 3) := by decide +kernel
theorem dX4_addPort_10 : decode cX4_addPort 10 = .ok (.aload_n 0, 1) := by decide +kernel
theorem dX4_addPort_11 : decode cX4_addPort 11 = .ok (.getfield 9, 3) := by decide +kernel
theorem dX4_addPort_14 : decode cX4_addPort 14 = .ok (.aload_n 0, 1) := by decide +kernel
theorem dX4_addPort_15 : decode cX4_addPort 15 = .ok (.getfield 44, 3) := by decide +kernel
theorem dX4_addPort_18 : decode cX4_addPort 18 = .ok (.iload_n 1, 1) := by decide +kernel
theorem dX4_addPort_19 : decode cX4_addPort 19 = .ok (.iastore, 1) := by decide +kernel
theorem dX4_addPort_20 : decode cX4_addPort 20 = .ok (.aload_n 0, 1) := by decide +kernel
theorem dX4_addPort_21 : decode cX4_addPort 21 = .ok (.dup, 1) := by decide +kernel
theorem dX4_addPort_22 : decode cX4_addPort 22 = .ok (.getfield 44, 3) := by decide +kernel
theorem dX4_addPort_25 : decode cX4_addPort 25 = .ok (.iconst 1, 1) := by decide +kernel
theorem dX4_addPort_26 : decode cX4_addPort 26 = .ok (.iadd, 1) := by decide +kernel
theorem dX4_addPort_27 : decode cX4_addPort 27 = .ok (.putfield 44, 3) := by decide +kernel
theorem dX4_addPort_30 : decode cX4_addPort 30 = .ok (.aload_n 0, 1) := by decide +kernel
theorem dX4_addPort_31 : decode cX4_addPort 31 = .ok (.getfield 44, 3) := by decide +kernel
theorem dX4_addPort_34 : decode cX4_addPort 34 = .ok (.iconst 1, 1) := by decide +kernel
theorem dX4_addPort_35 : decode cX4_addPort 35 = .ok (.isub, 1) := by decide +kernel
theorem dX4_addPort_36 : decode cX4_addPort 36 = .ok (.ireturn, 1) := by decide +kernel
theorem dX2_add_0 : decode cX2_add 0 = .ok (.aload_n 0, 1) := by decide +kernel
theorem dX2_add_1 : decode cX2_add 1 = .ok (.getfield 42, 3) := by decide +kernel
theorem dX2_add_4 : decode cX2_add 4 = .ok (.bipush 30, 2) := by decide +kernel
theorem dX2_add_6 : decode cX2_add 6 = .ok (.if_icmp .lt 5, 3) := by decide +kernel
theorem dX2_add_11 : decode cX2_add 11 = .ok (.aload_n 0, 1) := by decide +kernel
theorem dX2_add_12 : decode cX2_add 12 = .ok (.getfield 9, 3) := by decide +kernel
theorem dX2_add_15 : decode cX2_add 15 = .ok (.aload_n 0, 1) := by decide +kernel
theorem dX2_add_16 : decode cX2_add 16 = .ok (.getfield 42, 3) := by decide +kernel
theorem dX2_add_19 : decode cX2_add 19 = .ok (.iload_n 1, 1) := by decide +kernel
theorem dX2_add_20 : decode cX2_add 20 = .ok (.iastore, 1) := by decide +kernel
theorem dX2_add_21 : decode cX2_add 21 = .ok (.aload_n 0, 1) := by decide +kernel
theorem dX2_add_22 : decode cX2_add 22 = .ok (.getfield 15, 3) := by decide +kernel
theorem dX2_add_25 : decode cX2_add 25 = .ok (.aload_n 0, 1) := by decide +kernel
theorem dX2_add_26 : decode cX2_add 26 = .ok (.getfield 42, 3) := by decide +kernel
theorem dX2_add_29 : decode cX2_add 29 = .ok (.iload_n 2, 1) := by decide +kernel
theorem dX2_add_30 : decode cX2_add 30 = .ok (.iastore, 1) := by decide +kernel
theorem dX2_add_31 : decode cX2_add 31 = .ok (.aload_n 0, 1) := by decide +kernel
theorem dX2_add_32 : decode cX2_add 32 = .ok (.getfield 18, 3) := by decide +kernel
theorem dX2_add_35 : decode cX2_add 35 = .ok (.aload_n 0, 1) := by decide +kernel
theorem dX2_add_36 : decode cX2_add 36 = .ok (.getfield 42, 3) := by decide +kernel
theorem dX2_add_39 : decode cX2_add 39 = .ok (.iload_n 3, 1) := by decide +kernel
theorem dX2_add_40 : decode cX2_add 40 = .ok (.iastore, 1) := by decide +kernel
theorem dX2_add_41 : decode cX2_add 41 = .ok (.aload_n 0, 1) := by decide +kernel
theorem dX2_add_42 : decode cX2_add 42 = .ok (.getfield 21, 3) := by decide +kernel
theorem dX2_add_45 : decode cX2_add 45 = .ok (.aload_n 0, 1) := by decide +kernel
theorem dX2_add_46 : decode cX2_add 46 = .ok (.getfield 42, 3) := by decide +kernel
theorem dX2_add_49 : decode cX2_add 49 = .ok (.iload 4, 2) := by decide +kernel
theorem dX2_add_51 : decode cX2_add 51 = .ok (.iastore, 1) := by decide +kernel
theorem dX2_add_52 : decode cX2_add 52 = .ok (.aload_n 0, 1) := by decide +kernel
theorem dX2_add_53 : decode cX2_add 53 = .ok (.getfield 24, 3) := by decide +kernel
theorem dX2_add_56 : decode cX2_add 56 = .ok (.aload_n 0, 1) := by decide +kernel
theorem dX2_add_57 : decode cX2_add 57 = .ok (.getfield 42, 3) := by decide +kernel
theorem dX2_add_60 : decode cX2_add 60 = .ok (.iload 5, 2) := by decide +kernel
theorem dX2_add_62 : decode cX2_add 62 = .ok (.iastore, 1) := by decide +kernel
theorem dX2_add_63 : decode cX2_add 63 = .ok (.aload_n 0, 1) := by decide +kernel
theorem dX2_add_64 : decode cX2_add 64 = .ok (.dup, 1) := by decide +kernel
theorem dX2_add_65 : decode cX2_add 65 = .ok (.getfield 42, 3) := by decide +kernel
theorem dX2_add_68 : decode cX2_add 68 = .ok (.iconst 1, 1) := by decide +kernel
theorem dX2_add_69 : decode cX2_add 69 = .ok (.iadd, 1) := by decide +kernel
theorem dX2_add_70 : decode cX2_add 70 = .ok (.putfield 42, 3) := by decide +kernel
theorem dX2_add_73 : decode cX2_add 73 = .ok (.aload_n 0, 1) := by decide +kernel
theorem dX2_add_74 : decode cX2_add 74 = .ok (.getfield 42, 3) := by decide +kernel
theorem dX2_add_77 : decode cX2_add 77 = .ok (.iconst 1, 1) := by decide +kernel
theorem dX2_add_78 : decode cX2_add 78 = .ok (.isub, 1) := by decide +kernel
theorem dX2_add_79 : decode cX2_add 79 = .ok (.ireturn, 1) := by decide +kernel
theorem dX8_judgedGood_0 : decode cX8_judgedGood 0 = .ok (.iconst 0, 1) := by decide +kernel
theorem dX8_judgedGood_1 : decode cX8_judgedGood 1 = .ok (.istore_n 1, 1) := by decide +kernel
theorem dX8_judgedGood_2 : decode cX8_judgedGood 2 = .ok (.iconst 0, 1) := by decide +kernel
theorem dX8_judgedGood_3 : decode cX8_judgedGood 3 = .ok (.istore_n 2, 1) := by decide +kernel
theorem dX8_judgedGood_4 : decode cX8_judgedGood 4 = .ok (.iload_n 2, 1) := by decide +kernel
theorem dX8_judgedGood_5 : decode cX8_judgedGood 5 = .ok (.aload_n 0, 1) := by decide +kernel
theorem dX8_judgedGood_6 : decode cX8_judgedGood 6 = .ok (.getfield 36, 3) := by decide +kernel
theorem dX8_judgedGood_9 : decode cX8_judgedGood 9 = .ok (.if_icmp .ge 33, 3) := by decide +kernel
theorem dX8_judgedGood_42 : decode cX8_judgedGood 42 = .ok (.iload_n 1, 1) := by decide +kernel
theorem dX8_judgedGood_43 : decode cX8_judgedGood 43 = .ok (.ireturn, 1) := by decide +kernel
theorem dX8_judgedOtherwise_0 : decode cX8_judgedOtherwise 0 = .ok (.iconst 0, 1) := by decide +kernel
theorem dX8_judgedOtherwise_1 : decode cX8_judgedOtherwise 1 = .ok (.istore_n 1, 1) := by decide +kernel
theorem dX8_judgedOtherwise_2 : decode cX8_judgedOtherwise 2 = .ok (.iconst 0, 1) := by decide +kernel
theorem dX8_judgedOtherwise_3 : decode cX8_judgedOtherwise 3 = .ok (.istore_n 2, 1) := by decide +kernel
theorem dX8_judgedOtherwise_4 : decode cX8_judgedOtherwise 4 = .ok (.iload_n 2, 1) := by decide +kernel
theorem dX8_judgedOtherwise_5 : decode cX8_judgedOtherwise 5 = .ok (.aload_n 0, 1) := by decide +kernel
theorem dX8_judgedOtherwise_6 : decode cX8_judgedOtherwise 6 = .ok (.getfield 36, 3) := by decide +kernel
theorem dX8_judgedOtherwise_9 : decode cX8_judgedOtherwise 9 = .ok (.if_icmp .ge 33, 3) := by decide +kernel
theorem dX8_judgedOtherwise_42 : decode cX8_judgedOtherwise 42 = .ok (.iload_n 1, 1) := by decide +kernel
theorem dX8_judgedOtherwise_43 : decode cX8_judgedOtherwise 43 = .ok (.ireturn, 1) := by decide +kernel
theorem dX8_tell_0 : decode cX8_tell 0 = .ok (.aload_n 0, 1) := by decide +kernel
theorem dX8_tell_1 : decode cX8_tell 1 = .ok (.iload_n 1, 1) := by decide +kernel
set_option maxRecDepth 20000 in
theorem ggX8_tell_X8_has : GoodIn wsX8_tell wsX8_has := goodIn_r _ [12, 13, 14, 15, 16, 17, 18, 19, 20, 21, 22] rfl (by decide +kernel)
set_option maxRecDepth 20000 in
theorem gX8_tell_X8_has : GoodIn wsX8_tell (wsV RX8 40 RX8 yX8_has wsX8_has) := goodIn_app (goodIn_r _ [8, 9, 10, 11] rfl (by decide +kernel)) ggX8_tell_X8_has
theorem dX8_tell_2 : decode cX8_tell 2 = .ok (.invokevirtual 40, 3) := by decide +kernel
theorem dX8_tell_5 : decode cX8_tell 5 = .ok (.ifCond .ne 5, 3) := by decide +kernel
theorem dX8_tell_8 : decode cX8_tell 8 = .ok (.iconst (-1), 1) := by decide +kernel
theorem dX8_tell_9 : decode cX8_tell 9 = .ok (.ireturn, 1) := by decide +kernel
theorem dX11_port_0 : decode cX11_port 0 = .ok (.iload_n 1, 1) := by decide +kernel
theorem dX11_port_1 : decode cX11_port 1 = .ok (.iconst 0, 1) := by decide +kernel
theorem dX11_port_2 : decode cX11_port 2 = .ok (.bipush 50, 2) := by decide +kernel
set_option maxRecDepth 20000 in
theorem ggX11_port_X11_within : GoodIn wsX11_port wsX11_within := goodIn_r _ [5] rfl (by decide +kernel)
set_option maxRecDepth 20000 in
theorem gX11_port_X11_within : GoodIn wsX11_port (va_wsS RX11 88 yX11_within wsX11_within) := goodIn_app (goodIn_r _ [2, 3, 4] rfl (by decide +kernel)) ggX11_port_X11_within
theorem dX11_port_4 : decode cX11_port 4 = .ok (.invokestatic 88, 3) := by decide +kernel
theorem dX11_port_7 : decode cX11_port 7 = .ok (.ifCond .ne 5, 3) := by decide +kernel
theorem dX11_port_12 : decode cX11_port 12 = .ok (.aload_n 0, 1) := by decide +kernel
theorem dX11_port_13 : decode cX11_port 13 = .ok (.getfield 61, 3) := by decide +kernel
theorem dX11_port_16 : decode cX11_port 16 = .ok (.iload_n 1, 1) := by decide +kernel
set_option maxRecDepth 20000 in
theorem ggX11_port_X4_addPort : GoodIn wsX11_port wsX4_addPort := goodIn_r _ [10, 11, 12, 26, 27, 28, 29, 30, 31, 32, 33, 34, 35, 36, 37, 38] rfl (by decide +kernel)
set_option maxRecDepth 20000 in
theorem gX11_port_X4_addPort : GoodIn wsX11_port (wsV RX11 296 RX4 yX4_addPort wsX4_addPort) := goodIn_app (goodIn_r _ [6, 7, 8, 9] rfl (by decide +kernel)) ggX11_port_X4_addPort
theorem dX11_port_17 : decode cX11_port 17 = .ok (.invokevirtual 296, 3) := by decide +kernel
theorem dX11_port_20 : decode cX11_port 20 = .ok (.ireturn, 1) := by decide +kernel
theorem dX11_port_10 : decode cX11_port 10 = .ok (.iconst (-1), 1) := by decide +kernel
theorem dX11_port_11 : decode cX11_port 11 = .ok (.ireturn, 1) := by decide +kernel
theorem dX11_holder_0 : decode cX11_holder 0 = .ok (.iload_n 1, 1) := by decide +kernel
theorem dX11_holder_1 : decode cX11_holder 1 = .ok (.iconst 1, 1) := by decide +kernel
theorem dX11_holder_2 : decode cX11_holder 2 = .ok (.bipush 9, 2) := by decide +kernel
set_option maxRecDepth 20000 in
theorem ggX11_holder_X11_within : GoodIn wsX11_holder wsX11_within := goodIn_r _ [5] rfl (by decide +kernel)
set_option maxRecDepth 20000 in
theorem gX11_holder_X11_within : GoodIn wsX11_holder (va_wsS RX11 88 yX11_within wsX11_within) := goodIn_app (goodIn_r _ [2, 3, 4] rfl (by decide +kernel)) ggX11_holder_X11_within
theorem dX11_holder_4 : decode cX11_holder 4 = .ok (.invokestatic 88, 3) := by decide +kernel
theorem dX11_holder_7 : decode cX11_holder 7 = .ok (.ifCond .eq 23, 3) := by decide +kernel
theorem dX11_holder_10 : decode cX11_holder 10 = .ok (.iload_n 2, 1) := by decide +kernel
theorem dX11_holder_11 : decode cX11_holder 11 = .ok (.iconst 0, 1) := by decide +kernel
theorem dX11_holder_12 : decode cX11_holder 12 = .ok (.bipush 9, 2) := by decide +kernel
theorem dX11_holder_14 : decode cX11_holder 14 = .ok (.invokestatic 88, 3) := by decide +kernel
theorem dX11_holder_17 : decode cX11_holder 17 = .ok (.ifCond .eq 13, 3) := by decide +kernel
theorem dX11_holder_20 : decode cX11_holder 20 = .ok (.iload_n 3, 1) := by decide +kernel
theorem dX11_holder_21 : decode cX11_holder 21 = .ok (.iconst 1, 1) := by decide +kernel
theorem dX11_holder_22 : decode cX11_holder 22 = .ok (.bipush 8, 2) := by decide +kernel
theorem dX11_holder_24 : decode cX11_holder 24 = .ok (.invokestatic 88, 3) := by decide +kernel
theorem dX11_holder_27 : decode cX11_holder 27 = .ok (.ifCond .ne 5, 3) := by decide +kernel
theorem dX11_holder_32 : decode cX11_holder 32 = .ok (.iload 4, 2) := by decide +kernel
theorem dX11_holder_34 : decode cX11_holder 34 = .ok (.iconst 0, 1) := by decide +kernel
theorem dX11_holder_35 : decode cX11_holder 35 = .ok (.sipush 999, 3) := by decide +kernel
theorem dX11_holder_38 : decode cX11_holder 38 = .ok (.invokestatic 88, 3) := by decide +kernel
theorem dX11_holder_41 : decode cX11_holder 41 = .ok (.ifCond .eq 14, 3) := by decide +kernel
theorem dX11_holder_44 : decode cX11_holder 44 = .ok (.iload 5, 2) := by decide +kernel
theorem dX11_holder_46 : decode cX11_holder 46 = .ok (.iconst 0, 1) := by decide +kernel
theorem dX11_holder_47 : decode cX11_holder 47 = .ok (.bipush 99, 2) := by decide +kernel
theorem dX11_holder_49 : decode cX11_holder 49 = .ok (.invokestatic 88, 3) := by decide +kernel
theorem dX11_holder_52 : decode cX11_holder 52 = .ok (.ifCond .ne 5, 3) := by decide +kernel
theorem dX11_holder_57 : decode cX11_holder 57 = .ok (.aload_n 0, 1) := by decide +kernel
theorem dX11_holder_58 : decode cX11_holder 58 = .ok (.getfield 16, 3) := by decide +kernel
theorem dX11_holder_61 : decode cX11_holder 61 = .ok (.iload_n 1, 1) := by decide +kernel
theorem dX11_holder_62 : decode cX11_holder 62 = .ok (.iload_n 2, 1) := by decide +kernel
theorem dX11_holder_63 : decode cX11_holder 63 = .ok (.iload_n 3, 1) := by decide +kernel
theorem dX11_holder_64 : decode cX11_holder 64 = .ok (.iload 4, 2) := by decide +kernel
theorem dX11_holder_66 : decode cX11_holder 66 = .ok (.iload 5, 2) := by decide +kernel
set_option maxRecDepth 20000 in
theorem ggX11_holder_X2_add : GoodIn wsX11_holder wsX2_add := goodIn_r _ [10, 11, 12, 13, 14, 15, 16, 30, 31, 32, 33, 34, 35, 36, 37, 38, 39, 40, 41] rfl (by decide +kernel)
set_option maxRecDepth 20000 in
theorem gX11_holder_X2_add : GoodIn wsX11_holder (wsV RX11 92 RX2 yX2_add wsX2_add) := goodIn_app (goodIn_r _ [6, 7, 8, 9] rfl (by decide +kernel)) ggX11_holder_X2_add
theorem dX11_holder_68 : decode cX11_holder 68 = .ok (.invokevirtual 92, 3) := by decide +kernel
theorem dX11_holder_71 : decode cX11_holder 71 = .ok (.ireturn, 1) := by decide +kernel
theorem dX11_holder_55 : decode cX11_holder 55 = .ok (.iconst (-1), 1) := by decide +kernel
theorem dX11_holder_56 : decode cX11_holder 56 = .ok (.ireturn, 1) := by decide +kernel
theorem dX11_holder_30 : decode cX11_holder 30 = .ok (.iconst (-1), 1) := by decide +kernel
theorem dX11_holder_31 : decode cX11_holder 31 = .ok (.ireturn, 1) := by decide +kernel
theorem dX11_count_0 : decode cX11_count 0 = .ok (.iload_n 1, 1) := by decide +kernel
theorem dX11_count_1 : decode cX11_count 1 = .ok (.tableswitch 165 0 12 #[67, 72, 80, 88, 96, 104, 109, 117, 125, 133, 141, 149, 157], 67) := by decide +kernel
theorem dX11_count_68 : decode cX11_count 68 = .ok (.aload_n 0, 1) := by decide +kernel
theorem dX11_count_69 : decode cX11_count 69 = .ok (.getfield 85, 3) := by decide +kernel
theorem dX11_count_72 : decode cX11_count 72 = .ok (.ireturn, 1) := by decide +kernel
theorem dX11_count_73 : decode cX11_count 73 = .ok (.aload_n 0, 1) := by decide +kernel
theorem dX11_count_74 : decode cX11_count 74 = .ok (.getfield 16, 3) := by decide +kernel
theorem dX11_count_77 : decode cX11_count 77 = .ok (.getfield 373, 3) := by decide +kernel
theorem dX11_count_80 : decode cX11_count 80 = .ok (.ireturn, 1) := by decide +kernel
theorem dX11_count_81 : decode cX11_count 81 = .ok (.aload_n 0, 1) := by decide +kernel
theorem dX11_count_82 : decode cX11_count 82 = .ok (.getfield 16, 3) := by decide +kernel
theorem dX11_count_85 : decode cX11_count 85 = .ok (.getfield 407, 3) := by decide +kernel
theorem dX11_count_88 : decode cX11_count 88 = .ok (.ireturn, 1) := by decide +kernel
theorem dX11_count_89 : decode cX11_count 89 = .ok (.aload_n 0, 1) := by decide +kernel
theorem dX11_count_90 : decode cX11_count 90 = .ok (.getfield 30, 3) := by decide +kernel
theorem dX11_count_93 : decode cX11_count 93 = .ok (.getfield 125, 3) := by decide +kernel
theorem dX11_count_96 : decode cX11_count 96 = .ok (.ireturn, 1) := by decide +kernel
theorem dX11_count_97 : decode cX11_count 97 = .ok (.aload_n 0, 1) := by decide +kernel
theorem dX11_count_98 : decode cX11_count 98 = .ok (.getfield 37, 3) := by decide +kernel
theorem dX11_count_101 : decode cX11_count 101 = .ok (.getfield 410, 3) := by decide +kernel
theorem dX11_count_104 : decode cX11_count 104 = .ok (.ireturn, 1) := by decide +kernel
theorem dX11_count_105 : decode cX11_count 105 = .ok (.aload_n 0, 1) := by decide +kernel
theorem dX11_count_106 : decode cX11_count 106 = .ok (.getfield 178, 3) := by decide +kernel
theorem dX11_count_109 : decode cX11_count 109 = .ok (.ireturn, 1) := by decide +kernel
theorem dX11_count_110 : decode cX11_count 110 = .ok (.aload_n 0, 1) := by decide +kernel
theorem dX11_count_111 : decode cX11_count 111 = .ok (.getfield 44, 3) := by decide +kernel
theorem dX11_count_114 : decode cX11_count 114 = .ok (.getfield 201, 3) := by decide +kernel
theorem dX11_count_117 : decode cX11_count 117 = .ok (.ireturn, 1) := by decide +kernel
theorem dX11_count_118 : decode cX11_count 118 = .ok (.aload_n 0, 1) := by decide +kernel
theorem dX11_count_119 : decode cX11_count 119 = .ok (.getfield 44, 3) := by decide +kernel
set_option maxRecDepth 20000 in
theorem ggX11_count_X8_judgedGood : GoodIn wsX11_count wsX8_judgedGood := goodIn_r _ [23, 24, 25, 63, 64, 65, 66, 67, 68, 69, 70, 71] rfl (by decide +kernel)
set_option maxRecDepth 20000 in
theorem gX11_count_X8_judgedGood : GoodIn wsX11_count (wsV RX11 413 RX8 yX8_judgedGood wsX8_judgedGood) := goodIn_app (goodIn_r _ [19, 20, 21, 22] rfl (by decide +kernel)) ggX11_count_X8_judgedGood
theorem dX11_count_122 : decode cX11_count 122 = .ok (.invokevirtual 413, 3) := by decide +kernel
theorem dX11_count_125 : decode cX11_count 125 = .ok (.ireturn, 1) := by decide +kernel
theorem dX11_count_126 : decode cX11_count 126 = .ok (.aload_n 0, 1) := by decide +kernel
theorem dX11_count_127 : decode cX11_count 127 = .ok (.getfield 44, 3) := by decide +kernel
set_option maxRecDepth 20000 in
theorem ggX11_count_X8_judgedOtherwise : GoodIn wsX11_count wsX8_judgedOtherwise := goodIn_r _ [29, 24, 25, 63, 64, 65, 66, 67, 68, 69, 70, 71] rfl (by decide +kernel)
set_option maxRecDepth 20000 in
theorem gX11_count_X8_judgedOtherwise : GoodIn wsX11_count (wsV RX11 416 RX8 yX8_judgedOtherwise wsX8_judgedOtherwise) := goodIn_app (goodIn_r _ [26, 27, 28, 22] rfl (by decide +kernel)) ggX11_count_X8_judgedOtherwise
theorem dX11_count_130 : decode cX11_count 130 = .ok (.invokevirtual 416, 3) := by decide +kernel
theorem dX11_count_133 : decode cX11_count 133 = .ok (.ireturn, 1) := by decide +kernel
theorem dX11_count_134 : decode cX11_count 134 = .ok (.aload_n 0, 1) := by decide +kernel
theorem dX11_count_135 : decode cX11_count 135 = .ok (.getfield 37, 3) := by decide +kernel
theorem dX11_count_138 : decode cX11_count 138 = .ok (.getfield 419, 3) := by decide +kernel
theorem dX11_count_141 : decode cX11_count 141 = .ok (.ireturn, 1) := by decide +kernel
theorem dX11_count_142 : decode cX11_count 142 = .ok (.aload_n 0, 1) := by decide +kernel
theorem dX11_count_143 : decode cX11_count 143 = .ok (.getfield 61, 3) := by decide +kernel
theorem dX11_count_146 : decode cX11_count 146 = .ok (.getfield 422, 3) := by decide +kernel
theorem dX11_count_149 : decode cX11_count 149 = .ok (.ireturn, 1) := by decide +kernel
theorem dX11_count_150 : decode cX11_count 150 = .ok (.aload_n 0, 1) := by decide +kernel
theorem dX11_count_151 : decode cX11_count 151 = .ok (.getfield 68, 3) := by decide +kernel
theorem dX11_count_154 : decode cX11_count 154 = .ok (.getfield 425, 3) := by decide +kernel
theorem dX11_count_157 : decode cX11_count 157 = .ok (.ireturn, 1) := by decide +kernel
theorem dX11_count_158 : decode cX11_count 158 = .ok (.aload_n 0, 1) := by decide +kernel
theorem dX11_count_159 : decode cX11_count 159 = .ok (.getfield 23, 3) := by decide +kernel
theorem dX11_count_162 : decode cX11_count 162 = .ok (.getfield 115, 3) := by decide +kernel
theorem dX11_count_165 : decode cX11_count 165 = .ok (.ireturn, 1) := by decide +kernel
theorem dX11_count_166 : decode cX11_count 166 = .ok (.iconst (-1), 1) := by decide +kernel
theorem dX11_count_167 : decode cX11_count 167 = .ok (.ireturn, 1) := by decide +kernel
theorem dX11_other_0 : decode cX11_other 0 = .ok (.iload_n 1, 1) := by decide +kernel
theorem dX11_other_1 : decode cX11_other 1 = .ok (.iconst 0, 1) := by decide +kernel
theorem dX11_other_2 : decode cX11_other 2 = .ok (.iconst 2, 1) := by decide +kernel
set_option maxRecDepth 20000 in
theorem ggX11_other_X11_within : GoodIn wsX11_other wsX11_within := goodIn_r _ [6] rfl (by decide +kernel)
set_option maxRecDepth 20000 in
theorem gX11_other_X11_within : GoodIn wsX11_other (va_wsS RX11 88 yX11_within wsX11_within) := goodIn_app (goodIn_r _ [3, 4, 5] rfl (by decide +kernel)) ggX11_other_X11_within
theorem dX11_other_3 : decode cX11_other 3 = .ok (.invokestatic 88, 3) := by decide +kernel
theorem dX11_other_6 : decode cX11_other 6 = .ok (.ifCond .eq 31, 3) := by decide +kernel
theorem dX11_other_9 : decode cX11_other 9 = .ok (.iload_n 2, 1) := by decide +kernel
set_option maxRecDepth 20000 in
theorem ggX11_other_X11_isMonth : GoodIn wsX11_other wsX11_isMonth := goodIn_r _ [9, 3, 4, 5, 6] rfl (by decide +kernel)
set_option maxRecDepth 20000 in
theorem gX11_other_X11_isMonth : GoodIn wsX11_other (va_wsS RX11 122 yX11_isMonth wsX11_isMonth) := goodIn_app (goodIn_r _ [7, 8, 5] rfl (by decide +kernel)) ggX11_other_X11_isMonth
theorem dX11_other_10 : decode cX11_other 10 = .ok (.invokestatic 122, 3) := by decide +kernel
theorem dX11_other_13 : decode cX11_other 13 = .ok (.ifCond .eq 24, 3) := by decide +kernel
theorem dX11_other_16 : decode cX11_other 16 = .ok (.aload_n 0, 1) := by decide +kernel
theorem dX11_other_17 : decode cX11_other 17 = .ok (.getfield 16, 3) := by decide +kernel
theorem dX11_other_20 : decode cX11_other 20 = .ok (.iload_n 3, 1) := by decide +kernel
set_option maxRecDepth 20000 in
theorem ggX11_other_X2_has : GoodIn wsX11_other wsX2_has := goodIn_r _ [14, 15, 168, 169, 170, 171, 172, 173, 174, 175, 176, 177, 178, 179] rfl (by decide +kernel)
set_option maxRecDepth 20000 in
theorem gX11_other_X2_has : GoodIn wsX11_other (wsV RX11 96 RX2 yX2_has wsX2_has) := goodIn_app (goodIn_r _ [10, 11, 12, 13] rfl (by decide +kernel)) ggX11_other_X2_has
theorem dX11_other_21 : decode cX11_other 21 = .ok (.invokevirtual 96, 3) := by decide +kernel
theorem dX11_other_24 : decode cX11_other 24 = .ok (.ifCond .eq 13, 3) := by decide +kernel
theorem dX11_other_37 : decode cX11_other 37 = .ok (.iconst (-1), 1) := by decide +kernel
theorem dX11_other_38 : decode cX11_other 38 = .ok (.ireturn, 1) := by decide +kernel
theorem dX11_poured_0 : decode cX11_poured 0 = .ok (.aload_n 0, 1) := by decide +kernel
theorem dX11_poured_1 : decode cX11_poured 1 = .ok (.getfield 44, 3) := by decide +kernel
theorem dX11_poured_4 : decode cX11_poured 4 = .ok (.iload_n 1, 1) := by decide +kernel
theorem dX11_poured_5 : decode cX11_poured 5 = .ok (.iload_n 2, 1) := by decide +kernel
set_option maxRecDepth 20000 in
theorem ggX11_poured_X8_tell : GoodIn wsX11_poured wsX8_tell := goodIn_r _ [6, 7, 8, 9, 10, 11, 12, 13, 14, 15, 16, 5, 17, 18, 32, 33, 34, 35, 36, 37, 38, 39, 40] rfl (by decide +kernel)
set_option maxRecDepth 20000 in
theorem gX11_poured_X8_tell : GoodIn wsX11_poured (wsV RX11 220 RX8 yX8_tell wsX8_tell) := goodIn_app (goodIn_r _ [2, 3, 4, 5] rfl (by decide +kernel)) ggX11_poured_X8_tell
theorem dX11_poured_6 : decode cX11_poured 6 = .ok (.invokevirtual 220, 3) := by decide +kernel
theorem dX11_poured_9 : decode cX11_poured 9 = .ok (.ireturn, 1) := by decide +kernel
theorem dX12_port_0 : decode cX12_port 0 = .ok (.iload_n 1, 1) := by decide +kernel
theorem dX12_port_1 : decode cX12_port 1 = .ok (.iconst 0, 1) := by decide +kernel
theorem dX12_port_2 : decode cX12_port 2 = .ok (.bipush 50, 2) := by decide +kernel
set_option maxRecDepth 20000 in
theorem ggX12_port_X12_within : GoodIn wsX12_port wsX12_within := goodIn_r _ [6] rfl (by decide +kernel)
set_option maxRecDepth 20000 in
theorem gX12_port_X12_within : GoodIn wsX12_port (va_wsS RX12 235 yX12_within wsX12_within) := goodIn_app (goodIn_r _ [3, 4, 5] rfl (by decide +kernel)) ggX12_port_X12_within
theorem dX12_port_4 : decode cX12_port 4 = .ok (.invokestatic 235, 3) := by decide +kernel
theorem dX12_port_7 : decode cX12_port 7 = .ok (.ifCond .eq 11, 3) := by decide +kernel
theorem dX12_port_10 : decode cX12_port 10 = .ok (.aload_n 0, 1) := by decide +kernel
theorem dX12_port_11 : decode cX12_port 11 = .ok (.getfield 493, 3) := by decide +kernel
theorem dX12_port_14 : decode cX12_port 14 = .ok (.iconst 4, 1) := by decide +kernel
theorem dX12_port_15 : decode cX12_port 15 = .ok (.if_icmp .ne 5, 3) := by decide +kernel
theorem dX12_port_20 : decode cX12_port 20 = .ok (.aload_n 0, 1) := by decide +kernel
theorem dX12_port_21 : decode cX12_port 21 = .ok (.getfield 172, 3) := by decide +kernel
theorem dX12_port_24 : decode cX12_port 24 = .ok (.aload_n 0, 1) := by decide +kernel
theorem dX12_port_25 : decode cX12_port 25 = .ok (.getfield 493, 3) := by decide +kernel
theorem dX12_port_28 : decode cX12_port 28 = .ok (.iload_n 1, 1) := by decide +kernel
theorem dX12_port_29 : decode cX12_port 29 = .ok (.iastore, 1) := by decide +kernel
theorem dX12_port_30 : decode cX12_port 30 = .ok (.aload_n 0, 1) := by decide +kernel
theorem dX12_port_31 : decode cX12_port 31 = .ok (.dup, 1) := by decide +kernel
theorem dX12_port_32 : decode cX12_port 32 = .ok (.getfield 493, 3) := by decide +kernel
theorem dX12_port_35 : decode cX12_port 35 = .ok (.iconst 1, 1) := by decide +kernel
theorem dX12_port_36 : decode cX12_port 36 = .ok (.iadd, 1) := by decide +kernel
theorem dX12_port_37 : decode cX12_port 37 = .ok (.putfield 493, 3) := by decide +kernel
theorem dX12_port_40 : decode cX12_port 40 = .ok (.aload_n 0, 1) := by decide +kernel
theorem dX12_port_41 : decode cX12_port 41 = .ok (.getfield 493, 3) := by decide +kernel
theorem dX12_port_44 : decode cX12_port 44 = .ok (.iconst 1, 1) := by decide +kernel
theorem dX12_port_45 : decode cX12_port 45 = .ok (.isub, 1) := by decide +kernel
theorem dX12_port_46 : decode cX12_port 46 = .ok (.ireturn, 1) := by decide +kernel
theorem dX12_port_18 : decode cX12_port 18 = .ok (.iconst (-1), 1) := by decide +kernel
theorem dX12_port_19 : decode cX12_port 19 = .ok (.ireturn, 1) := by decide +kernel
theorem dX12_holder_0 : decode cX12_holder 0 = .ok (.iload_n 1, 1) := by decide +kernel
theorem dX12_holder_1 : decode cX12_holder 1 = .ok (.iconst 1, 1) := by decide +kernel
theorem dX12_holder_2 : decode cX12_holder 2 = .ok (.bipush 9, 2) := by decide +kernel
set_option maxRecDepth 20000 in
theorem ggX12_holder_X12_within : GoodIn wsX12_holder wsX12_within := goodIn_r _ [10] rfl (by decide +kernel)
set_option maxRecDepth 20000 in
theorem gX12_holder_X12_within : GoodIn wsX12_holder (va_wsS RX12 235 yX12_within wsX12_within) := goodIn_app (goodIn_r _ [7, 8, 9] rfl (by decide +kernel)) ggX12_holder_X12_within
theorem dX12_holder_4 : decode cX12_holder 4 = .ok (.invokestatic 235, 3) := by decide +kernel
theorem dX12_holder_7 : decode cX12_holder 7 = .ok (.ifCond .eq 55, 3) := by decide +kernel
theorem dX12_holder_10 : decode cX12_holder 10 = .ok (.iload_n 2, 1) := by decide +kernel
theorem dX12_holder_11 : decode cX12_holder 11 = .ok (.iconst 0, 1) := by decide +kernel
theorem dX12_holder_12 : decode cX12_holder 12 = .ok (.bipush 9, 2) := by decide +kernel
theorem dX12_holder_14 : decode cX12_holder 14 = .ok (.invokestatic 235, 3) := by decide +kernel
theorem dX12_holder_17 : decode cX12_holder 17 = .ok (.ifCond .eq 45, 3) := by decide +kernel
theorem dX12_holder_20 : decode cX12_holder 20 = .ok (.iload_n 3, 1) := by decide +kernel
theorem dX12_holder_21 : decode cX12_holder 21 = .ok (.iconst 1, 1) := by decide +kernel
theorem dX12_holder_22 : decode cX12_holder 22 = .ok (.bipush 8, 2) := by decide +kernel
theorem dX12_holder_24 : decode cX12_holder 24 = .ok (.invokestatic 235, 3) := by decide +kernel
theorem dX12_holder_27 : decode cX12_holder 27 = .ok (.ifCond .eq 35, 3) := by decide +kernel
theorem dX12_holder_30 : decode cX12_holder 30 = .ok (.iload 4, 2) := by decide +kernel
theorem dX12_holder_32 : decode cX12_holder 32 = .ok (.iconst 0, 1) := by decide +kernel
theorem dX12_holder_33 : decode cX12_holder 33 = .ok (.sipush 999, 3) := by decide +kernel
theorem dX12_holder_36 : decode cX12_holder 36 = .ok (.invokestatic 235, 3) := by decide +kernel
theorem dX12_holder_39 : decode cX12_holder 39 = .ok (.ifCond .eq 23, 3) := by decide +kernel
theorem dX12_holder_42 : decode cX12_holder 42 = .ok (.iload 5, 2) := by decide +kernel
theorem dX12_holder_44 : decode cX12_holder 44 = .ok (.iconst 0, 1) := by decide +kernel
theorem dX12_holder_45 : decode cX12_holder 45 = .ok (.bipush 99, 2) := by decide +kernel
theorem dX12_holder_47 : decode cX12_holder 47 = .ok (.invokestatic 235, 3) := by decide +kernel
theorem dX12_holder_50 : decode cX12_holder 50 = .ok (.ifCond .eq 12, 3) := by decide +kernel
theorem dX12_holder_53 : decode cX12_holder 53 = .ok (.aload_n 0, 1) := by decide +kernel
theorem dX12_holder_54 : decode cX12_holder 54 = .ok (.getfield 229, 3) := by decide +kernel
theorem dX12_holder_57 : decode cX12_holder 57 = .ok (.bipush 30, 2) := by decide +kernel
theorem dX12_holder_59 : decode cX12_holder 59 = .ok (.if_icmp .ne 5, 3) := by decide +kernel
theorem dX12_holder_64 : decode cX12_holder 64 = .ok (.aload_n 0, 1) := by decide +kernel
theorem dX12_holder_65 : decode cX12_holder 65 = .ok (.getfield 7, 3) := by decide +kernel
theorem dX12_holder_68 : decode cX12_holder 68 = .ok (.aload_n 0, 1) := by decide +kernel
theorem dX12_holder_69 : decode cX12_holder 69 = .ok (.getfield 229, 3) := by decide +kernel
theorem dX12_holder_72 : decode cX12_holder 72 = .ok (.iload_n 1, 1) := by decide +kernel
theorem dX12_holder_73 : decode cX12_holder 73 = .ok (.iastore, 1) := by decide +kernel
theorem dX12_holder_74 : decode cX12_holder 74 = .ok (.aload_n 0, 1) := by decide +kernel
theorem dX12_holder_75 : decode cX12_holder 75 = .ok (.getfield 13, 3) := by decide +kernel
theorem dX12_holder_78 : decode cX12_holder 78 = .ok (.aload_n 0, 1) := by decide +kernel
theorem dX12_holder_79 : decode cX12_holder 79 = .ok (.getfield 229, 3) := by decide +kernel
theorem dX12_holder_82 : decode cX12_holder 82 = .ok (.iload_n 2, 1) := by decide +kernel
theorem dX12_holder_83 : decode cX12_holder 83 = .ok (.iastore, 1) := by decide +kernel
theorem dX12_holder_84 : decode cX12_holder 84 = .ok (.aload_n 0, 1) := by decide +kernel
theorem dX12_holder_85 : decode cX12_holder 85 = .ok (.getfield 16, 3) := by decide +kernel
theorem dX12_holder_88 : decode cX12_holder 88 = .ok (.aload_n 0, 1) := by decide +kernel
theorem dX12_holder_89 : decode cX12_holder 89 = .ok (.getfield 229, 3) := by decide +kernel
theorem dX12_holder_92 : decode cX12_holder 92 = .ok (.iload_n 3, 1) := by decide +kernel
theorem dX12_holder_93 : decode cX12_holder 93 = .ok (.iastore, 1) := by decide +kernel
theorem dX12_holder_94 : decode cX12_holder 94 = .ok (.aload_n 0, 1) := by decide +kernel
theorem dX12_holder_95 : decode cX12_holder 95 = .ok (.getfield 19, 3) := by decide +kernel
theorem dX12_holder_98 : decode cX12_holder 98 = .ok (.aload_n 0, 1) := by decide +kernel
theorem dX12_holder_99 : decode cX12_holder 99 = .ok (.getfield 229, 3) := by decide +kernel
theorem dX12_holder_102 : decode cX12_holder 102 = .ok (.iload 4, 2) := by decide +kernel
theorem dX12_holder_104 : decode cX12_holder 104 = .ok (.iastore, 1) := by decide +kernel
theorem dX12_holder_105 : decode cX12_holder 105 = .ok (.aload_n 0, 1) := by decide +kernel
theorem dX12_holder_106 : decode cX12_holder 106 = .ok (.getfield 22, 3) := by decide +kernel
theorem dX12_holder_109 : decode cX12_holder 109 = .ok (.aload_n 0, 1) := by decide +kernel
theorem dX12_holder_110 : decode cX12_holder 110 = .ok (.getfield 229, 3) := by decide +kernel
theorem dX12_holder_113 : decode cX12_holder 113 = .ok (.iload 5, 2) := by decide +kernel
theorem dX12_holder_115 : decode cX12_holder 115 = .ok (.iastore, 1) := by decide +kernel
theorem dX12_holder_116 : decode cX12_holder 116 = .ok (.aload_n 0, 1) := by decide +kernel
theorem dX12_holder_117 : decode cX12_holder 117 = .ok (.dup, 1) := by decide +kernel
theorem dX12_holder_118 : decode cX12_holder 118 = .ok (.getfield 229, 3) := by decide +kernel
theorem dX12_holder_121 : decode cX12_holder 121 = .ok (.iconst 1, 1) := by decide +kernel
theorem dX12_holder_122 : decode cX12_holder 122 = .ok (.iadd, 1) := by decide +kernel
theorem dX12_holder_123 : decode cX12_holder 123 = .ok (.putfield 229, 3) := by decide +kernel
theorem dX12_holder_126 : decode cX12_holder 126 = .ok (.aload_n 0, 1) := by decide +kernel
theorem dX12_holder_127 : decode cX12_holder 127 = .ok (.getfield 229, 3) := by decide +kernel
theorem dX12_holder_130 : decode cX12_holder 130 = .ok (.iconst 1, 1) := by decide +kernel
theorem dX12_holder_131 : decode cX12_holder 131 = .ok (.isub, 1) := by decide +kernel
theorem dX12_holder_132 : decode cX12_holder 132 = .ok (.ireturn, 1) := by decide +kernel
theorem dX12_holder_62 : decode cX12_holder 62 = .ok (.iconst (-1), 1) := by decide +kernel
theorem dX12_holder_63 : decode cX12_holder 63 = .ok (.ireturn, 1) := by decide +kernel
theorem dX12_count_0 : decode cX12_count 0 = .ok (.iconst 0, 1) := by decide +kernel
theorem dX12_count_1 : decode cX12_count 1 = .ok (.istore_n 2, 1) := by decide +kernel
theorem dX12_count_2 : decode cX12_count 2 = .ok (.iconst 0, 1) := by decide +kernel
theorem dX12_count_3 : decode cX12_count 3 = .ok (.istore_n 3, 1) := by decide +kernel
theorem dX12_count_4 : decode cX12_count 4 = .ok (.iconst 0, 1) := by decide +kernel
theorem dX12_count_5 : decode cX12_count 5 = .ok (.istore 4, 2) := by decide +kernel
theorem dX12_count_7 : decode cX12_count 7 = .ok (.iload 4, 2) := by decide +kernel
theorem dX12_count_9 : decode cX12_count 9 = .ok (.aload_n 0, 1) := by decide +kernel
theorem dX12_count_10 : decode cX12_count 10 = .ok (.getfield 468, 3) := by decide +kernel
theorem dX12_count_13 : decode cX12_count 13 = .ok (.if_icmp .ge 35, 3) := by decide +kernel
theorem dX12_count_48 : decode cX12_count 48 = .ok (.iload_n 1, 1) := by decide +kernel
theorem dX12_count_49 : decode cX12_count 49 = .ok (.tableswitch 126 0 12 #[67, 72, 77, 82, 87, 92, 97, 102, 104, 106, 111, 116, 121], 67) := by decide +kernel
theorem dX12_count_116 : decode cX12_count 116 = .ok (.aload_n 0, 1) := by decide +kernel
theorem dX12_count_117 : decode cX12_count 117 = .ok (.getfield 232, 3) := by decide +kernel
theorem dX12_count_120 : decode cX12_count 120 = .ok (.ireturn, 1) := by decide +kernel
theorem dX12_count_121 : decode cX12_count 121 = .ok (.aload_n 0, 1) := by decide +kernel
theorem dX12_count_122 : decode cX12_count 122 = .ok (.getfield 229, 3) := by decide +kernel
theorem dX12_count_125 : decode cX12_count 125 = .ok (.ireturn, 1) := by decide +kernel
theorem dX12_count_126 : decode cX12_count 126 = .ok (.aload_n 0, 1) := by decide +kernel
theorem dX12_count_127 : decode cX12_count 127 = .ok (.getfield 246, 3) := by decide +kernel
theorem dX12_count_130 : decode cX12_count 130 = .ok (.ireturn, 1) := by decide +kernel
theorem dX12_count_131 : decode cX12_count 131 = .ok (.aload_n 0, 1) := by decide +kernel
theorem dX12_count_132 : decode cX12_count 132 = .ok (.getfield 408, 3) := by decide +kernel
theorem dX12_count_135 : decode cX12_count 135 = .ok (.ireturn, 1) := by decide +kernel
theorem dX12_count_136 : decode cX12_count 136 = .ok (.aload_n 0, 1) := by decide +kernel
theorem dX12_count_137 : decode cX12_count 137 = .ok (.getfield 449, 3) := by decide +kernel
theorem dX12_count_140 : decode cX12_count 140 = .ok (.ireturn, 1) := by decide +kernel
theorem dX12_count_141 : decode cX12_count 141 = .ok (.aload_n 0, 1) := by decide +kernel
theorem dX12_count_142 : decode cX12_count 142 = .ok (.getfield 461, 3) := by decide +kernel
theorem dX12_count_145 : decode cX12_count 145 = .ok (.ireturn, 1) := by decide +kernel
theorem dX12_count_146 : decode cX12_count 146 = .ok (.aload_n 0, 1) := by decide +kernel
theorem dX12_count_147 : decode cX12_count 147 = .ok (.getfield 468, 3) := by decide +kernel
theorem dX12_count_150 : decode cX12_count 150 = .ok (.ireturn, 1) := by decide +kernel
theorem dX12_count_151 : decode cX12_count 151 = .ok (.iload_n 2, 1) := by decide +kernel
theorem dX12_count_152 : decode cX12_count 152 = .ok (.ireturn, 1) := by decide +kernel
theorem dX12_count_153 : decode cX12_count 153 = .ok (.iload_n 3, 1) := by decide +kernel
theorem dX12_count_154 : decode cX12_count 154 = .ok (.ireturn, 1) := by decide +kernel
theorem dX12_count_155 : decode cX12_count 155 = .ok (.aload_n 0, 1) := by decide +kernel
theorem dX12_count_156 : decode cX12_count 156 = .ok (.getfield 455, 3) := by decide +kernel
theorem dX12_count_159 : decode cX12_count 159 = .ok (.ireturn, 1) := by decide +kernel
theorem dX12_count_160 : decode cX12_count 160 = .ok (.aload_n 0, 1) := by decide +kernel
theorem dX12_count_161 : decode cX12_count 161 = .ok (.getfield 493, 3) := by decide +kernel
theorem dX12_count_164 : decode cX12_count 164 = .ok (.ireturn, 1) := by decide +kernel
theorem dX12_count_165 : decode cX12_count 165 = .ok (.aload_n 0, 1) := by decide +kernel
theorem dX12_count_166 : decode cX12_count 166 = .ok (.getfield 505, 3) := by decide +kernel
theorem dX12_count_169 : decode cX12_count 169 = .ok (.ireturn, 1) := by decide +kernel
theorem dX12_count_170 : decode cX12_count 170 = .ok (.aload_n 0, 1) := by decide +kernel
theorem dX12_count_171 : decode cX12_count 171 = .ok (.getfield 253, 3) := by decide +kernel
theorem dX12_count_174 : decode cX12_count 174 = .ok (.ireturn, 1) := by decide +kernel
theorem dX12_count_175 : decode cX12_count 175 = .ok (.iconst (-1), 1) := by decide +kernel
theorem dX12_count_176 : decode cX12_count 176 = .ok (.ireturn, 1) := by decide +kernel
theorem dX12_other_0 : decode cX12_other 0 = .ok (.iload_n 1, 1) := by decide +kernel
theorem dX12_other_1 : decode cX12_other 1 = .ok (.iconst 0, 1) := by decide +kernel
theorem dX12_other_2 : decode cX12_other 2 = .ok (.iconst 2, 1) := by decide +kernel
set_option maxRecDepth 20000 in
theorem ggX12_other_X12_within : GoodIn wsX12_other wsX12_within := goodIn_r _ [6] rfl (by decide +kernel)
set_option maxRecDepth 20000 in
theorem gX12_other_X12_within : GoodIn wsX12_other (va_wsS RX12 235 yX12_within wsX12_within) := goodIn_app (goodIn_r _ [3, 4, 5] rfl (by decide +kernel)) ggX12_other_X12_within
theorem dX12_other_3 : decode cX12_other 3 = .ok (.invokestatic 235, 3) := by decide +kernel
theorem dX12_other_6 : decode cX12_other 6 = .ok (.ifCond .eq 28, 3) := by decide +kernel
theorem dX12_other_9 : decode cX12_other 9 = .ok (.iload_n 2, 1) := by decide +kernel
set_option maxRecDepth 20000 in
theorem ggX12_other_X12_isMonth : GoodIn wsX12_other wsX12_isMonth := goodIn_r _ [9] rfl (by decide +kernel)
set_option maxRecDepth 20000 in
theorem gX12_other_X12_isMonth : GoodIn wsX12_other (va_wsS RX12 405 yX12_isMonth wsX12_isMonth) := goodIn_app (goodIn_r _ [7, 8, 5] rfl (by decide +kernel)) ggX12_other_X12_isMonth
theorem dX12_other_10 : decode cX12_other 10 = .ok (.invokestatic 405, 3) := by decide +kernel
theorem dX12_other_13 : decode cX12_other 13 = .ok (.ifCond .eq 21, 3) := by decide +kernel
theorem dX12_other_16 : decode cX12_other 16 = .ok (.aload_n 0, 1) := by decide +kernel
theorem dX12_other_17 : decode cX12_other 17 = .ok (.iload_n 3, 1) := by decide +kernel
set_option maxRecDepth 20000 in
theorem ggX12_other_X12_isHolder : GoodIn wsX12_other wsX12_isHolder := goodIn_r _ [13, 14, 82, 83, 84, 85, 86, 87, 88, 89, 90, 91, 92, 93, 94, 95, 96, 97, 98, 99, 100, 101, 102, 103, 104, 105, 106, 107, 108, 109, 110, 111, 112, 113, 114, 115, 116, 117, 118, 119, 120, 121, 122, 123, 124, 125, 126, 127, 128, 129, 130, 131, 132, 133, 134, 135, 136, 137, 138, 139, 140, 141, 142, 143, 144, 145, 146, 147, 148, 149, 150, 151, 152, 153, 154, 155, 156, 157, 158, 159, 160, 161, 162, 163, 164, 165, 166, 167, 168, 169, 170, 171, 172, 173, 174, 175, 176, 177] rfl (by decide +kernel)
set_option maxRecDepth 20000 in
theorem gX12_other_X12_isHolder : GoodIn wsX12_other (wsV RX12 239 RX12 yX12_isHolder wsX12_isHolder) := goodIn_app (goodIn_r _ [10, 11, 12, 5] rfl (by decide +kernel)) ggX12_other_X12_isHolder
theorem dX12_other_18 : decode cX12_other 18 = .ok (.invokevirtual 239, 3) := by decide +kernel
theorem dX12_other_21 : decode cX12_other 21 = .ok (.ifCond .eq 13, 3) := by decide +kernel
theorem dX12_other_34 : decode cX12_other 34 = .ok (.iconst (-1), 1) := by decide +kernel
theorem dX12_other_35 : decode cX12_other 35 = .ok (.ireturn, 1) := by decide +kernel
theorem dX12_poured_0 : decode cX12_poured 0 = .ok (.iload_n 1, 1) := by decide +kernel
theorem dX12_poured_1 : decode cX12_poured 1 = .ok (.ifCond .lt 11, 3) := by decide +kernel
theorem dX12_poured_12 : decode cX12_poured 12 = .ok (.iconst (-1), 1) := by decide +kernel
theorem dX12_poured_13 : decode cX12_poured 13 = .ok (.ireturn, 1) := by decide +kernel
theorem dX12_poured_4 : decode cX12_poured 4 = .ok (.iload_n 1, 1) := by decide +kernel
theorem dX12_poured_5 : decode cX12_poured 5 = .ok (.aload_n 0, 1) := by decide +kernel
theorem dX12_poured_6 : decode cX12_poured 6 = .ok (.getfield 468, 3) := by decide +kernel
theorem dX12_poured_9 : decode cX12_poured 9 = .ok (.if_icmp .lt 5, 3) := by decide +kernel
theorem dX12_deliver_0 : decode cX12_deliver 0 = .ok (.aload_n 0, 1) := by decide +kernel
theorem dX12_deliver_1 : decode cX12_deliver 1 = .ok (.iload_n 1, 1) := by decide +kernel
set_option maxRecDepth 20000 in
theorem ggX12_deliver_X12_isStation : GoodIn wsX12_deliver wsX12_isStation := goodIn_r _ [11, 12, 16, 17, 18, 19, 20, 21, 22, 23, 24, 25, 26, 27, 28, 29, 30, 31, 32, 33, 34, 35, 36, 37, 38, 39, 40, 41, 42, 43, 44, 45, 46, 47, 48, 49, 50, 51, 52, 53, 54, 55, 56, 57, 58, 59, 60, 61, 62, 63, 64, 65, 66, 67, 68, 69, 70, 71, 72, 73, 74, 75, 76, 77, 78, 79, 80, 81, 82, 83, 84, 85, 86, 87, 88, 89, 90, 91, 92, 93, 94, 95, 96, 97, 98, 99, 100, 101, 102, 103, 104, 105, 106, 107, 108, 109, 110, 111] rfl (by decide +kernel)
set_option maxRecDepth 20000 in
theorem gX12_deliver_X12_isStation : GoodIn wsX12_deliver (wsV RX12 464 RX12 yX12_isStation wsX12_isStation) := goodIn_app (goodIn_r _ [7, 8, 9, 10] rfl (by decide +kernel)) ggX12_deliver_X12_isStation
theorem dX12_deliver_2 : decode cX12_deliver 2 = .ok (.invokevirtual 464, 3) := by decide +kernel
theorem dX12_deliver_5 : decode cX12_deliver 5 = .ok (.ifCond .eq 24, 3) := by decide +kernel
theorem dX12_deliver_29 : decode cX12_deliver 29 = .ok (.iconst (-1), 1) := by decide +kernel
theorem dX12_deliver_30 : decode cX12_deliver 30 = .ok (.ireturn, 1) := by decide +kernel
theorem dX12_dip_0 : decode cX12_dip 0 = .ok (.aload_n 0, 1) := by decide +kernel
theorem dX12_dip_1 : decode cX12_dip 1 = .ok (.iload_n 1, 1) := by decide +kernel
set_option maxRecDepth 20000 in
theorem ggX12_dip_X12_isStation : GoodIn wsX12_dip wsX12_isStation := goodIn_r _ [12, 13, 17, 18, 19, 20, 21, 22, 23, 24, 25, 26, 27, 28, 29, 30, 31, 32, 33, 34, 35, 36, 37, 38, 39, 40, 41, 42, 43, 44, 45, 46, 47, 48, 49, 50, 51, 52, 53, 54, 55, 56, 57, 58, 59, 60, 61, 62, 63, 64, 65, 66, 67, 68, 69, 70, 71, 72, 73, 74, 75, 76, 77, 78, 79, 80, 81, 82, 83, 84, 85, 86, 87, 88, 89, 90, 91, 92, 93, 94, 95, 96, 97, 98, 99, 100, 101, 102, 103, 104, 105, 106, 107, 108, 109, 110, 111, 112] rfl (by decide +kernel)
set_option maxRecDepth 20000 in
theorem gX12_dip_X12_isStation : GoodIn wsX12_dip (wsV RX12 464 RX12 yX12_isStation wsX12_isStation) := goodIn_app (goodIn_r _ [8, 9, 10, 11] rfl (by decide +kernel)) ggX12_dip_X12_isStation
theorem dX12_dip_2 : decode cX12_dip 2 = .ok (.invokevirtual 464, 3) := by decide +kernel
theorem dX12_dip_5 : decode cX12_dip 5 = .ok (.ifCond .eq 25, 3) := by decide +kernel
theorem dX12_dip_30 : decode cX12_dip 30 = .ok (.iconst (-1), 1) := by decide +kernel
theorem dX12_dip_31 : decode cX12_dip 31 = .ok (.ireturn, 1) := by decide +kernel
theorem dX12_in_0 : decode cX12_in 0 = .ok (.aload_n 0, 1) := by decide +kernel
theorem dX12_in_1 : decode cX12_in 1 = .ok (.iload_n 1, 1) := by decide +kernel
set_option maxRecDepth 20000 in
theorem ggX12_in_X12_isStation : GoodIn wsX12_in wsX12_isStation := goodIn_r _ [7, 8, 39, 40, 41, 42, 43, 44, 45, 46, 47, 48, 49, 50, 51, 52, 53, 54, 55, 56, 57, 58, 59, 60, 61, 62, 63, 64, 65, 66, 67, 68, 69, 70, 71, 72, 73, 74, 75, 76, 77, 78, 79, 80, 81, 82, 83, 84, 85, 86, 87, 88, 89, 90, 91, 92, 93, 94, 95, 96, 97, 98, 99, 100, 101, 102, 103, 104, 105, 106, 107, 108, 109, 110, 111, 112, 113, 114, 115, 116, 117, 118, 119, 120, 121, 122, 123, 124, 125, 126, 127, 128, 129, 130, 131, 132, 133, 134] rfl (by decide +kernel)
set_option maxRecDepth 20000 in
theorem gX12_in_X12_isStation : GoodIn wsX12_in (wsV RX12 464 RX12 yX12_isStation wsX12_isStation) := goodIn_app (goodIn_r _ [3, 4, 5, 6] rfl (by decide +kernel)) ggX12_in_X12_isStation
theorem dX12_in_2 : decode cX12_in 2 = .ok (.invokevirtual 464, 3) := by decide +kernel
theorem dX12_in_5 : decode cX12_in 5 = .ok (.ifCond .eq 29, 3) := by decide +kernel
theorem dX12_in_34 : decode cX12_in 34 = .ok (.ldc_w 482, 3) := by decide +kernel
theorem dX12_in_37 : decode cX12_in 37 = .ok (.ireturn, 1) := by decide +kernel
theorem dX12_sums__0 : decode cX12_sums_ 0 = .ok (.aload_n 0, 1) := by decide +kernel
theorem dX12_sums__1 : decode cX12_sums_ 1 = .ok (.iload_n 1, 1) := by decide +kernel
set_option maxRecDepth 20000 in
theorem ggX12_sums__X12_isStation : GoodIn wsX12_sums_ wsX12_isStation := goodIn_r _ [8, 9, 52, 53, 54, 55, 56, 57, 58, 59, 60, 61, 62, 63, 64, 65, 66, 67, 68, 69, 70, 71, 72, 73, 74, 75, 76, 77, 78, 79, 80, 81, 82, 83, 84, 85, 86, 87, 88, 89, 90, 91, 92, 93, 94, 95, 96, 97, 98, 99, 100, 101, 102, 103, 104, 105, 106, 107, 108, 109, 110, 111, 112, 113, 114, 115, 116, 117, 118, 119, 120, 121, 122, 123, 124, 125, 126, 127, 128, 129, 130, 131, 132, 133, 134, 135, 136, 137, 138, 139, 140, 141, 142, 143, 144, 145, 146, 147] rfl (by decide +kernel)
set_option maxRecDepth 20000 in
theorem gX12_sums__X12_isStation : GoodIn wsX12_sums_ (wsV RX12 464 RX12 yX12_isStation wsX12_isStation) := goodIn_app (goodIn_r _ [4, 5, 6, 7] rfl (by decide +kernel)) ggX12_sums__X12_isStation
theorem dX12_sums__2 : decode cX12_sums_ 2 = .ok (.invokevirtual 464, 3) := by decide +kernel
theorem dX12_sums__5 : decode cX12_sums_ 5 = .ok (.ifCond .eq 32, 3) := by decide +kernel
theorem dX12_sums__37 : decode cX12_sums_ 37 = .ok (.ldc2_w 269, 3) := by decide +kernel
theorem dX12_sums__40 : decode cX12_sums_ 40 = .ok (.lreturn, 1) := by decide +kernel
theorem dX12_judged_0 : decode cX12_judged 0 = .ok (.aload_n 0, 1) := by decide +kernel
theorem dX12_judged_1 : decode cX12_judged 1 = .ok (.iload_n 1, 1) := by decide +kernel
set_option maxRecDepth 20000 in
theorem ggX12_judged_X12_isStation : GoodIn wsX12_judged wsX12_isStation := goodIn_r _ [8, 9, 49, 50, 51, 52, 53, 54, 55, 56, 57, 58, 59, 60, 61, 62, 63, 64, 65, 66, 67, 68, 69, 70, 71, 72, 73, 74, 75, 76, 77, 78, 79, 80, 81, 82, 83, 84, 85, 86, 87, 88, 89, 90, 91, 92, 93, 94, 95, 96, 97, 98, 99, 100, 101, 102, 103, 104, 105, 106, 107, 108, 109, 110, 111, 112, 113, 114, 115, 116, 117, 118, 119, 120, 121, 122, 123, 124, 125, 126, 127, 128, 129, 130, 131, 132, 133, 134, 135, 136, 137, 138, 139, 140, 141, 142, 143, 144] rfl (by decide +kernel)
set_option maxRecDepth 20000 in
theorem gX12_judged_X12_isStation : GoodIn wsX12_judged (wsV RX12 464 RX12 yX12_isStation wsX12_isStation) := goodIn_app (goodIn_r _ [4, 5, 6, 7] rfl (by decide +kernel)) ggX12_judged_X12_isStation
theorem dX12_judged_2 : decode cX12_judged 2 = .ok (.invokevirtual 464, 3) := by decide +kernel
theorem dX12_judged_5 : decode cX12_judged 5 = .ok (.ifCond .eq 22, 3) := by decide +kernel
theorem dX12_judged_27 : decode cX12_judged 27 = .ok (.ldc2_w 269, 3) := by decide +kernel
theorem dX12_judged_30 : decode cX12_judged 30 = .ok (.lreturn, 1) := by decide +kernel
theorem z_l1 : (1 : Int32).toInt = 1 := by decide
theorem z_l2 : (2 : Int32).toInt = 2 := by decide
theorem z_l3 : (3 : Int32).toInt = 3 := by decide
theorem z_l5 : (5 : Int32).toInt = 5 := by decide
theorem z_l6 : (6 : Int32).toInt = 6 := by decide
theorem z_l7 : (7 : Int32).toInt = 7 := by decide
theorem z_l8 : (8 : Int32).toInt = 8 := by decide
theorem z_l9 : (9 : Int32).toInt = 9 := by decide
theorem z_l10 : (10 : Int32).toInt = 10 := by decide
theorem z_l11 : (11 : Int32).toInt = 11 := by decide
theorem z_l12 : (12 : Int32).toInt = 12 := by decide
theorem z_l29 : (29 : Int32).toInt = 29 := by decide
theorem z_l30 : (30 : Int32).toInt = 30 := by decide
theorem z_l50 : (50 : Int32).toInt = 50 := by decide
theorem z_l99 : (99 : Int32).toInt = 99 := by decide
theorem z_l720 : (720 : Int32).toInt = 720 := by decide
theorem z_l999 : (999 : Int32).toInt = 999 := by decide
theorem z_l300000 : (300000 : Int32).toInt = 300000 := by decide
theorem z_inl {x : Int32} {n : Nat} (h : ¬ (x < 0 ∨ n ≤ x.toNatClampNeg)) : vp_in x n := h
def fr_day (d : Int32) : Int32 := if 0 < d ∧ d ≤ 719 then 1 else 0
def fr_level (k v : Int32) : Int32 := if (0 ≤ k ∧ k ≤ 29) ∧ (0 ≤ v ∧ v ≤ 300000) then 1 else 0
def fr_port (a : Int32) : Int32 := if 0 ≤ a ∧ a ≤ 50 then 0 else -1
def fr_holder (a b c d e : Int32) : Int32 := if (1 ≤ a ∧ a ≤ 9) ∧ (0 ≤ b ∧ b ≤ 9) ∧ (1 ≤ c ∧ c ≤ 8) ∧ (0 ≤ d ∧ d ≤ 999) ∧ (0 ≤ e ∧ e ≤ 99) then 0 else -1
def fr_count (a : Int32) : Int32 := if 0 ≤ a ∧ a ≤ 12 then 0 else -1
theorem zi_X2_cancelNote_X2 : ∀ w ∈ wsX20, w ∈ wsX2_cancelNote := fun w h => (List.mem_cons_of_mem _ (List.mem_append_right _ h))
set_option maxHeartbeats 4000000 in
set_option maxRecDepth 100000 in
theorem ct_X2_cancelNote (l : Launch) (G : z_G) (ad : Nat → Nat) (a1 : Int32) (a2 : Int32) : z_M l yX2_cancelNote wsX2_cancelNote { frames := 1, cells := 0, slots := 0, locals := 12 } [.ref (ad 1), .int a1, .int a2] G (shX, ad, IX, JX, PX ad) (fun r u1 => u1 = (shX, ad, IX, JX, PX ad) ∧ r = 0) 0 0 := by
  intro sz
  refine z_headQ (cc := cX2_cancelNote) (maxL := 3) (ret := (some .boolean)) (by decide) rfl (Nat.le_of_ble_eq_true rfl) ?_
  intro p e s m below meth c ls hIn hK hsz hW hl
  obtain ⟨hx, hb, hr, hml, hown, hts, hlocks, hname⟩ := hIn
  subst hsz
  have hown : s.vm.findClass RX2 = some m.cls := hown
  have hA : ∀ q : Nat, s.heap.size ≤ q → z_A (shX, ad, IX, JX, PX ad) s.heap.size q := fun q h => Or.inr h
  generalize hAe : z_A (shX, ad, IX, JX, PX ad) s.heap.size = A at *
  have hS : va_S A s.heap s.heap [] := va_S.rf
  have hl : lv_has ls 3 [(0, .ref (ad 1)), (1, .int a1), (2, .int a2)] := hl
  refine lv_iload_n hx hb dX2_cancelNote_0 rfl (lv_at hl 1 rfl) ?_
  refine lv_if_lt (tgt := 31) hx hb dX2_cancelNote_1 (by decide) (fun c1 => ?_) (fun c1 => ?_)
  · refine lv_iconst (v := 0) hx hb dX2_cancelNote_31 (by decide) ?_
    exact z_zret hx hb hr (by decide) hK hS (Nat.le_of_ble_eq_true rfl) (Nat.le_of_ble_eq_true rfl) hlocks dX2_cancelNote_32 (shX, ad, IX, JX, PX ad) hW ⟨rfl, rfl⟩
  · refine lv_iload_n hx hb dX2_cancelNote_4 rfl (lv_at hl 1 rfl) ?_
    refine lv_aload_n hx hb dX2_cancelNote_5 rfl (lv_at hl 0 rfl) ?_
    refine z_get (T := TX2) (N := 12) (ci := 2) (i := 1) (v := .int 0) hx hb hts zi_X2_cancelNote_X2 hown hK hW rfl rfl 11 (by decide) (hts (.fieldLink RX2 46 "PetrolBoard$Holders" "notes" "I") (List.mem_of_getElem? (i := 1) rfl)) (fun _ h => h) rfl dX2_cancelNote_6 ?_
    refine lv_icmp_ge (tgt := 31) hx hb dX2_cancelNote_9 (by decide) (fun c2 => ?_) (fun c2 => False.elim (by simp only [Int32.lt_iff_toInt_lt, Int32.le_iff_toInt_le, ← Int32.toInt_inj, z_l0] at c1 c2; omega))
    refine lv_iconst (v := 0) hx hb dX2_cancelNote_31 (by decide) ?_
    exact z_zret hx hb hr (by decide) hK hS (Nat.le_of_ble_eq_true rfl) (Nat.le_of_ble_eq_true rfl) hlocks dX2_cancelNote_32 (shX, ad, IX, JX, PX ad) hW ⟨rfl, rfl⟩
theorem zi_X11_undo_X11 : ∀ w ∈ wsX110, w ∈ wsX11_undo := fun w h => (List.mem_cons_of_mem _ (List.mem_append_left _ (List.mem_append_right _ h)))
set_option maxHeartbeats 4000000 in
set_option maxRecDepth 100000 in
theorem ct_X11_undo (l : Launch) (G : z_G) (ad : Nat → Nat) (a1 : Int32) : z_M l yX11_undo wsX11_undo { frames := 2, cells := 0, slots := 0, locals := 34 } [.ref (ad 0), .int a1] G (shX, ad, IX, JX, PX ad) (fun r u1 => r = 0) 0 0 := by
  intro sz
  refine z_headQ (cc := cX11_undo) (maxL := 2) (ret := (some .boolean)) (by decide) rfl (Nat.le_of_ble_eq_true rfl) ?_
  intro p e s m below meth c ls hIn hK hsz hW hl
  obtain ⟨hx, hb, hr, hml, hown, hts, hlocks, hname⟩ := hIn
  subst hsz
  have hown : s.vm.findClass RX11 = some m.cls := hown
  have hA : ∀ q : Nat, s.heap.size ≤ q → z_A (shX, ad, IX, JX, PX ad) s.heap.size q := fun q h => Or.inr h
  generalize hAe : z_A (shX, ad, IX, JX, PX ad) s.heap.size = A at *
  have hS : va_S A s.heap s.heap [] := va_S.rf
  have hl : lv_has ls 2 [(0, .ref (ad 0)), (1, .int a1)] := hl
  refine lv_aload_n hx hb dX11_undo_0 rfl (lv_at hl 0 rfl) ?_
  refine z_get (T := TX11) (N := 13) (ci := 11) (i := 0) (v := .ref (ad 1)) hx hb hts zi_X11_undo_X11 hown hK hW rfl rfl 2 (by decide) (hts (.fieldLink RX11 16 "PetrolBoard" "holders" "LPetrolBoard$Holders;") (List.mem_of_getElem? (i := 1) rfl)) (fun _ h => h) rfl dX11_undo_1 ?_
  refine lv_iload_n hx hb dX11_undo_4 rfl (lv_at hl 1 rfl) ?_
  refine lv_aload_n hx hb dX11_undo_5 rfl (lv_at hl 0 rfl) ?_
  refine z_get (T := TX11) (N := 13) (ci := 11) (i := 0) (v := .int 0) hx hb hts zi_X11_undo_X11 hown hK hW rfl rfl 0 (by decide) (hts (.fieldLink RX11 85 "PetrolBoard" "today" "I") (List.mem_of_getElem? (i := 2) rfl)) (fun _ h => h) rfl dX11_undo_6 ?_
  refine z_ci hW hS hA (va_runV (As := [.int a1, .int 0]) (rest := []) ⟨hx, hb, hml, hown, hts⟩ (ct_X2_cancelNote l G ad a1 0 _) (cwV 2 hts gX11_undo_X2_cancelNote rfl rfl rfl (by decide +kernel) ⟨Nat.le_of_ble_eq_true rfl, Nat.le_of_ble_eq_true rfl⟩) (z_preV hK hW rfl rfl) rfl rfl hl.1 rfl (lv_room (Nat.le_of_ble_eq_true rfl)) dX11_undo_9 ⟨Nat.le_of_ble_eq_true rfl, Nat.le_of_ble_eq_true rfl⟩) (fun r u1 H locs hp hW hS => ?_)
  obtain ⟨e9, rfl⟩ := hp
  rw [e9] at hW
  exact z_zret hx hb hr (by decide) hK hS (Nat.le_of_ble_eq_true rfl) (Nat.le_of_ble_eq_true rfl) hlocks dX11_undo_12 (shX, ad, IX, JX, PX ad) hW rfl
theorem zi_X11_day_X11 : ∀ w ∈ wsX110, w ∈ wsX11_day := fun w h => (List.mem_cons_of_mem _ (List.mem_append_right _ h))
set_option maxHeartbeats 4000000 in
set_option maxRecDepth 100000 in
theorem ct_X11_day (l : Launch) (G : z_G) (ad : Nat → Nat) (a1 : Int32) : z_M l yX11_day wsX11_day { frames := 1, cells := 0, slots := 0, locals := 12 } [.ref (ad 0), .int a1] G (shX, ad, IX, JX, PX ad) (fun r u1 => r = fr_day a1) 0 0 := by
  intro sz
  refine z_headQ (cc := cX11_day) (maxL := 2) (ret := (some .boolean)) (by decide) rfl (Nat.le_of_ble_eq_true rfl) ?_
  intro p e s m below meth c ls hIn hK hsz hW hl
  obtain ⟨hx, hb, hr, hml, hown, hts, hlocks, hname⟩ := hIn
  subst hsz
  have hown : s.vm.findClass RX11 = some m.cls := hown
  have hA : ∀ q : Nat, s.heap.size ≤ q → z_A (shX, ad, IX, JX, PX ad) s.heap.size q := fun q h => Or.inr h
  generalize hAe : z_A (shX, ad, IX, JX, PX ad) s.heap.size = A at *
  have hS : va_S A s.heap s.heap [] := va_S.rf
  have hl : lv_has ls 2 [(0, .ref (ad 0)), (1, .int a1)] := hl
  refine lv_iload_n hx hb dX11_day_0 rfl (lv_at hl 1 rfl) ?_
  refine lv_aload_n hx hb dX11_day_1 rfl (lv_at hl 0 rfl) ?_
  refine z_get (T := TX11) (N := 13) (ci := 11) (i := 0) (v := .int 0) hx hb hts zi_X11_day_X11 hown hK hW rfl rfl 0 (by decide) (hts (.fieldLink RX11 85 "PetrolBoard" "today" "I") (List.mem_of_getElem? (i := 1) rfl)) (fun _ h => h) rfl dX11_day_2 ?_
  refine lv_icmp_le (tgt := 15) hx hb dX11_day_5 (by decide) (fun c1 => ?_) (fun c1 => ?_)
  · refine lv_iconst (v := 0) hx hb dX11_day_15 (by decide) ?_
    exact z_zret hx hb hr (by decide) hK hS (Nat.le_of_ble_eq_true rfl) (Nat.le_of_ble_eq_true rfl) hlocks dX11_day_16 (shX, ad, IX, JX, PX ad) hW (by show _ = fr_day a1; unfold fr_day; split <;> first | rfl | (rename_i q; exfalso; simp only [Int32.lt_iff_toInt_lt, Int32.le_iff_toInt_le, ← Int32.toInt_inj, z_l0, z_l1, z_l719] at q c1; omega))
  · refine lv_iload_n hx hb dX11_day_8 rfl (lv_at hl 1 rfl) ?_
    refine lv_sipush (v := 720) hx hb dX11_day_9 (by decide) ?_
    refine lv_icmp_lt (tgt := 17) hx hb dX11_day_12 (by decide) (fun c2 => ?_) (fun c2 => ?_)
    · refine lv_aload_n hx hb dX11_day_17 rfl (lv_at hl 0 rfl) ?_
      refine lv_iload_n hx hb dX11_day_18 rfl (lv_at hl 1 rfl) ?_
      refine z_put (T := TX11) (N := 13) (ci := 11) (i := 0) (v := .int a1) (I1 := (z_up IX 0 0 a1)) (J1 := JX) (P1 := PX ad) hx hb hts zi_X11_day_X11 tyX11 tyX11_ok nmX11 hown hK hW hS rfl rfl 0 (by decide) (hts (.fieldLink RX11 85 "PetrolBoard" "today" "I") (List.mem_of_getElem? (i := 1) rfl)) (fun _ h => h) rfl rfl rfl (by first | rfl | exact congrArg _ z_up_s) (fun a b h ty => z_vI h ty) dX11_day_19 (fun H locs hz1 hW hS => ?_)
      refine lv_iconst (v := 1) hx hb dX11_day_22 (by decide) ?_
      exact z_zret hx hb hr (by decide) hK hS (Nat.le_of_ble_eq_true rfl) (Nat.le_of_ble_eq_true rfl) hlocks dX11_day_23 (shX, ad, (z_up IX 0 0 a1), JX, PX ad) hW (by show _ = fr_day a1; unfold fr_day; split <;> first | rfl | (rename_i q; exfalso; simp only [Int32.lt_iff_toInt_lt, Int32.le_iff_toInt_le, ← Int32.toInt_inj, z_l0, z_l1, z_l719, z_l720] at q c1 c2; omega))
    · refine lv_iconst (v := 0) hx hb dX11_day_15 (by decide) ?_
      exact z_zret hx hb hr (by decide) hK hS (Nat.le_of_ble_eq_true rfl) (Nat.le_of_ble_eq_true rfl) hlocks dX11_day_16 (shX, ad, IX, JX, PX ad) hW (by show _ = fr_day a1; unfold fr_day; split <;> first | rfl | (rename_i q; exfalso; simp only [Int32.lt_iff_toInt_lt, Int32.le_iff_toInt_le, ← Int32.toInt_inj, z_l0, z_l1, z_l719, z_l720] at q c1 c2; omega))
theorem zi_X11_fault_X11 : ∀ w ∈ wsX110, w ∈ wsX11_fault := fun w h => (List.mem_cons_of_mem _ (List.mem_append_right _ h))
set_option maxHeartbeats 4000000 in
set_option maxRecDepth 100000 in
theorem ct_X11_fault (l : Launch) (G : z_G) (ad : Nat → Nat) : z_M l yX11_fault wsX11_fault { frames := 1, cells := 0, slots := 0, locals := 12 } [.ref (ad 0)] G (shX, ad, IX, JX, PX ad) (fun r u1 => r = -1) 0 0 := by
  intro sz
  refine z_headQ (cc := cX11_fault) (maxL := 1) (ret := (some .int)) (by decide) rfl (Nat.le_of_ble_eq_true rfl) ?_
  intro p e s m below meth c ls hIn hK hsz hW hl
  obtain ⟨hx, hb, hr, hml, hown, hts, hlocks, hname⟩ := hIn
  subst hsz
  have hown : s.vm.findClass RX11 = some m.cls := hown
  have hA : ∀ q : Nat, s.heap.size ≤ q → z_A (shX, ad, IX, JX, PX ad) s.heap.size q := fun q h => Or.inr h
  generalize hAe : z_A (shX, ad, IX, JX, PX ad) s.heap.size = A at *
  have hS : va_S A s.heap s.heap [] := va_S.rf
  have hl : lv_has ls 1 [(0, .ref (ad 0))] := hl
  refine lv_aload_n hx hb dX11_fault_0 rfl (lv_at hl 0 rfl) ?_
  refine z_get (T := TX11) (N := 13) (ci := 11) (i := 0) (v := .int (-1)) hx hb hts zi_X11_fault_X11 hown hK hW rfl rfl 1 (by decide) (hts (.fieldLink RX11 9 "PetrolBoard" "faultPlace" "I") (List.mem_of_getElem? (i := 1) rfl)) (fun _ h => h) rfl dX11_fault_1 ?_
  exact z_iret hx hb hr hK hS (Nat.le_of_ble_eq_true rfl) (Nat.le_of_ble_eq_true rfl) hlocks dX11_fault_4 (shX, ad, IX, JX, PX ad) hW rfl
theorem zi_X11_level_X11 : ∀ w ∈ wsX110, w ∈ wsX11_level := fun w h => (List.mem_cons_of_mem _ (List.mem_append_right _ h))
set_option maxHeartbeats 4000000 in
set_option maxRecDepth 100000 in
theorem ct_X11_level (l : Launch) (G : z_G) (ad : Nat → Nat) (a1 : Int32) (a2 : Int32) : z_M l yX11_level wsX11_level { frames := 2, cells := 0, slots := 0, locals := 34 } [.ref (ad 0), .int a1, .int a2] G (shX, ad, IX, JX, PX ad) (fun r u1 => r = fr_level a1 a2) 0 0 := by
  intro sz
  refine z_headQ (cc := cX11_level) (maxL := 3) (ret := (some .boolean)) (by decide) rfl (Nat.le_of_ble_eq_true rfl) ?_
  intro p e s m below meth c ls hIn hK hsz hW hl
  obtain ⟨hx, hb, hr, hml, hown, hts, hlocks, hname⟩ := hIn
  subst hsz
  have hown : s.vm.findClass RX11 = some m.cls := hown
  have hA : ∀ q : Nat, s.heap.size ≤ q → z_A (shX, ad, IX, JX, PX ad) s.heap.size q := fun q h => Or.inr h
  generalize hAe : z_A (shX, ad, IX, JX, PX ad) s.heap.size = A at *
  have hS : va_S A s.heap s.heap [] := va_S.rf
  have hl : lv_has ls 3 [(0, .ref (ad 0)), (1, .int a1), (2, .int a2)] := hl
  refine lv_iload_n hx hb dX11_level_0 rfl (lv_at hl 1 rfl) ?_
  refine lv_if_lt (tgt := 24) hx hb dX11_level_1 (by decide) (fun c1 => ?_) (fun c1 => ?_)
  · refine lv_iconst (v := 0) hx hb dX11_level_24 (by decide) ?_
    exact z_zret hx hb hr (by decide) hK hS (Nat.le_of_ble_eq_true rfl) (Nat.le_of_ble_eq_true rfl) hlocks dX11_level_25 (shX, ad, IX, JX, PX ad) hW (by show _ = fr_level a1 a2; unfold fr_level; split <;> first | rfl | (rename_i q; exfalso; simp only [Int32.lt_iff_toInt_lt, Int32.le_iff_toInt_le, ← Int32.toInt_inj, z_l0, z_l1, z_l29, z_l300000] at q c1; omega))
  · refine lv_iload_n hx hb dX11_level_4 rfl (lv_at hl 1 rfl) ?_
    refine lv_aload_n hx hb dX11_level_5 rfl (lv_at hl 0 rfl) ?_
    refine z_get (T := TX11) (N := 13) (ci := 11) (i := 0) (v := .ref (ad 40)) hx hb hts zi_X11_level_X11 hown hK hW rfl rfl 9 (by decide) (hts (.fieldLink RX11 54 "PetrolBoard" "row" "[I") (List.mem_of_getElem? (i := 1) rfl)) (fun _ h => h) rfl dX11_level_6 ?_
    refine z_alen (i := 40) (v := 30) hx hb hK hW rfl (by simp [z_tys]) (by rfl) dX11_level_9 ?_
    refine lv_icmp_ge (tgt := 24) hx hb dX11_level_10 (by decide) (fun c2 => ?_) (fun c2 => ?_)
    · refine lv_iconst (v := 0) hx hb dX11_level_24 (by decide) ?_
      exact z_zret hx hb hr (by decide) hK hS (Nat.le_of_ble_eq_true rfl) (Nat.le_of_ble_eq_true rfl) hlocks dX11_level_25 (shX, ad, IX, JX, PX ad) hW (by show _ = fr_level a1 a2; unfold fr_level; split <;> first | rfl | (rename_i q; exfalso; simp only [Int32.lt_iff_toInt_lt, Int32.le_iff_toInt_le, ← Int32.toInt_inj, z_l0, z_l1, z_l29, z_l30, z_l300000] at q c1 c2; omega))
    · refine lv_iload_n hx hb dX11_level_13 rfl (lv_at hl 2 rfl) ?_
      refine lv_iconst (v := 0) hx hb dX11_level_14 (by decide) ?_
      refine lv_ldcw (v := 300000) hx hb hown (hts (.constant RX11 291 (300000)) (List.mem_of_getElem? (i := 2) rfl)) dX11_level_15 ?_
      refine z_ci hW hS hA (va_runS (As := [.int a2, .int 0, .int 300000]) (rest := []) ⟨hx, hb, hml, hown, hts⟩ (ct_X11_within l G (shX, ad, IX, JX, PX ad) a2 0 300000 _) (va_cwS 3 hts gX11_level_X11_within rfl rfl rfl (by decide +kernel) ⟨Nat.le_of_ble_eq_true rfl, Nat.le_of_ble_eq_true rfl⟩) (z_preS hK hW) rfl rfl hl.1 rfl (lv_room (Nat.le_of_ble_eq_true rfl)) dX11_level_18 ⟨Nat.le_of_ble_eq_true rfl, Nat.le_of_ble_eq_true rfl⟩) (fun r u1 H locs hp hW hS => ?_)
      obtain ⟨e9, hp⟩ := hp
      rw [e9] at hW
      rcases hp with ⟨rfl, h3, h4⟩ | ⟨rfl, h5⟩
      · refine lv_if_ne (tgt := 26) hx hb dX11_level_21 (by decide) (fun c6 => ?_) (fun c6 => absurd c6 (by decide))
        refine lv_aload_n hx hb dX11_level_26 rfl (lv_at hl 0 rfl) ?_
        refine z_get (T := TX11) (N := 13) (ci := 11) (i := 0) (v := .ref (ad 40)) hx hb hts zi_X11_level_X11 hown hK hW rfl rfl 9 (by decide) (hts (.fieldLink RX11 54 "PetrolBoard" "row" "[I") (List.mem_of_getElem? (i := 1) rfl)) (fun _ h => h) rfl dX11_level_27 ?_
        refine lv_iload_n hx hb dX11_level_30 rfl (lv_at hl 1 rfl) ?_
        refine lv_iload_n hx hb dX11_level_31 rfl (lv_at hl 2 rfl) ?_
        refine z_iast (i := 40) hx hb hK hW hS rfl (vp_in_iff.mpr (by simp only [Int32.lt_iff_toInt_lt, Int32.le_iff_toInt_le, ← Int32.toInt_inj, z_l0, z_l30] at c1 c2; constructor <;> omega)) dX11_level_32 (fun H locs hz1 hW hS => ?_)
        refine lv_iconst (v := 1) hx hb dX11_level_33 (by decide) ?_
        exact z_zret hx hb hr (by decide) hK hS (Nat.le_of_ble_eq_true rfl) (Nat.le_of_ble_eq_true rfl) hlocks dX11_level_34 (shX, ad, (z_up IX 40 a1.toNatClampNeg a2), JX, PX ad) hW (by show _ = fr_level a1 a2; unfold fr_level; split <;> first | rfl | (rename_i q; exfalso; simp only [Int32.lt_iff_toInt_lt, Int32.le_iff_toInt_le, ← Int32.toInt_inj, z_l0, z_l1, z_l29, z_l30, z_l300000] at q c1 c2 h3 h4; omega))
      · refine lv_if_ne (tgt := 26) hx hb dX11_level_21 (by decide) (fun c7 => absurd (by decide) c7) (fun c7 => ?_)
        refine lv_iconst (v := 0) hx hb dX11_level_24 (by decide) ?_
        exact z_zret hx hb hr (by decide) hK hS (Nat.le_of_ble_eq_true rfl) (Nat.le_of_ble_eq_true rfl) hlocks dX11_level_25 (shX, ad, IX, JX, PX ad) hW (by show _ = fr_level a1 a2; unfold fr_level; split <;> first | rfl | (rename_i q; exfalso; simp only [Int32.lt_iff_toInt_lt, Int32.le_iff_toInt_le, ← Int32.toInt_inj, z_l0, z_l1, z_l29, z_l30, z_l300000] at q c1 c2 h5 h5; omega))
theorem zi_X12_day_X12 : ∀ w ∈ wsX120, w ∈ wsX12_day := fun w h => (List.mem_cons_of_mem _ (List.mem_append_right _ h))
set_option maxHeartbeats 4000000 in
set_option maxRecDepth 100000 in
theorem ct_X12_day (l : Launch) (G : z_G) (ad : Nat → Nat) (a1 : Int32) : z_M l yX12_day wsX12_day { frames := 1, cells := 0, slots := 0, locals := 12 } [.ref (ad 0), .int a1] G (shM, ad, IM, JM, PM ad) (fun r u1 => r = fr_day a1) 0 0 := by
  intro sz
  refine z_headQ (cc := cX12_day) (maxL := 2) (ret := (some .boolean)) (by decide) rfl (Nat.le_of_ble_eq_true rfl) ?_
  intro p e s m below meth c ls hIn hK hsz hW hl
  obtain ⟨hx, hb, hr, hml, hown, hts, hlocks, hname⟩ := hIn
  subst hsz
  have hown : s.vm.findClass RX12 = some m.cls := hown
  have hA : ∀ q : Nat, s.heap.size ≤ q → z_A (shM, ad, IM, JM, PM ad) s.heap.size q := fun q h => Or.inr h
  generalize hAe : z_A (shM, ad, IM, JM, PM ad) s.heap.size = A at *
  have hS : va_S A s.heap s.heap [] := va_S.rf
  have hl : lv_has ls 2 [(0, .ref (ad 0)), (1, .int a1)] := hl
  refine lv_iload_n hx hb dX12_day_0 rfl (lv_at hl 1 rfl) ?_
  refine lv_aload_n hx hb dX12_day_1 rfl (lv_at hl 0 rfl) ?_
  refine z_get (T := TX12) (N := 96) (ci := 12) (i := 0) (v := .int 0) hx hb hts zi_X12_day_X12 hown hK hW rfl rfl 0 (by decide) (hts (.fieldLink RX12 232 "PetrolBoardModel" "today" "I") (List.mem_of_getElem? (i := 1) rfl)) (fun _ h => h) rfl dX12_day_2 ?_
  refine lv_icmp_le (tgt := 15) hx hb dX12_day_5 (by decide) (fun c1 => ?_) (fun c1 => ?_)
  · refine lv_iconst (v := 0) hx hb dX12_day_15 (by decide) ?_
    exact z_zret hx hb hr (by decide) hK hS (Nat.le_of_ble_eq_true rfl) (Nat.le_of_ble_eq_true rfl) hlocks dX12_day_16 (shM, ad, IM, JM, PM ad) hW (by show _ = fr_day a1; unfold fr_day; split <;> first | rfl | (rename_i q; exfalso; simp only [Int32.lt_iff_toInt_lt, Int32.le_iff_toInt_le, ← Int32.toInt_inj, z_l0, z_l1, z_l719] at q c1; omega))
  · refine lv_iload_n hx hb dX12_day_8 rfl (lv_at hl 1 rfl) ?_
    refine lv_sipush (v := 719) hx hb dX12_day_9 (by decide) ?_
    refine lv_icmp_le (tgt := 17) hx hb dX12_day_12 (by decide) (fun c2 => ?_) (fun c2 => ?_)
    · refine lv_aload_n hx hb dX12_day_17 rfl (lv_at hl 0 rfl) ?_
      refine lv_iload_n hx hb dX12_day_18 rfl (lv_at hl 1 rfl) ?_
      refine z_put (T := TX12) (N := 96) (ci := 12) (i := 0) (v := .int a1) (I1 := (z_up IM 0 0 a1)) (J1 := JM) (P1 := PM ad) hx hb hts zi_X12_day_X12 tyX12 tyX12_ok nmX12 hown hK hW hS rfl rfl 0 (by decide) (hts (.fieldLink RX12 232 "PetrolBoardModel" "today" "I") (List.mem_of_getElem? (i := 1) rfl)) (fun _ h => h) rfl rfl rfl (by first | rfl | exact congrArg _ z_up_s) (fun a b h ty => z_vI h ty) dX12_day_19 (fun H locs hz1 hW hS => ?_)
      refine lv_iconst (v := 1) hx hb dX12_day_22 (by decide) ?_
      exact z_zret hx hb hr (by decide) hK hS (Nat.le_of_ble_eq_true rfl) (Nat.le_of_ble_eq_true rfl) hlocks dX12_day_23 (shM, ad, (z_up IM 0 0 a1), JM, PM ad) hW (by show _ = fr_day a1; unfold fr_day; split <;> first | rfl | (rename_i q; exfalso; simp only [Int32.lt_iff_toInt_lt, Int32.le_iff_toInt_le, ← Int32.toInt_inj, z_l0, z_l1, z_l719] at q c1 c2; omega))
    · refine lv_iconst (v := 0) hx hb dX12_day_15 (by decide) ?_
      exact z_zret hx hb hr (by decide) hK hS (Nat.le_of_ble_eq_true rfl) (Nat.le_of_ble_eq_true rfl) hlocks dX12_day_16 (shM, ad, IM, JM, PM ad) hW (by show _ = fr_day a1; unfold fr_day; split <;> first | rfl | (rename_i q; exfalso; simp only [Int32.lt_iff_toInt_lt, Int32.le_iff_toInt_le, ← Int32.toInt_inj, z_l0, z_l1, z_l719] at q c1 c2; omega))
theorem zi_X12_fault_X12 : ∀ w ∈ wsX120, w ∈ wsX12_fault := fun w h => (List.mem_cons_of_mem _ (List.mem_append_right _ h))
set_option maxHeartbeats 4000000 in
set_option maxRecDepth 100000 in
theorem ct_X12_fault (l : Launch) (G : z_G) (ad : Nat → Nat) : z_M l yX12_fault wsX12_fault { frames := 1, cells := 0, slots := 0, locals := 12 } [.ref (ad 0)] G (shM, ad, IM, JM, PM ad) (fun r u1 => r = -1) 0 0 := by
  intro sz
  refine z_headQ (cc := cX12_fault) (maxL := 1) (ret := (some .int)) (by decide) rfl (Nat.le_of_ble_eq_true rfl) ?_
  intro p e s m below meth c ls hIn hK hsz hW hl
  obtain ⟨hx, hb, hr, hml, hown, hts, hlocks, hname⟩ := hIn
  subst hsz
  have hown : s.vm.findClass RX12 = some m.cls := hown
  have hA : ∀ q : Nat, s.heap.size ≤ q → z_A (shM, ad, IM, JM, PM ad) s.heap.size q := fun q h => Or.inr h
  generalize hAe : z_A (shM, ad, IM, JM, PM ad) s.heap.size = A at *
  have hS : va_S A s.heap s.heap [] := va_S.rf
  have hl : lv_has ls 1 [(0, .ref (ad 0))] := hl
  refine lv_aload_n hx hb dX12_fault_0 rfl (lv_at hl 0 rfl) ?_
  refine z_get (T := TX12) (N := 96) (ci := 12) (i := 0) (v := .int (-1)) hx hb hts zi_X12_fault_X12 hown hK hW rfl rfl 32 (by decide) (hts (.fieldLink RX12 87 "PetrolBoardModel" "faultAt" "I") (List.mem_of_getElem? (i := 1) rfl)) (fun _ h => h) rfl dX12_fault_1 ?_
  exact z_iret hx hb hr hK hS (Nat.le_of_ble_eq_true rfl) (Nat.le_of_ble_eq_true rfl) hlocks dX12_fault_4 (shM, ad, IM, JM, PM ad) hW rfl
theorem zi_X12_level_X12 : ∀ w ∈ wsX120, w ∈ wsX12_level := fun w h => (List.mem_cons_of_mem _ (List.mem_append_right _ h))
set_option maxHeartbeats 4000000 in
set_option maxRecDepth 100000 in
theorem ct_X12_level (l : Launch) (G : z_G) (ad : Nat → Nat) (a1 : Int32) (a2 : Int32) : z_M l yX12_level wsX12_level { frames := 2, cells := 0, slots := 0, locals := 34 } [.ref (ad 0), .int a1, .int a2] G (shM, ad, IM, JM, PM ad) (fun r u1 => r = fr_level a1 a2) 0 0 := by
  intro sz
  refine z_headQ (cc := cX12_level) (maxL := 3) (ret := (some .boolean)) (by decide) rfl (Nat.le_of_ble_eq_true rfl) ?_
  intro p e s m below meth c ls hIn hK hsz hW hl
  obtain ⟨hx, hb, hr, hml, hown, hts, hlocks, hname⟩ := hIn
  subst hsz
  have hown : s.vm.findClass RX12 = some m.cls := hown
  have hA : ∀ q : Nat, s.heap.size ≤ q → z_A (shM, ad, IM, JM, PM ad) s.heap.size q := fun q h => Or.inr h
  generalize hAe : z_A (shM, ad, IM, JM, PM ad) s.heap.size = A at *
  have hS : va_S A s.heap s.heap [] := va_S.rf
  have hl : lv_has ls 3 [(0, .ref (ad 0)), (1, .int a1), (2, .int a2)] := hl
  refine lv_iload_n hx hb dX12_level_0 rfl (lv_at hl 1 rfl) ?_
  refine lv_iconst (v := 0) hx hb dX12_level_1 (by decide) ?_
  refine lv_bipush (v := 29) hx hb dX12_level_2 (by decide) ?_
  refine z_ci hW hS hA (va_runS (As := [.int a1, .int 0, .int 29]) (rest := []) ⟨hx, hb, hml, hown, hts⟩ (ct_X12_within l G (shM, ad, IM, JM, PM ad) a1 0 29 _) (va_cwS 3 hts gX12_level_X12_within rfl rfl rfl (by decide +kernel) ⟨Nat.le_of_ble_eq_true rfl, Nat.le_of_ble_eq_true rfl⟩) (z_preS hK hW) rfl rfl hl.1 rfl (lv_room (Nat.le_of_ble_eq_true rfl)) dX12_level_4 ⟨Nat.le_of_ble_eq_true rfl, Nat.le_of_ble_eq_true rfl⟩) (fun r u1 H locs hp hW hS => ?_)
  obtain ⟨e9, hp⟩ := hp
  rw [e9] at hW
  rcases hp with ⟨rfl, h1, h2⟩ | ⟨rfl, h3⟩
  · refine lv_if_eq (tgt := 21) hx hb dX12_level_7 (by decide) (fun c4 => absurd c4 (by decide)) (fun c4 => ?_)
    refine lv_iload_n hx hb dX12_level_10 rfl (lv_at hl 2 rfl) ?_
    refine lv_iconst (v := 0) hx hb dX12_level_11 (by decide) ?_
    refine lv_ldcw (v := 300000) hx hb hown (hts (.constant RX12 492 (300000)) (List.mem_of_getElem? (i := 1) rfl)) dX12_level_12 ?_
    refine z_ci hW hS hA (va_runS (As := [.int a2, .int 0, .int 300000]) (rest := []) ⟨hx, hb, hml, hown, hts⟩ (ct_X12_within l G (shM, ad, IM, JM, PM ad) a2 0 300000 _) (va_cwS 3 hts gX12_level_X12_within rfl rfl rfl (by decide +kernel) ⟨Nat.le_of_ble_eq_true rfl, Nat.le_of_ble_eq_true rfl⟩) (z_preS hK hW) rfl rfl hl.1 rfl (lv_room (Nat.le_of_ble_eq_true rfl)) dX12_level_15 ⟨Nat.le_of_ble_eq_true rfl, Nat.le_of_ble_eq_true rfl⟩) (fun r u1 H locs hp hW hS => ?_)
    obtain ⟨e9, hp⟩ := hp
    rw [e9] at hW
    rcases hp with ⟨rfl, h5, h6⟩ | ⟨rfl, h7⟩
    · refine lv_if_ne (tgt := 23) hx hb dX12_level_18 (by decide) (fun c8 => ?_) (fun c8 => absurd c8 (by decide))
      refine lv_aload_n hx hb dX12_level_23 rfl (lv_at hl 0 rfl) ?_
      refine z_get (T := TX12) (N := 96) (ci := 12) (i := 0) (v := .ref (ad 51)) hx hb hts zi_X12_level_X12 hown hK hW rfl rfl 74 (by decide) (hts (.fieldLink RX12 169 "PetrolBoardModel" "levels" "[I") (List.mem_of_getElem? (i := 2) rfl)) (fun _ h => h) rfl dX12_level_24 ?_
      refine lv_iload_n hx hb dX12_level_27 rfl (lv_at hl 1 rfl) ?_
      refine lv_iload_n hx hb dX12_level_28 rfl (lv_at hl 2 rfl) ?_
      refine z_iast (i := 51) hx hb hK hW hS rfl (vp_in_iff.mpr (by simp only [Int32.lt_iff_toInt_lt, Int32.le_iff_toInt_le, ← Int32.toInt_inj, z_l0, z_l29, z_l30] at h1 h2; constructor <;> omega)) dX12_level_29 (fun H locs hz1 hW hS => ?_)
      refine lv_iconst (v := 1) hx hb dX12_level_30 (by decide) ?_
      exact z_zret hx hb hr (by decide) hK hS (Nat.le_of_ble_eq_true rfl) (Nat.le_of_ble_eq_true rfl) hlocks dX12_level_31 (shM, ad, (z_up IM 51 a1.toNatClampNeg a2), JM, PM ad) hW (by show _ = fr_level a1 a2; unfold fr_level; split <;> first | rfl | (rename_i q; exfalso; simp only [Int32.lt_iff_toInt_lt, Int32.le_iff_toInt_le, ← Int32.toInt_inj, z_l0, z_l1, z_l29, z_l300000] at q h1 h2 h5 h6; omega))
    · refine lv_if_ne (tgt := 23) hx hb dX12_level_18 (by decide) (fun c9 => absurd (by decide) c9) (fun c9 => ?_)
      refine lv_iconst (v := 0) hx hb dX12_level_21 (by decide) ?_
      exact z_zret hx hb hr (by decide) hK hS (Nat.le_of_ble_eq_true rfl) (Nat.le_of_ble_eq_true rfl) hlocks dX12_level_22 (shM, ad, IM, JM, PM ad) hW (by show _ = fr_level a1 a2; unfold fr_level; split <;> first | rfl | (rename_i q; exfalso; simp only [Int32.lt_iff_toInt_lt, Int32.le_iff_toInt_le, ← Int32.toInt_inj, z_l0, z_l1, z_l29, z_l300000] at q h1 h2 h7 h7; omega))
  · refine lv_if_eq (tgt := 21) hx hb dX12_level_7 (by decide) (fun c10 => ?_) (fun c10 => absurd (by decide) c10)
    refine lv_iconst (v := 0) hx hb dX12_level_21 (by decide) ?_
    exact z_zret hx hb hr (by decide) hK hS (Nat.le_of_ble_eq_true rfl) (Nat.le_of_ble_eq_true rfl) hlocks dX12_level_22 (shM, ad, IM, JM, PM ad) hW (by show _ = fr_level a1 a2; unfold fr_level; split <;> first | rfl | (rename_i q; exfalso; simp only [Int32.lt_iff_toInt_lt, Int32.le_iff_toInt_le, ← Int32.toInt_inj, z_l0, z_l1, z_l29, z_l300000] at q h3 h3; omega))
theorem zi_X4_addPort_X4 : ∀ w ∈ wsX40, w ∈ wsX4_addPort := fun w h => (List.mem_cons_of_mem _ (List.mem_append_right _ h))
set_option maxHeartbeats 4000000 in
set_option maxRecDepth 100000 in
theorem ct_X4_addPort (l : Launch) (G : z_G) (ad : Nat → Nat) (a1 : Int32) : z_M l yX4_addPort wsX4_addPort { frames := 1, cells := 0, slots := 0, locals := 12 } [.ref (ad 41), .int a1] G (shX, ad, IX, JX, PX ad) (fun r u1 => r = 0) 0 0 := by
  intro sz
  refine z_headQ (cc := cX4_addPort) (maxL := 2) (ret := (some .int)) (by decide) rfl (Nat.le_of_ble_eq_true rfl) ?_
  intro p e s m below meth c ls hIn hK hsz hW hl
  obtain ⟨hx, hb, hr, hml, hown, hts, hlocks, hname⟩ := hIn
  subst hsz
  have hown : s.vm.findClass RX4 = some m.cls := hown
  have hA : ∀ q : Nat, s.heap.size ≤ q → z_A (shX, ad, IX, JX, PX ad) s.heap.size q := fun q h => Or.inr h
  generalize hAe : z_A (shX, ad, IX, JX, PX ad) s.heap.size = A at *
  have hS : va_S A s.heap s.heap [] := va_S.rf
  have hl : lv_has ls 2 [(0, .ref (ad 41)), (1, .int a1)] := hl
  refine lv_aload_n hx hb dX4_addPort_0 rfl (lv_at hl 0 rfl) ?_
  refine z_get (T := TX4) (N := 13) (ci := 4) (i := 41) (v := .int 0) hx hb hts zi_X4_addPort_X4 hown hK hW rfl rfl 10 (by decide) (hts (.fieldLink RX4 44 "PetrolBoard$Loads" "ports" "I") (List.mem_of_getElem? (i := 1) rfl)) (fun _ h => h) rfl dX4_addPort_1 ?_
  refine lv_iconst (v := 4) hx hb dX4_addPort_4 (by decide) ?_
  refine lv_icmp_lt (tgt := 10) hx hb dX4_addPort_5 (by decide) (fun c1 => ?_) (fun c1 => absurd (by decide) c1)
  refine lv_aload_n hx hb dX4_addPort_10 rfl (lv_at hl 0 rfl) ?_
  refine z_get (T := TX4) (N := 13) (ci := 4) (i := 41) (v := .ref (ad 42)) hx hb hts zi_X4_addPort_X4 hown hK hW rfl rfl 0 (by decide) (hts (.fieldLink RX4 9 "PetrolBoard$Loads" "inPort" "[I") (List.mem_of_getElem? (i := 2) rfl)) (fun _ h => h) rfl dX4_addPort_11 ?_
  refine lv_aload_n hx hb dX4_addPort_14 rfl (lv_at hl 0 rfl) ?_
  refine z_get (T := TX4) (N := 13) (ci := 4) (i := 41) (v := .int 0) hx hb hts zi_X4_addPort_X4 hown hK hW rfl rfl 10 (by decide) (hts (.fieldLink RX4 44 "PetrolBoard$Loads" "ports" "I") (List.mem_of_getElem? (i := 1) rfl)) (fun _ h => h) rfl dX4_addPort_15 ?_
  refine lv_iload_n hx hb dX4_addPort_18 rfl (lv_at hl 1 rfl) ?_
  refine z_iast (i := 42) hx hb hK hW hS rfl (z_inl (by decide)) dX4_addPort_19 (fun H locs hz1 hW hS => ?_)
  refine lv_aload_n hx hb dX4_addPort_20 rfl (lv_at hl 0 rfl) ?_
  refine lv_dup hx hb dX4_addPort_21 rfl ?_
  refine z_get (T := TX4) (N := 13) (ci := 4) (i := 41) (v := .int 0) hx hb hts zi_X4_addPort_X4 hown hK hW rfl rfl 10 (by decide) (hts (.fieldLink RX4 44 "PetrolBoard$Loads" "ports" "I") (List.mem_of_getElem? (i := 1) rfl)) (fun _ h => h) rfl dX4_addPort_22 ?_
  refine lv_iconst (v := 1) hx hb dX4_addPort_25 (by decide) ?_
  refine lv_iadd hx hb dX4_addPort_26 ?_
  refine z_topi (v := 1) (by decide) ?_
  refine z_put (T := TX4) (N := 13) (ci := 4) (i := 41) (v := .int 1) (I1 := (z_up (z_up IX 42 (0 : Int32).toNatClampNeg a1) 41 10 1)) (J1 := JX) (P1 := PX ad) hx hb hts zi_X4_addPort_X4 tyX4 tyX4_ok nmX4 hown hK hW hS rfl rfl 10 (by decide) (hts (.fieldLink RX4 44 "PetrolBoard$Loads" "ports" "I") (List.mem_of_getElem? (i := 1) rfl)) (fun _ h => h) rfl rfl rfl (by first | rfl | exact congrArg _ z_up_s) (fun a b h ty => z_vI h ty) dX4_addPort_27 (fun H locs hz1 hW hS => ?_)
  refine lv_aload_n hx hb dX4_addPort_30 rfl (lv_at hl 0 rfl) ?_
  refine z_get (T := TX4) (N := 13) (ci := 4) (i := 41) (v := .int 1) hx hb hts zi_X4_addPort_X4 hown hK hW rfl rfl 10 (by decide) (hts (.fieldLink RX4 44 "PetrolBoard$Loads" "ports" "I") (List.mem_of_getElem? (i := 1) rfl)) (fun _ h => h) rfl dX4_addPort_31 ?_
  refine lv_iconst (v := 1) hx hb dX4_addPort_34 (by decide) ?_
  refine lv_isub hx hb dX4_addPort_35 ?_
  refine z_topi (v := 0) (by decide) ?_
  exact z_iret hx hb hr hK hS (Nat.le_of_ble_eq_true rfl) (Nat.le_of_ble_eq_true rfl) hlocks dX4_addPort_36 (shX, ad, (z_up (z_up IX 42 (0 : Int32).toNatClampNeg a1) 41 10 1), JX, PX ad) hW rfl
theorem zi_X2_add_X2 : ∀ w ∈ wsX20, w ∈ wsX2_add := fun w h => (List.mem_cons_of_mem _ (List.mem_append_right _ h))
set_option maxHeartbeats 4000000 in
set_option maxRecDepth 100000 in
theorem ct_X2_add (l : Launch) (G : z_G) (ad : Nat → Nat) (a1 : Int32) (a2 : Int32) (a3 : Int32) (a4 : Int32) (a5 : Int32) : z_M l yX2_add wsX2_add { frames := 1, cells := 0, slots := 0, locals := 12 } [.ref (ad 1), .int a1, .int a2, .int a3, .int a4, .int a5] G (shX, ad, IX, JX, PX ad) (fun r u1 => r = 0) 0 0 := by
  intro sz
  refine z_headQ (cc := cX2_add) (maxL := 6) (ret := (some .int)) (by decide) rfl (Nat.le_of_ble_eq_true rfl) ?_
  intro p e s m below meth c ls hIn hK hsz hW hl
  obtain ⟨hx, hb, hr, hml, hown, hts, hlocks, hname⟩ := hIn
  subst hsz
  have hown : s.vm.findClass RX2 = some m.cls := hown
  have hA : ∀ q : Nat, s.heap.size ≤ q → z_A (shX, ad, IX, JX, PX ad) s.heap.size q := fun q h => Or.inr h
  generalize hAe : z_A (shX, ad, IX, JX, PX ad) s.heap.size = A at *
  have hS : va_S A s.heap s.heap [] := va_S.rf
  have hl : lv_has ls 6 [(0, .ref (ad 1)), (1, .int a1), (2, .int a2), (3, .int a3), (4, .int a4), (5, .int a5)] := hl
  refine lv_aload_n hx hb dX2_add_0 rfl (lv_at hl 0 rfl) ?_
  refine z_get (T := TX2) (N := 12) (ci := 2) (i := 1) (v := .int 0) hx hb hts zi_X2_add_X2 hown hK hW rfl rfl 5 (by decide) (hts (.fieldLink RX2 42 "PetrolBoard$Holders" "number" "I") (List.mem_of_getElem? (i := 1) rfl)) (fun _ h => h) rfl dX2_add_1 ?_
  refine lv_bipush (v := 30) hx hb dX2_add_4 (by decide) ?_
  refine lv_icmp_lt (tgt := 11) hx hb dX2_add_6 (by decide) (fun c1 => ?_) (fun c1 => absurd (by decide) c1)
  refine lv_aload_n hx hb dX2_add_11 rfl (lv_at hl 0 rfl) ?_
  refine z_get (T := TX2) (N := 12) (ci := 2) (i := 1) (v := .ref (ad 2)) hx hb hts zi_X2_add_X2 hown hK hW rfl rfl 0 (by decide) (hts (.fieldLink RX2 9 "PetrolBoard$Holders" "size" "[I") (List.mem_of_getElem? (i := 2) rfl)) (fun _ h => h) rfl dX2_add_12 ?_
  refine lv_aload_n hx hb dX2_add_15 rfl (lv_at hl 0 rfl) ?_
  refine z_get (T := TX2) (N := 12) (ci := 2) (i := 1) (v := .int 0) hx hb hts zi_X2_add_X2 hown hK hW rfl rfl 5 (by decide) (hts (.fieldLink RX2 42 "PetrolBoard$Holders" "number" "I") (List.mem_of_getElem? (i := 1) rfl)) (fun _ h => h) rfl dX2_add_16 ?_
  refine lv_iload_n hx hb dX2_add_19 rfl (lv_at hl 1 rfl) ?_
  refine z_iast (i := 2) hx hb hK hW hS rfl (z_inl (by decide)) dX2_add_20 (fun H locs hz1 hW hS => ?_)
  refine lv_aload_n hx hb dX2_add_21 rfl (lv_at hl 0 rfl) ?_
  refine z_get (T := TX2) (N := 12) (ci := 2) (i := 1) (v := .ref (ad 3)) hx hb hts zi_X2_add_X2 hown hK hW rfl rfl 1 (by decide) (hts (.fieldLink RX2 15 "PetrolBoard$Holders" "town" "[I") (List.mem_of_getElem? (i := 3) rfl)) (fun _ h => h) rfl dX2_add_22 ?_
  refine lv_aload_n hx hb dX2_add_25 rfl (lv_at hl 0 rfl) ?_
  refine z_get (T := TX2) (N := 12) (ci := 2) (i := 1) (v := .int 0) hx hb hts zi_X2_add_X2 hown hK hW rfl rfl 5 (by decide) (hts (.fieldLink RX2 42 "PetrolBoard$Holders" "number" "I") (List.mem_of_getElem? (i := 1) rfl)) (fun _ h => h) rfl dX2_add_26 ?_
  refine lv_iload_n hx hb dX2_add_29 rfl (lv_at hl 2 rfl) ?_
  refine z_iast (i := 3) hx hb hK hW hS rfl (z_inl (by decide)) dX2_add_30 (fun H locs hz1 hW hS => ?_)
  refine lv_aload_n hx hb dX2_add_31 rfl (lv_at hl 0 rfl) ?_
  refine z_get (T := TX2) (N := 12) (ci := 2) (i := 1) (v := .ref (ad 4)) hx hb hts zi_X2_add_X2 hown hK hW rfl rfl 2 (by decide) (hts (.fieldLink RX2 18 "PetrolBoard$Holders" "seats" "[I") (List.mem_of_getElem? (i := 4) rfl)) (fun _ h => h) rfl dX2_add_32 ?_
  refine lv_aload_n hx hb dX2_add_35 rfl (lv_at hl 0 rfl) ?_
  refine z_get (T := TX2) (N := 12) (ci := 2) (i := 1) (v := .int 0) hx hb hts zi_X2_add_X2 hown hK hW rfl rfl 5 (by decide) (hts (.fieldLink RX2 42 "PetrolBoard$Holders" "number" "I") (List.mem_of_getElem? (i := 1) rfl)) (fun _ h => h) rfl dX2_add_36 ?_
  refine lv_iload_n hx hb dX2_add_39 rfl (lv_at hl 3 rfl) ?_
  refine z_iast (i := 4) hx hb hK hW hS rfl (z_inl (by decide)) dX2_add_40 (fun H locs hz1 hW hS => ?_)
  refine lv_aload_n hx hb dX2_add_41 rfl (lv_at hl 0 rfl) ?_
  refine z_get (T := TX2) (N := 12) (ci := 2) (i := 1) (v := .ref (ad 5)) hx hb hts zi_X2_add_X2 hown hK hW rfl rfl 3 (by decide) (hts (.fieldLink RX2 21 "PetrolBoard$Holders" "bid" "[I") (List.mem_of_getElem? (i := 5) rfl)) (fun _ h => h) rfl dX2_add_42 ?_
  refine lv_aload_n hx hb dX2_add_45 rfl (lv_at hl 0 rfl) ?_
  refine z_get (T := TX2) (N := 12) (ci := 2) (i := 1) (v := .int 0) hx hb hts zi_X2_add_X2 hown hK hW rfl rfl 5 (by decide) (hts (.fieldLink RX2 42 "PetrolBoard$Holders" "number" "I") (List.mem_of_getElem? (i := 1) rfl)) (fun _ h => h) rfl dX2_add_46 ?_
  refine lv_iload hx hb dX2_add_49 (lv_at hl 4 rfl) ?_
  refine z_iast (i := 5) hx hb hK hW hS rfl (z_inl (by decide)) dX2_add_51 (fun H locs hz1 hW hS => ?_)
  refine lv_aload_n hx hb dX2_add_52 rfl (lv_at hl 0 rfl) ?_
  refine z_get (T := TX2) (N := 12) (ci := 2) (i := 1) (v := .ref (ad 6)) hx hb hts zi_X2_add_X2 hown hK hW rfl rfl 4 (by decide) (hts (.fieldLink RX2 24 "PetrolBoard$Holders" "need" "[I") (List.mem_of_getElem? (i := 6) rfl)) (fun _ h => h) rfl dX2_add_53 ?_
  refine lv_aload_n hx hb dX2_add_56 rfl (lv_at hl 0 rfl) ?_
  refine z_get (T := TX2) (N := 12) (ci := 2) (i := 1) (v := .int 0) hx hb hts zi_X2_add_X2 hown hK hW rfl rfl 5 (by decide) (hts (.fieldLink RX2 42 "PetrolBoard$Holders" "number" "I") (List.mem_of_getElem? (i := 1) rfl)) (fun _ h => h) rfl dX2_add_57 ?_
  refine lv_iload hx hb dX2_add_60 (lv_at hl 5 rfl) ?_
  refine z_iast (i := 6) hx hb hK hW hS rfl (z_inl (by decide)) dX2_add_62 (fun H locs hz1 hW hS => ?_)
  refine lv_aload_n hx hb dX2_add_63 rfl (lv_at hl 0 rfl) ?_
  refine lv_dup hx hb dX2_add_64 rfl ?_
  refine z_get (T := TX2) (N := 12) (ci := 2) (i := 1) (v := .int 0) hx hb hts zi_X2_add_X2 hown hK hW rfl rfl 5 (by decide) (hts (.fieldLink RX2 42 "PetrolBoard$Holders" "number" "I") (List.mem_of_getElem? (i := 1) rfl)) (fun _ h => h) rfl dX2_add_65 ?_
  refine lv_iconst (v := 1) hx hb dX2_add_68 (by decide) ?_
  refine lv_iadd hx hb dX2_add_69 ?_
  refine z_topi (v := 1) (by decide) ?_
  refine z_put (T := TX2) (N := 12) (ci := 2) (i := 1) (v := .int 1) (I1 := (z_up (z_up (z_up (z_up (z_up (z_up IX 2 (0 : Int32).toNatClampNeg a1) 3 (0 : Int32).toNatClampNeg a2) 4 (0 : Int32).toNatClampNeg a3) 5 (0 : Int32).toNatClampNeg a4) 6 (0 : Int32).toNatClampNeg a5) 1 5 1)) (J1 := JX) (P1 := PX ad) hx hb hts zi_X2_add_X2 tyX2 tyX2_ok nmX2 hown hK hW hS rfl rfl 5 (by decide) (hts (.fieldLink RX2 42 "PetrolBoard$Holders" "number" "I") (List.mem_of_getElem? (i := 1) rfl)) (fun _ h => h) rfl rfl rfl (by first | rfl | exact congrArg _ z_up_s) (fun a b h ty => z_vI h ty) dX2_add_70 (fun H locs hz1 hW hS => ?_)
  refine lv_aload_n hx hb dX2_add_73 rfl (lv_at hl 0 rfl) ?_
  refine z_get (T := TX2) (N := 12) (ci := 2) (i := 1) (v := .int 1) hx hb hts zi_X2_add_X2 hown hK hW rfl rfl 5 (by decide) (hts (.fieldLink RX2 42 "PetrolBoard$Holders" "number" "I") (List.mem_of_getElem? (i := 1) rfl)) (fun _ h => h) rfl dX2_add_74 ?_
  refine lv_iconst (v := 1) hx hb dX2_add_77 (by decide) ?_
  refine lv_isub hx hb dX2_add_78 ?_
  refine z_topi (v := 0) (by decide) ?_
  exact z_iret hx hb hr hK hS (Nat.le_of_ble_eq_true rfl) (Nat.le_of_ble_eq_true rfl) hlocks dX2_add_79 (shX, ad, (z_up (z_up (z_up (z_up (z_up (z_up IX 2 (0 : Int32).toNatClampNeg a1) 3 (0 : Int32).toNatClampNeg a2) 4 (0 : Int32).toNatClampNeg a3) 5 (0 : Int32).toNatClampNeg a4) 6 (0 : Int32).toNatClampNeg a5) 1 5 1), JX, PX ad) hW rfl
theorem zi_X8_judgedGood_X8 : ∀ w ∈ wsX80, w ∈ wsX8_judgedGood := fun w h => (List.mem_cons_of_mem _ (List.mem_append_right _ h))
set_option maxHeartbeats 4000000 in
set_option maxRecDepth 100000 in
theorem ct_X8_judgedGood (l : Launch) (G : z_G) (ad : Nat → Nat) : z_M l yX8_judgedGood wsX8_judgedGood { frames := 1, cells := 0, slots := 0, locals := 12 } [.ref (ad 30)] G (shX, ad, IX, JX, PX ad) (fun r u1 => u1 = (shX, ad, IX, JX, PX ad) ∧ r = 0) 0 0 := by
  intro sz
  refine z_headQ (cc := cX8_judgedGood) (maxL := 3) (ret := (some .int)) (by decide) rfl (Nat.le_of_ble_eq_true rfl) ?_
  intro p e s m below meth c ls hIn hK hsz hW hl
  obtain ⟨hx, hb, hr, hml, hown, hts, hlocks, hname⟩ := hIn
  subst hsz
  have hown : s.vm.findClass RX8 = some m.cls := hown
  have hA : ∀ q : Nat, s.heap.size ≤ q → z_A (shX, ad, IX, JX, PX ad) s.heap.size q := fun q h => Or.inr h
  generalize hAe : z_A (shX, ad, IX, JX, PX ad) s.heap.size = A at *
  have hS : va_S A s.heap s.heap [] := va_S.rf
  have hl : lv_has ls 3 [(0, .ref (ad 30))] := hl
  refine lv_iconst (v := 0) hx hb dX8_judgedGood_0 (by decide) ?_
  refine lv_istore_n (lv' := [(1, .int 0), (0, .ref (ad 30))]) hx hb dX8_judgedGood_1 rfl hl (by decide) rfl (fun ls hl => ?_)
  refine lv_iconst (v := 0) hx hb dX8_judgedGood_2 (by decide) ?_
  refine lv_istore_n (lv' := [(2, .int 0), (1, .int 0), (0, .ref (ad 30))]) hx hb dX8_judgedGood_3 rfl hl (by decide) rfl (fun ls hl => ?_)
  refine lv_iload_n hx hb dX8_judgedGood_4 rfl (lv_at hl 0 rfl) ?_
  refine lv_aload_n hx hb dX8_judgedGood_5 rfl (lv_at hl 2 rfl) ?_
  refine z_get (T := TX8) (N := 9) (ci := 8) (i := 30) (v := .int 0) hx hb hts zi_X8_judgedGood_X8 hown hK hW rfl rfl 8 (by decide) (hts (.fieldLink RX8 36 "PetrolBoard$Pours" "number" "I") (List.mem_of_getElem? (i := 1) rfl)) (fun _ h => h) rfl dX8_judgedGood_6 ?_
  refine lv_icmp_ge (tgt := 42) hx hb dX8_judgedGood_9 (by decide) (fun c1 => ?_) (fun c1 => absurd (by decide) c1)
  refine lv_iload_n hx hb dX8_judgedGood_42 rfl (lv_at hl 1 rfl) ?_
  exact z_iret hx hb hr hK hS (Nat.le_of_ble_eq_true rfl) (Nat.le_of_ble_eq_true rfl) hlocks dX8_judgedGood_43 (shX, ad, IX, JX, PX ad) hW ⟨rfl, rfl⟩
theorem zi_X8_judgedOtherwise_X8 : ∀ w ∈ wsX80, w ∈ wsX8_judgedOtherwise := fun w h => (List.mem_cons_of_mem _ (List.mem_append_right _ h))
set_option maxHeartbeats 4000000 in
set_option maxRecDepth 100000 in
theorem ct_X8_judgedOtherwise (l : Launch) (G : z_G) (ad : Nat → Nat) : z_M l yX8_judgedOtherwise wsX8_judgedOtherwise { frames := 1, cells := 0, slots := 0, locals := 12 } [.ref (ad 30)] G (shX, ad, IX, JX, PX ad) (fun r u1 => u1 = (shX, ad, IX, JX, PX ad) ∧ r = 0) 0 0 := by
  intro sz
  refine z_headQ (cc := cX8_judgedOtherwise) (maxL := 3) (ret := (some .int)) (by decide) rfl (Nat.le_of_ble_eq_true rfl) ?_
  intro p e s m below meth c ls hIn hK hsz hW hl
  obtain ⟨hx, hb, hr, hml, hown, hts, hlocks, hname⟩ := hIn
  subst hsz
  have hown : s.vm.findClass RX8 = some m.cls := hown
  have hA : ∀ q : Nat, s.heap.size ≤ q → z_A (shX, ad, IX, JX, PX ad) s.heap.size q := fun q h => Or.inr h
  generalize hAe : z_A (shX, ad, IX, JX, PX ad) s.heap.size = A at *
  have hS : va_S A s.heap s.heap [] := va_S.rf
  have hl : lv_has ls 3 [(0, .ref (ad 30))] := hl
  refine lv_iconst (v := 0) hx hb dX8_judgedOtherwise_0 (by decide) ?_
  refine lv_istore_n (lv' := [(1, .int 0), (0, .ref (ad 30))]) hx hb dX8_judgedOtherwise_1 rfl hl (by decide) rfl (fun ls hl => ?_)
  refine lv_iconst (v := 0) hx hb dX8_judgedOtherwise_2 (by decide) ?_
  refine lv_istore_n (lv' := [(2, .int 0), (1, .int 0), (0, .ref (ad 30))]) hx hb dX8_judgedOtherwise_3 rfl hl (by decide) rfl (fun ls hl => ?_)
  refine lv_iload_n hx hb dX8_judgedOtherwise_4 rfl (lv_at hl 0 rfl) ?_
  refine lv_aload_n hx hb dX8_judgedOtherwise_5 rfl (lv_at hl 2 rfl) ?_
  refine z_get (T := TX8) (N := 9) (ci := 8) (i := 30) (v := .int 0) hx hb hts zi_X8_judgedOtherwise_X8 hown hK hW rfl rfl 8 (by decide) (hts (.fieldLink RX8 36 "PetrolBoard$Pours" "number" "I") (List.mem_of_getElem? (i := 1) rfl)) (fun _ h => h) rfl dX8_judgedOtherwise_6 ?_
  refine lv_icmp_ge (tgt := 42) hx hb dX8_judgedOtherwise_9 (by decide) (fun c1 => ?_) (fun c1 => absurd (by decide) c1)
  refine lv_iload_n hx hb dX8_judgedOtherwise_42 rfl (lv_at hl 1 rfl) ?_
  exact z_iret hx hb hr hK hS (Nat.le_of_ble_eq_true rfl) (Nat.le_of_ble_eq_true rfl) hlocks dX8_judgedOtherwise_43 (shX, ad, IX, JX, PX ad) hW ⟨rfl, rfl⟩
set_option maxHeartbeats 4000000 in
set_option maxRecDepth 100000 in
theorem ct_X8_tell (l : Launch) (G : z_G) (ad : Nat → Nat) (a1 : Int32) (a2 : Int32) : z_M l yX8_tell wsX8_tell { frames := 2, cells := 0, slots := 0, locals := 33 } [.ref (ad 30), .int a1, .int a2] G (shX, ad, IX, JX, PX ad) (fun r u1 => u1 = (shX, ad, IX, JX, PX ad) ∧ r = (-1)) 0 0 := by
  intro sz
  refine z_headQ (cc := cX8_tell) (maxL := 3) (ret := (some .int)) (by decide) rfl (Nat.le_of_ble_eq_true rfl) ?_
  intro p e s m below meth c ls hIn hK hsz hW hl
  obtain ⟨hx, hb, hr, hml, hown, hts, hlocks, hname⟩ := hIn
  subst hsz
  have hown : s.vm.findClass RX8 = some m.cls := hown
  have hA : ∀ q : Nat, s.heap.size ≤ q → z_A (shX, ad, IX, JX, PX ad) s.heap.size q := fun q h => Or.inr h
  generalize hAe : z_A (shX, ad, IX, JX, PX ad) s.heap.size = A at *
  have hS : va_S A s.heap s.heap [] := va_S.rf
  have hl : lv_has ls 3 [(0, .ref (ad 30)), (1, .int a1), (2, .int a2)] := hl
  refine lv_aload_n hx hb dX8_tell_0 rfl (lv_at hl 0 rfl) ?_
  refine lv_iload_n hx hb dX8_tell_1 rfl (lv_at hl 1 rfl) ?_
  refine z_ci hW hS hA (va_runV (As := [.int a1]) (rest := []) ⟨hx, hb, hml, hown, hts⟩ (ct_X8_has l G ad a1 _) (cwV 1 hts gX8_tell_X8_has rfl rfl rfl (by decide +kernel) ⟨Nat.le_of_ble_eq_true rfl, Nat.le_of_ble_eq_true rfl⟩) (z_preV hK hW rfl rfl) rfl rfl hl.1 rfl (lv_room (Nat.le_of_ble_eq_true rfl)) dX8_tell_2 ⟨Nat.le_of_ble_eq_true rfl, Nat.le_of_ble_eq_true rfl⟩) (fun r u1 H locs hp hW hS => ?_)
  obtain ⟨e9, rfl⟩ := hp
  rw [e9] at hW
  refine lv_if_ne (tgt := 10) hx hb dX8_tell_5 (by decide) (fun c1 => absurd (by decide) c1) (fun c1 => ?_)
  refine lv_iconst (v := (-1)) hx hb dX8_tell_8 (by decide) ?_
  exact z_iret hx hb hr hK hS (Nat.le_of_ble_eq_true rfl) (Nat.le_of_ble_eq_true rfl) hlocks dX8_tell_9 (shX, ad, IX, JX, PX ad) hW ⟨rfl, rfl⟩
theorem zi_X11_port_X11 : ∀ w ∈ wsX110, w ∈ wsX11_port := fun w h => (List.mem_cons_of_mem _ (List.mem_append_left _ (List.mem_append_right _ h)))
set_option maxHeartbeats 4000000 in
set_option maxRecDepth 100000 in
theorem ct_X11_port (l : Launch) (G : z_G) (ad : Nat → Nat) (a1 : Int32) : z_M l yX11_port wsX11_port { frames := 2, cells := 0, slots := 0, locals := 34 } [.ref (ad 0), .int a1] G (shX, ad, IX, JX, PX ad) (fun r u1 => r = fr_port a1) 0 0 := by
  intro sz
  refine z_headQ (cc := cX11_port) (maxL := 2) (ret := (some .int)) (by decide) rfl (Nat.le_of_ble_eq_true rfl) ?_
  intro p e s m below meth c ls hIn hK hsz hW hl
  obtain ⟨hx, hb, hr, hml, hown, hts, hlocks, hname⟩ := hIn
  subst hsz
  have hown : s.vm.findClass RX11 = some m.cls := hown
  have hA : ∀ q : Nat, s.heap.size ≤ q → z_A (shX, ad, IX, JX, PX ad) s.heap.size q := fun q h => Or.inr h
  generalize hAe : z_A (shX, ad, IX, JX, PX ad) s.heap.size = A at *
  have hS : va_S A s.heap s.heap [] := va_S.rf
  have hl : lv_has ls 2 [(0, .ref (ad 0)), (1, .int a1)] := hl
  refine lv_iload_n hx hb dX11_port_0 rfl (lv_at hl 1 rfl) ?_
  refine lv_iconst (v := 0) hx hb dX11_port_1 (by decide) ?_
  refine lv_bipush (v := 50) hx hb dX11_port_2 (by decide) ?_
  refine z_ci hW hS hA (va_runS (As := [.int a1, .int 0, .int 50]) (rest := []) ⟨hx, hb, hml, hown, hts⟩ (ct_X11_within l G (shX, ad, IX, JX, PX ad) a1 0 50 _) (va_cwS 3 hts gX11_port_X11_within rfl rfl rfl (by decide +kernel) ⟨Nat.le_of_ble_eq_true rfl, Nat.le_of_ble_eq_true rfl⟩) (z_preS hK hW) rfl rfl hl.1 rfl (lv_room (Nat.le_of_ble_eq_true rfl)) dX11_port_4 ⟨Nat.le_of_ble_eq_true rfl, Nat.le_of_ble_eq_true rfl⟩) (fun r u1 H locs hp hW hS => ?_)
  obtain ⟨e9, hp⟩ := hp
  rw [e9] at hW
  rcases hp with ⟨rfl, h1, h2⟩ | ⟨rfl, h3⟩
  · refine lv_if_ne (tgt := 12) hx hb dX11_port_7 (by decide) (fun c4 => ?_) (fun c4 => absurd c4 (by decide))
    refine lv_aload_n hx hb dX11_port_12 rfl (lv_at hl 0 rfl) ?_
    refine z_get (T := TX11) (N := 13) (ci := 11) (i := 0) (v := .ref (ad 41)) hx hb hts zi_X11_port_X11 hown hK hW rfl rfl 10 (by decide) (hts (.fieldLink RX11 61 "PetrolBoard" "loads" "LPetrolBoard$Loads;") (List.mem_of_getElem? (i := 1) rfl)) (fun _ h => h) rfl dX11_port_13 ?_
    refine lv_iload_n hx hb dX11_port_16 rfl (lv_at hl 1 rfl) ?_
    refine z_ci hW hS hA (va_runV (As := [.int a1]) (rest := []) ⟨hx, hb, hml, hown, hts⟩ (ct_X4_addPort l G ad a1 _) (cwV 1 hts gX11_port_X4_addPort rfl rfl rfl (by decide +kernel) ⟨Nat.le_of_ble_eq_true rfl, Nat.le_of_ble_eq_true rfl⟩) (z_preV hK hW rfl rfl) rfl rfl hl.1 rfl (lv_room (Nat.le_of_ble_eq_true rfl)) dX11_port_17 ⟨Nat.le_of_ble_eq_true rfl, Nat.le_of_ble_eq_true rfl⟩) (fun r u1 H locs hp hW hS => ?_)
    rw [hp]
    exact z_iret hx hb hr hK hS (Nat.le_of_ble_eq_true rfl) (Nat.le_of_ble_eq_true rfl) hlocks dX11_port_20 u1 hW (by show _ = fr_port a1; unfold fr_port; split <;> first | rfl | (rename_i q; exfalso; simp only [Int32.lt_iff_toInt_lt, Int32.le_iff_toInt_le, ← Int32.toInt_inj, z_l0, z_l1, z_l50] at q h1 h2; omega))
  · refine lv_if_ne (tgt := 12) hx hb dX11_port_7 (by decide) (fun c5 => absurd (by decide) c5) (fun c5 => ?_)
    refine lv_iconst (v := (-1)) hx hb dX11_port_10 (by decide) ?_
    exact z_iret hx hb hr hK hS (Nat.le_of_ble_eq_true rfl) (Nat.le_of_ble_eq_true rfl) hlocks dX11_port_11 (shX, ad, IX, JX, PX ad) hW (by show _ = fr_port a1; unfold fr_port; split <;> first | rfl | (rename_i q; exfalso; simp only [Int32.lt_iff_toInt_lt, Int32.le_iff_toInt_le, ← Int32.toInt_inj, z_l0, z_l1, z_l50] at q h3 h3; omega))
theorem zi_X11_holder_X11 : ∀ w ∈ wsX110, w ∈ wsX11_holder := fun w h => (List.mem_cons_of_mem _ (List.mem_append_left _ (List.mem_append_right _ h)))
set_option maxHeartbeats 4000000 in
set_option maxRecDepth 100000 in
theorem ct_X11_holder (l : Launch) (G : z_G) (ad : Nat → Nat) (a1 : Int32) (a2 : Int32) (a3 : Int32) (a4 : Int32) (a5 : Int32) : z_M l yX11_holder wsX11_holder { frames := 2, cells := 0, slots := 0, locals := 37 } [.ref (ad 0), .int a1, .int a2, .int a3, .int a4, .int a5] G (shX, ad, IX, JX, PX ad) (fun r u1 => r = fr_holder a1 a2 a3 a4 a5) 0 0 := by
  intro sz
  refine z_headQ (cc := cX11_holder) (maxL := 6) (ret := (some .int)) (by decide) rfl (Nat.le_of_ble_eq_true rfl) ?_
  intro p e s m below meth c ls hIn hK hsz hW hl
  obtain ⟨hx, hb, hr, hml, hown, hts, hlocks, hname⟩ := hIn
  subst hsz
  have hown : s.vm.findClass RX11 = some m.cls := hown
  have hA : ∀ q : Nat, s.heap.size ≤ q → z_A (shX, ad, IX, JX, PX ad) s.heap.size q := fun q h => Or.inr h
  generalize hAe : z_A (shX, ad, IX, JX, PX ad) s.heap.size = A at *
  have hS : va_S A s.heap s.heap [] := va_S.rf
  have hl : lv_has ls 6 [(0, .ref (ad 0)), (1, .int a1), (2, .int a2), (3, .int a3), (4, .int a4), (5, .int a5)] := hl
  refine lv_iload_n hx hb dX11_holder_0 rfl (lv_at hl 1 rfl) ?_
  refine lv_iconst (v := 1) hx hb dX11_holder_1 (by decide) ?_
  refine lv_bipush (v := 9) hx hb dX11_holder_2 (by decide) ?_
  refine z_ci hW hS hA (va_runS (As := [.int a1, .int 1, .int 9]) (rest := []) ⟨hx, hb, hml, hown, hts⟩ (ct_X11_within l G (shX, ad, IX, JX, PX ad) a1 1 9 _) (va_cwS 3 hts gX11_holder_X11_within rfl rfl rfl (by decide +kernel) ⟨Nat.le_of_ble_eq_true rfl, Nat.le_of_ble_eq_true rfl⟩) (z_preS hK hW) rfl rfl hl.1 rfl (lv_room (Nat.le_of_ble_eq_true rfl)) dX11_holder_4 ⟨Nat.le_of_ble_eq_true rfl, Nat.le_of_ble_eq_true rfl⟩) (fun r u1 H locs hp hW hS => ?_)
  obtain ⟨e9, hp⟩ := hp
  rw [e9] at hW
  rcases hp with ⟨rfl, h1, h2⟩ | ⟨rfl, h3⟩
  · refine lv_if_eq (tgt := 30) hx hb dX11_holder_7 (by decide) (fun c4 => absurd c4 (by decide)) (fun c4 => ?_)
    refine lv_iload_n hx hb dX11_holder_10 rfl (lv_at hl 2 rfl) ?_
    refine lv_iconst (v := 0) hx hb dX11_holder_11 (by decide) ?_
    refine lv_bipush (v := 9) hx hb dX11_holder_12 (by decide) ?_
    refine z_ci hW hS hA (va_runS (As := [.int a2, .int 0, .int 9]) (rest := []) ⟨hx, hb, hml, hown, hts⟩ (ct_X11_within l G (shX, ad, IX, JX, PX ad) a2 0 9 _) (va_cwS 3 hts gX11_holder_X11_within rfl rfl rfl (by decide +kernel) ⟨Nat.le_of_ble_eq_true rfl, Nat.le_of_ble_eq_true rfl⟩) (z_preS hK hW) rfl rfl hl.1 rfl (lv_room (Nat.le_of_ble_eq_true rfl)) dX11_holder_14 ⟨Nat.le_of_ble_eq_true rfl, Nat.le_of_ble_eq_true rfl⟩) (fun r u1 H locs hp hW hS => ?_)
    obtain ⟨e9, hp⟩ := hp
    rw [e9] at hW
    rcases hp with ⟨rfl, h5, h6⟩ | ⟨rfl, h7⟩
    · refine lv_if_eq (tgt := 30) hx hb dX11_holder_17 (by decide) (fun c8 => absurd c8 (by decide)) (fun c8 => ?_)
      refine lv_iload_n hx hb dX11_holder_20 rfl (lv_at hl 3 rfl) ?_
      refine lv_iconst (v := 1) hx hb dX11_holder_21 (by decide) ?_
      refine lv_bipush (v := 8) hx hb dX11_holder_22 (by decide) ?_
      refine z_ci hW hS hA (va_runS (As := [.int a3, .int 1, .int 8]) (rest := []) ⟨hx, hb, hml, hown, hts⟩ (ct_X11_within l G (shX, ad, IX, JX, PX ad) a3 1 8 _) (va_cwS 3 hts gX11_holder_X11_within rfl rfl rfl (by decide +kernel) ⟨Nat.le_of_ble_eq_true rfl, Nat.le_of_ble_eq_true rfl⟩) (z_preS hK hW) rfl rfl hl.1 rfl (lv_room (Nat.le_of_ble_eq_true rfl)) dX11_holder_24 ⟨Nat.le_of_ble_eq_true rfl, Nat.le_of_ble_eq_true rfl⟩) (fun r u1 H locs hp hW hS => ?_)
      obtain ⟨e9, hp⟩ := hp
      rw [e9] at hW
      rcases hp with ⟨rfl, h9, h10⟩ | ⟨rfl, h11⟩
      · refine lv_if_ne (tgt := 32) hx hb dX11_holder_27 (by decide) (fun c12 => ?_) (fun c12 => absurd c12 (by decide))
        refine lv_iload hx hb dX11_holder_32 (lv_at hl 4 rfl) ?_
        refine lv_iconst (v := 0) hx hb dX11_holder_34 (by decide) ?_
        refine lv_sipush (v := 999) hx hb dX11_holder_35 (by decide) ?_
        refine z_ci hW hS hA (va_runS (As := [.int a4, .int 0, .int 999]) (rest := []) ⟨hx, hb, hml, hown, hts⟩ (ct_X11_within l G (shX, ad, IX, JX, PX ad) a4 0 999 _) (va_cwS 3 hts gX11_holder_X11_within rfl rfl rfl (by decide +kernel) ⟨Nat.le_of_ble_eq_true rfl, Nat.le_of_ble_eq_true rfl⟩) (z_preS hK hW) rfl rfl hl.1 rfl (lv_room (Nat.le_of_ble_eq_true rfl)) dX11_holder_38 ⟨Nat.le_of_ble_eq_true rfl, Nat.le_of_ble_eq_true rfl⟩) (fun r u1 H locs hp hW hS => ?_)
        obtain ⟨e9, hp⟩ := hp
        rw [e9] at hW
        rcases hp with ⟨rfl, h13, h14⟩ | ⟨rfl, h15⟩
        · refine lv_if_eq (tgt := 55) hx hb dX11_holder_41 (by decide) (fun c16 => absurd c16 (by decide)) (fun c16 => ?_)
          refine lv_iload hx hb dX11_holder_44 (lv_at hl 5 rfl) ?_
          refine lv_iconst (v := 0) hx hb dX11_holder_46 (by decide) ?_
          refine lv_bipush (v := 99) hx hb dX11_holder_47 (by decide) ?_
          refine z_ci hW hS hA (va_runS (As := [.int a5, .int 0, .int 99]) (rest := []) ⟨hx, hb, hml, hown, hts⟩ (ct_X11_within l G (shX, ad, IX, JX, PX ad) a5 0 99 _) (va_cwS 3 hts gX11_holder_X11_within rfl rfl rfl (by decide +kernel) ⟨Nat.le_of_ble_eq_true rfl, Nat.le_of_ble_eq_true rfl⟩) (z_preS hK hW) rfl rfl hl.1 rfl (lv_room (Nat.le_of_ble_eq_true rfl)) dX11_holder_49 ⟨Nat.le_of_ble_eq_true rfl, Nat.le_of_ble_eq_true rfl⟩) (fun r u1 H locs hp hW hS => ?_)
          obtain ⟨e9, hp⟩ := hp
          rw [e9] at hW
          rcases hp with ⟨rfl, h17, h18⟩ | ⟨rfl, h19⟩
          · refine lv_if_ne (tgt := 57) hx hb dX11_holder_52 (by decide) (fun c20 => ?_) (fun c20 => absurd c20 (by decide))
            refine lv_aload_n hx hb dX11_holder_57 rfl (lv_at hl 0 rfl) ?_
            refine z_get (T := TX11) (N := 13) (ci := 11) (i := 0) (v := .ref (ad 1)) hx hb hts zi_X11_holder_X11 hown hK hW rfl rfl 2 (by decide) (hts (.fieldLink RX11 16 "PetrolBoard" "holders" "LPetrolBoard$Holders;") (List.mem_of_getElem? (i := 1) rfl)) (fun _ h => h) rfl dX11_holder_58 ?_
            refine lv_iload_n hx hb dX11_holder_61 rfl (lv_at hl 1 rfl) ?_
            refine lv_iload_n hx hb dX11_holder_62 rfl (lv_at hl 2 rfl) ?_
            refine lv_iload_n hx hb dX11_holder_63 rfl (lv_at hl 3 rfl) ?_
            refine lv_iload hx hb dX11_holder_64 (lv_at hl 4 rfl) ?_
            refine lv_iload hx hb dX11_holder_66 (lv_at hl 5 rfl) ?_
            refine z_ci hW hS hA (va_runV (As := [.int a1, .int a2, .int a3, .int a4, .int a5]) (rest := []) ⟨hx, hb, hml, hown, hts⟩ (ct_X2_add l G ad a1 a2 a3 a4 a5 _) (cwV 5 hts gX11_holder_X2_add rfl rfl rfl (by decide +kernel) ⟨Nat.le_of_ble_eq_true rfl, Nat.le_of_ble_eq_true rfl⟩) (z_preV hK hW rfl rfl) rfl rfl hl.1 rfl (lv_room (Nat.le_of_ble_eq_true rfl)) dX11_holder_68 ⟨Nat.le_of_ble_eq_true rfl, Nat.le_of_ble_eq_true rfl⟩) (fun r u1 H locs hp hW hS => ?_)
            rw [hp]
            exact z_iret hx hb hr hK hS (Nat.le_of_ble_eq_true rfl) (Nat.le_of_ble_eq_true rfl) hlocks dX11_holder_71 u1 hW (by show _ = fr_holder a1 a2 a3 a4 a5; unfold fr_holder; split <;> first | rfl | (rename_i q; exfalso; simp only [Int32.lt_iff_toInt_lt, Int32.le_iff_toInt_le, ← Int32.toInt_inj, z_l0, z_l1, z_l8, z_l9, z_l99, z_l999] at q h1 h2 h5 h6 h9 h10 h13 h14 h17 h18; omega))
          · refine lv_if_ne (tgt := 57) hx hb dX11_holder_52 (by decide) (fun c21 => absurd (by decide) c21) (fun c21 => ?_)
            refine lv_iconst (v := (-1)) hx hb dX11_holder_55 (by decide) ?_
            exact z_iret hx hb hr hK hS (Nat.le_of_ble_eq_true rfl) (Nat.le_of_ble_eq_true rfl) hlocks dX11_holder_56 (shX, ad, IX, JX, PX ad) hW (by show _ = fr_holder a1 a2 a3 a4 a5; unfold fr_holder; split <;> first | rfl | (rename_i q; exfalso; simp only [Int32.lt_iff_toInt_lt, Int32.le_iff_toInt_le, ← Int32.toInt_inj, z_l0, z_l1, z_l8, z_l9, z_l99, z_l999] at q h1 h2 h5 h6 h9 h10 h13 h14 h19 h19; omega))
        · refine lv_if_eq (tgt := 55) hx hb dX11_holder_41 (by decide) (fun c22 => ?_) (fun c22 => absurd (by decide) c22)
          refine lv_iconst (v := (-1)) hx hb dX11_holder_55 (by decide) ?_
          exact z_iret hx hb hr hK hS (Nat.le_of_ble_eq_true rfl) (Nat.le_of_ble_eq_true rfl) hlocks dX11_holder_56 (shX, ad, IX, JX, PX ad) hW (by show _ = fr_holder a1 a2 a3 a4 a5; unfold fr_holder; split <;> first | rfl | (rename_i q; exfalso; simp only [Int32.lt_iff_toInt_lt, Int32.le_iff_toInt_le, ← Int32.toInt_inj, z_l0, z_l1, z_l8, z_l9, z_l99, z_l999] at q h1 h2 h5 h6 h9 h10 h15 h15; omega))
      · refine lv_if_ne (tgt := 32) hx hb dX11_holder_27 (by decide) (fun c23 => absurd (by decide) c23) (fun c23 => ?_)
        refine lv_iconst (v := (-1)) hx hb dX11_holder_30 (by decide) ?_
        exact z_iret hx hb hr hK hS (Nat.le_of_ble_eq_true rfl) (Nat.le_of_ble_eq_true rfl) hlocks dX11_holder_31 (shX, ad, IX, JX, PX ad) hW (by show _ = fr_holder a1 a2 a3 a4 a5; unfold fr_holder; split <;> first | rfl | (rename_i q; exfalso; simp only [Int32.lt_iff_toInt_lt, Int32.le_iff_toInt_le, ← Int32.toInt_inj, z_l0, z_l1, z_l8, z_l9, z_l99, z_l999] at q h1 h2 h5 h6 h11 h11; omega))
    · refine lv_if_eq (tgt := 30) hx hb dX11_holder_17 (by decide) (fun c24 => ?_) (fun c24 => absurd (by decide) c24)
      refine lv_iconst (v := (-1)) hx hb dX11_holder_30 (by decide) ?_
      exact z_iret hx hb hr hK hS (Nat.le_of_ble_eq_true rfl) (Nat.le_of_ble_eq_true rfl) hlocks dX11_holder_31 (shX, ad, IX, JX, PX ad) hW (by show _ = fr_holder a1 a2 a3 a4 a5; unfold fr_holder; split <;> first | rfl | (rename_i q; exfalso; simp only [Int32.lt_iff_toInt_lt, Int32.le_iff_toInt_le, ← Int32.toInt_inj, z_l0, z_l1, z_l8, z_l9, z_l99, z_l999] at q h1 h2 h7 h7; omega))
  · refine lv_if_eq (tgt := 30) hx hb dX11_holder_7 (by decide) (fun c25 => ?_) (fun c25 => absurd (by decide) c25)
    refine lv_iconst (v := (-1)) hx hb dX11_holder_30 (by decide) ?_
    exact z_iret hx hb hr hK hS (Nat.le_of_ble_eq_true rfl) (Nat.le_of_ble_eq_true rfl) hlocks dX11_holder_31 (shX, ad, IX, JX, PX ad) hW (by show _ = fr_holder a1 a2 a3 a4 a5; unfold fr_holder; split <;> first | rfl | (rename_i q; exfalso; simp only [Int32.lt_iff_toInt_lt, Int32.le_iff_toInt_le, ← Int32.toInt_inj, z_l0, z_l1, z_l8, z_l9, z_l99, z_l999] at q h3 h3; omega))
theorem zi_X11_count_X0 : ∀ w ∈ wsX00, w ∈ wsX11_count := fun w h => (List.mem_cons_of_mem _ (List.mem_append_left _ (List.mem_append_left _ (List.mem_append_left _ (List.mem_append_left _ (List.mem_append_right _ h))))))
theorem zi_X11_count_X2 : ∀ w ∈ wsX20, w ∈ wsX11_count := fun w h => (List.mem_cons_of_mem _ (List.mem_append_left _ (List.mem_append_left _ (List.mem_append_left _ (List.mem_append_left _ (List.mem_append_left _ (List.mem_append_left _ (List.mem_append_right _ h))))))))
theorem zi_X11_count_X3 : ∀ w ∈ wsX30, w ∈ wsX11_count := fun w h => (List.mem_cons_of_mem _ (List.mem_append_left _ (List.mem_append_right _ h)))
theorem zi_X11_count_X4 : ∀ w ∈ wsX40, w ∈ wsX11_count := fun w h => (List.mem_cons_of_mem _ (List.mem_append_left _ (List.mem_append_left _ (List.mem_append_right _ h))))
theorem zi_X11_count_X6 : ∀ w ∈ wsX60, w ∈ wsX11_count := fun w h => (List.mem_cons_of_mem _ (List.mem_append_left _ (List.mem_append_left _ (List.mem_append_left _ (List.mem_append_left _ (List.mem_append_left _ (List.mem_append_right _ h)))))))
theorem zi_X11_count_X8 : ∀ w ∈ wsX80, w ∈ wsX11_count := fun w h => (List.mem_cons_of_mem _ (List.mem_append_left _ (List.mem_append_left _ (List.mem_append_left _ (List.mem_append_right _ h)))))
theorem zi_X11_count_X9 : ∀ w ∈ wsX90, w ∈ wsX11_count := fun w h => (List.mem_cons_of_mem _ (List.mem_append_right _ h))
theorem zi_X11_count_X11 : ∀ w ∈ wsX110, w ∈ wsX11_count := fun w h => (List.mem_cons_of_mem _ (List.mem_append_left _ (List.mem_append_left _ (List.mem_append_left _ (List.mem_append_left _ (List.mem_append_left _ (List.mem_append_left _ (List.mem_append_left _ (List.mem_append_right _ h)))))))))
set_option maxHeartbeats 4000000 in
set_option maxRecDepth 100000 in
theorem ct_X11_count (l : Launch) (G : z_G) (ad : Nat → Nat) (a1 : Int32) : z_M l yX11_count wsX11_count { frames := 2, cells := 0, slots := 0, locals := 34 } [.ref (ad 0), .int a1] G (shX, ad, IX, JX, PX ad) (fun r u1 => r = fr_count a1) 0 0 := by
  intro sz
  refine z_headQ (cc := cX11_count) (maxL := 2) (ret := (some .int)) (by decide) rfl (Nat.le_of_ble_eq_true rfl) ?_
  intro p e s m below meth c ls hIn hK hsz hW hl
  obtain ⟨hx, hb, hr, hml, hown, hts, hlocks, hname⟩ := hIn
  subst hsz
  have hown : s.vm.findClass RX11 = some m.cls := hown
  have hA : ∀ q : Nat, s.heap.size ≤ q → z_A (shX, ad, IX, JX, PX ad) s.heap.size q := fun q h => Or.inr h
  generalize hAe : z_A (shX, ad, IX, JX, PX ad) s.heap.size = A at *
  have hS : va_S A s.heap s.heap [] := va_S.rf
  have hl : lv_has ls 2 [(0, .ref (ad 0)), (1, .int a1)] := hl
  refine lv_iload_n hx hb dX11_count_0 rfl (lv_at hl 1 rfl) ?_
  by_cases q1 : a1 = 0
  · refine lv_tableIn (tgt := 68) hx hb dX11_count_1 (by rw [q1]; decide) (by rw [q1]; decide) (by rw [q1]; rfl) (by decide) ?_
    refine lv_aload_n hx hb dX11_count_68 rfl (lv_at hl 0 rfl) ?_
    refine z_get (T := TX11) (N := 13) (ci := 11) (i := 0) (v := .int 0) hx hb hts zi_X11_count_X11 hown hK hW rfl rfl 0 (by decide) (hts (.fieldLink RX11 85 "PetrolBoard" "today" "I") (List.mem_of_getElem? (i := 1) rfl)) (fun _ h => h) rfl dX11_count_69 ?_
    exact z_iret hx hb hr hK hS (Nat.le_of_ble_eq_true rfl) (Nat.le_of_ble_eq_true rfl) hlocks dX11_count_72 (shX, ad, IX, JX, PX ad) hW (by show _ = fr_count a1; unfold fr_count; split <;> first | rfl | (rename_i q; exfalso; simp only [Int32.lt_iff_toInt_lt, Int32.le_iff_toInt_le, ← Int32.toInt_inj, z_l0, z_l1, z_l2, z_l3, z_l4, z_l5, z_l6, z_l7, z_l8, z_l9, z_l10, z_l11, z_l12] at q q1; omega))
  by_cases q2 : a1 = 1
  · refine lv_tableIn (tgt := 73) hx hb dX11_count_1 (by rw [q2]; decide) (by rw [q2]; decide) (by rw [q2]; rfl) (by decide) ?_
    refine lv_aload_n hx hb dX11_count_73 rfl (lv_at hl 0 rfl) ?_
    refine z_get (T := TX11) (N := 13) (ci := 11) (i := 0) (v := .ref (ad 1)) hx hb hts zi_X11_count_X11 hown hK hW rfl rfl 2 (by decide) (hts (.fieldLink RX11 16 "PetrolBoard" "holders" "LPetrolBoard$Holders;") (List.mem_of_getElem? (i := 2) rfl)) (fun _ h => h) rfl dX11_count_74 ?_
    refine z_get (T := TX2) (N := 12) (ci := 2) (i := 1) (v := .int 0) hx hb hts zi_X11_count_X2 hown hK hW rfl rfl 5 (by decide) (hts (.fieldLink RX11 373 "PetrolBoard$Holders" "number" "I") (List.mem_of_getElem? (i := 3) rfl)) (fun _ h => h) rfl dX11_count_77 ?_
    exact z_iret hx hb hr hK hS (Nat.le_of_ble_eq_true rfl) (Nat.le_of_ble_eq_true rfl) hlocks dX11_count_80 (shX, ad, IX, JX, PX ad) hW (by show _ = fr_count a1; unfold fr_count; split <;> first | rfl | (rename_i q; exfalso; simp only [Int32.lt_iff_toInt_lt, Int32.le_iff_toInt_le, ← Int32.toInt_inj, z_l0, z_l1, z_l2, z_l3, z_l4, z_l5, z_l6, z_l7, z_l8, z_l9, z_l10, z_l11, z_l12] at q q1 q2; omega))
  by_cases q3 : a1 = 2
  · refine lv_tableIn (tgt := 81) hx hb dX11_count_1 (by rw [q3]; decide) (by rw [q3]; decide) (by rw [q3]; rfl) (by decide) ?_
    refine lv_aload_n hx hb dX11_count_81 rfl (lv_at hl 0 rfl) ?_
    refine z_get (T := TX11) (N := 13) (ci := 11) (i := 0) (v := .ref (ad 1)) hx hb hts zi_X11_count_X11 hown hK hW rfl rfl 2 (by decide) (hts (.fieldLink RX11 16 "PetrolBoard" "holders" "LPetrolBoard$Holders;") (List.mem_of_getElem? (i := 2) rfl)) (fun _ h => h) rfl dX11_count_82 ?_
    refine z_get (T := TX2) (N := 12) (ci := 2) (i := 1) (v := .int 0) hx hb hts zi_X11_count_X2 hown hK hW rfl rfl 11 (by decide) (hts (.fieldLink RX11 407 "PetrolBoard$Holders" "notes" "I") (List.mem_of_getElem? (i := 4) rfl)) (fun _ h => h) rfl dX11_count_85 ?_
    exact z_iret hx hb hr hK hS (Nat.le_of_ble_eq_true rfl) (Nat.le_of_ble_eq_true rfl) hlocks dX11_count_88 (shX, ad, IX, JX, PX ad) hW (by show _ = fr_count a1; unfold fr_count; split <;> first | rfl | (rename_i q; exfalso; simp only [Int32.lt_iff_toInt_lt, Int32.le_iff_toInt_le, ← Int32.toInt_inj, z_l0, z_l1, z_l2, z_l3, z_l4, z_l5, z_l6, z_l7, z_l8, z_l9, z_l10, z_l11, z_l12] at q q1 q2 q3; omega))
  by_cases q4 : a1 = 3
  · refine lv_tableIn (tgt := 89) hx hb dX11_count_1 (by rw [q4]; decide) (by rw [q4]; decide) (by rw [q4]; rfl) (by decide) ?_
    refine lv_aload_n hx hb dX11_count_89 rfl (lv_at hl 0 rfl) ?_
    refine z_get (T := TX11) (N := 13) (ci := 11) (i := 0) (v := .ref (ad 21)) hx hb hts zi_X11_count_X11 hown hK hW rfl rfl 4 (by decide) (hts (.fieldLink RX11 30 "PetrolBoard" "orderBook" "LPetrolBoard$OrderBook;") (List.mem_of_getElem? (i := 5) rfl)) (fun _ h => h) rfl dX11_count_90 ?_
    refine z_get (T := TX6) (N := 3) (ci := 6) (i := 21) (v := .int 0) hx hb hts zi_X11_count_X6 hown hK hW rfl rfl 2 (by decide) (hts (.fieldLink RX11 125 "PetrolBoard$OrderBook" "number" "I") (List.mem_of_getElem? (i := 6) rfl)) (fun _ h => h) rfl dX11_count_93 ?_
    exact z_iret hx hb hr hK hS (Nat.le_of_ble_eq_true rfl) (Nat.le_of_ble_eq_true rfl) hlocks dX11_count_96 (shX, ad, IX, JX, PX ad) hW (by show _ = fr_count a1; unfold fr_count; split <;> first | rfl | (rename_i q; exfalso; simp only [Int32.lt_iff_toInt_lt, Int32.le_iff_toInt_le, ← Int32.toInt_inj, z_l0, z_l1, z_l2, z_l3, z_l4, z_l5, z_l6, z_l7, z_l8, z_l9, z_l10, z_l11, z_l12] at q q1 q2 q3 q4; omega))
  by_cases q5 : a1 = 4
  · refine lv_tableIn (tgt := 97) hx hb dX11_count_1 (by rw [q5]; decide) (by rw [q5]; decide) (by rw [q5]; rfl) (by decide) ?_
    refine lv_aload_n hx hb dX11_count_97 rfl (lv_at hl 0 rfl) ?_
    refine z_get (T := TX11) (N := 13) (ci := 11) (i := 0) (v := .ref (ad 26)) hx hb hts zi_X11_count_X11 hown hK hW rfl rfl 5 (by decide) (hts (.fieldLink RX11 37 "PetrolBoard" "coupons" "LPetrolBoard$Coupons;") (List.mem_of_getElem? (i := 7) rfl)) (fun _ h => h) rfl dX11_count_98 ?_
    refine z_get (T := TX0) (N := 5) (ci := 0) (i := 26) (v := .int 0) hx hb hts zi_X11_count_X0 hown hK hW rfl rfl 3 (by decide) (hts (.fieldLink RX11 410 "PetrolBoard$Coupons" "books" "I") (List.mem_of_getElem? (i := 8) rfl)) (fun _ h => h) rfl dX11_count_101 ?_
    exact z_iret hx hb hr hK hS (Nat.le_of_ble_eq_true rfl) (Nat.le_of_ble_eq_true rfl) hlocks dX11_count_104 (shX, ad, IX, JX, PX ad) hW (by show _ = fr_count a1; unfold fr_count; split <;> first | rfl | (rename_i q; exfalso; simp only [Int32.lt_iff_toInt_lt, Int32.le_iff_toInt_le, ← Int32.toInt_inj, z_l0, z_l1, z_l2, z_l3, z_l4, z_l5, z_l6, z_l7, z_l8, z_l9, z_l10, z_l11, z_l12] at q q1 q2 q3 q4 q5; omega))
  by_cases q6 : a1 = 5
  · refine lv_tableIn (tgt := 105) hx hb dX11_count_1 (by rw [q6]; decide) (by rw [q6]; decide) (by rw [q6]; rfl) (by decide) ?_
    refine lv_aload_n hx hb dX11_count_105 rfl (lv_at hl 0 rfl) ?_
    refine z_get (T := TX11) (N := 13) (ci := 11) (i := 0) (v := .int 0) hx hb hts zi_X11_count_X11 hown hK hW rfl rfl 8 (by decide) (hts (.fieldLink RX11 178 "PetrolBoard" "stationNumber" "I") (List.mem_of_getElem? (i := 9) rfl)) (fun _ h => h) rfl dX11_count_106 ?_
    exact z_iret hx hb hr hK hS (Nat.le_of_ble_eq_true rfl) (Nat.le_of_ble_eq_true rfl) hlocks dX11_count_109 (shX, ad, IX, JX, PX ad) hW (by show _ = fr_count a1; unfold fr_count; split <;> first | rfl | (rename_i q; exfalso; simp only [Int32.lt_iff_toInt_lt, Int32.le_iff_toInt_le, ← Int32.toInt_inj, z_l0, z_l1, z_l2, z_l3, z_l4, z_l5, z_l6, z_l7, z_l8, z_l9, z_l10, z_l11, z_l12] at q q1 q2 q3 q4 q5 q6; omega))
  by_cases q7 : a1 = 6
  · refine lv_tableIn (tgt := 110) hx hb dX11_count_1 (by rw [q7]; decide) (by rw [q7]; decide) (by rw [q7]; rfl) (by decide) ?_
    refine lv_aload_n hx hb dX11_count_110 rfl (lv_at hl 0 rfl) ?_
    refine z_get (T := TX11) (N := 13) (ci := 11) (i := 0) (v := .ref (ad 30)) hx hb hts zi_X11_count_X11 hown hK hW rfl rfl 6 (by decide) (hts (.fieldLink RX11 44 "PetrolBoard" "pours" "LPetrolBoard$Pours;") (List.mem_of_getElem? (i := 10) rfl)) (fun _ h => h) rfl dX11_count_111 ?_
    refine z_get (T := TX8) (N := 9) (ci := 8) (i := 30) (v := .int 0) hx hb hts zi_X11_count_X8 hown hK hW rfl rfl 8 (by decide) (hts (.fieldLink RX11 201 "PetrolBoard$Pours" "number" "I") (List.mem_of_getElem? (i := 11) rfl)) (fun _ h => h) rfl dX11_count_114 ?_
    exact z_iret hx hb hr hK hS (Nat.le_of_ble_eq_true rfl) (Nat.le_of_ble_eq_true rfl) hlocks dX11_count_117 (shX, ad, IX, JX, PX ad) hW (by show _ = fr_count a1; unfold fr_count; split <;> first | rfl | (rename_i q; exfalso; simp only [Int32.lt_iff_toInt_lt, Int32.le_iff_toInt_le, ← Int32.toInt_inj, z_l0, z_l1, z_l2, z_l3, z_l4, z_l5, z_l6, z_l7, z_l8, z_l9, z_l10, z_l11, z_l12] at q q1 q2 q3 q4 q5 q6 q7; omega))
  by_cases q8 : a1 = 7
  · refine lv_tableIn (tgt := 118) hx hb dX11_count_1 (by rw [q8]; decide) (by rw [q8]; decide) (by rw [q8]; rfl) (by decide) ?_
    refine lv_aload_n hx hb dX11_count_118 rfl (lv_at hl 0 rfl) ?_
    refine z_get (T := TX11) (N := 13) (ci := 11) (i := 0) (v := .ref (ad 30)) hx hb hts zi_X11_count_X11 hown hK hW rfl rfl 6 (by decide) (hts (.fieldLink RX11 44 "PetrolBoard" "pours" "LPetrolBoard$Pours;") (List.mem_of_getElem? (i := 10) rfl)) (fun _ h => h) rfl dX11_count_119 ?_
    refine z_ci hW hS hA (va_runV (As := []) (rest := []) ⟨hx, hb, hml, hown, hts⟩ (ct_X8_judgedGood l G ad  _) (cwV 0 hts gX11_count_X8_judgedGood rfl rfl rfl (by decide +kernel) ⟨Nat.le_of_ble_eq_true rfl, Nat.le_of_ble_eq_true rfl⟩) (z_preV hK hW rfl rfl) rfl rfl hl.1 rfl (lv_room (Nat.le_of_ble_eq_true rfl)) dX11_count_122 ⟨Nat.le_of_ble_eq_true rfl, Nat.le_of_ble_eq_true rfl⟩) (fun r u1 H locs hp hW hS => ?_)
    obtain ⟨e9, rfl⟩ := hp
    rw [e9] at hW
    exact z_iret hx hb hr hK hS (Nat.le_of_ble_eq_true rfl) (Nat.le_of_ble_eq_true rfl) hlocks dX11_count_125 (shX, ad, IX, JX, PX ad) hW (by show _ = fr_count a1; unfold fr_count; split <;> first | rfl | (rename_i q; exfalso; simp only [Int32.lt_iff_toInt_lt, Int32.le_iff_toInt_le, ← Int32.toInt_inj, z_l0, z_l1, z_l2, z_l3, z_l4, z_l5, z_l6, z_l7, z_l8, z_l9, z_l10, z_l11, z_l12] at q q1 q2 q3 q4 q5 q6 q7 q8; omega))
  by_cases q9 : a1 = 8
  · refine lv_tableIn (tgt := 126) hx hb dX11_count_1 (by rw [q9]; decide) (by rw [q9]; decide) (by rw [q9]; rfl) (by decide) ?_
    refine lv_aload_n hx hb dX11_count_126 rfl (lv_at hl 0 rfl) ?_
    refine z_get (T := TX11) (N := 13) (ci := 11) (i := 0) (v := .ref (ad 30)) hx hb hts zi_X11_count_X11 hown hK hW rfl rfl 6 (by decide) (hts (.fieldLink RX11 44 "PetrolBoard" "pours" "LPetrolBoard$Pours;") (List.mem_of_getElem? (i := 10) rfl)) (fun _ h => h) rfl dX11_count_127 ?_
    refine z_ci hW hS hA (va_runV (As := []) (rest := []) ⟨hx, hb, hml, hown, hts⟩ (ct_X8_judgedOtherwise l G ad  _) (cwV 0 hts gX11_count_X8_judgedOtherwise rfl rfl rfl (by decide +kernel) ⟨Nat.le_of_ble_eq_true rfl, Nat.le_of_ble_eq_true rfl⟩) (z_preV hK hW rfl rfl) rfl rfl hl.1 rfl (lv_room (Nat.le_of_ble_eq_true rfl)) dX11_count_130 ⟨Nat.le_of_ble_eq_true rfl, Nat.le_of_ble_eq_true rfl⟩) (fun r u1 H locs hp hW hS => ?_)
    obtain ⟨e9, rfl⟩ := hp
    rw [e9] at hW
    exact z_iret hx hb hr hK hS (Nat.le_of_ble_eq_true rfl) (Nat.le_of_ble_eq_true rfl) hlocks dX11_count_133 (shX, ad, IX, JX, PX ad) hW (by show _ = fr_count a1; unfold fr_count; split <;> first | rfl | (rename_i q; exfalso; simp only [Int32.lt_iff_toInt_lt, Int32.le_iff_toInt_le, ← Int32.toInt_inj, z_l0, z_l1, z_l2, z_l3, z_l4, z_l5, z_l6, z_l7, z_l8, z_l9, z_l10, z_l11, z_l12] at q q1 q2 q3 q4 q5 q6 q7 q8 q9; omega))
  by_cases q10 : a1 = 9
  · refine lv_tableIn (tgt := 134) hx hb dX11_count_1 (by rw [q10]; decide) (by rw [q10]; decide) (by rw [q10]; rfl) (by decide) ?_
    refine lv_aload_n hx hb dX11_count_134 rfl (lv_at hl 0 rfl) ?_
    refine z_get (T := TX11) (N := 13) (ci := 11) (i := 0) (v := .ref (ad 26)) hx hb hts zi_X11_count_X11 hown hK hW rfl rfl 5 (by decide) (hts (.fieldLink RX11 37 "PetrolBoard" "coupons" "LPetrolBoard$Coupons;") (List.mem_of_getElem? (i := 7) rfl)) (fun _ h => h) rfl dX11_count_135 ?_
    refine z_get (T := TX0) (N := 5) (ci := 0) (i := 26) (v := .int 0) hx hb hts zi_X11_count_X0 hown hK hW rfl rfl 4 (by decide) (hts (.fieldLink RX11 419 "PetrolBoard$Coupons" "lentNumber" "I") (List.mem_of_getElem? (i := 12) rfl)) (fun _ h => h) rfl dX11_count_138 ?_
    exact z_iret hx hb hr hK hS (Nat.le_of_ble_eq_true rfl) (Nat.le_of_ble_eq_true rfl) hlocks dX11_count_141 (shX, ad, IX, JX, PX ad) hW (by show _ = fr_count a1; unfold fr_count; split <;> first | rfl | (rename_i q; exfalso; simp only [Int32.lt_iff_toInt_lt, Int32.le_iff_toInt_le, ← Int32.toInt_inj, z_l0, z_l1, z_l2, z_l3, z_l4, z_l5, z_l6, z_l7, z_l8, z_l9, z_l10, z_l11, z_l12] at q q1 q2 q3 q4 q5 q6 q7 q8 q9 q10; omega))
  by_cases q11 : a1 = 10
  · refine lv_tableIn (tgt := 142) hx hb dX11_count_1 (by rw [q11]; decide) (by rw [q11]; decide) (by rw [q11]; rfl) (by decide) ?_
    refine lv_aload_n hx hb dX11_count_142 rfl (lv_at hl 0 rfl) ?_
    refine z_get (T := TX11) (N := 13) (ci := 11) (i := 0) (v := .ref (ad 41)) hx hb hts zi_X11_count_X11 hown hK hW rfl rfl 10 (by decide) (hts (.fieldLink RX11 61 "PetrolBoard" "loads" "LPetrolBoard$Loads;") (List.mem_of_getElem? (i := 13) rfl)) (fun _ h => h) rfl dX11_count_143 ?_
    refine z_get (T := TX4) (N := 13) (ci := 4) (i := 41) (v := .int 0) hx hb hts zi_X11_count_X4 hown hK hW rfl rfl 10 (by decide) (hts (.fieldLink RX11 422 "PetrolBoard$Loads" "ports" "I") (List.mem_of_getElem? (i := 14) rfl)) (fun _ h => h) rfl dX11_count_146 ?_
    exact z_iret hx hb hr hK hS (Nat.le_of_ble_eq_true rfl) (Nat.le_of_ble_eq_true rfl) hlocks dX11_count_149 (shX, ad, IX, JX, PX ad) hW (by show _ = fr_count a1; unfold fr_count; split <;> first | rfl | (rename_i q; exfalso; simp only [Int32.lt_iff_toInt_lt, Int32.le_iff_toInt_le, ← Int32.toInt_inj, z_l0, z_l1, z_l2, z_l3, z_l4, z_l5, z_l6, z_l7, z_l8, z_l9, z_l10, z_l11, z_l12] at q q1 q2 q3 q4 q5 q6 q7 q8 q9 q10 q11; omega))
  by_cases q12 : a1 = 11
  · refine lv_tableIn (tgt := 150) hx hb dX11_count_1 (by rw [q12]; decide) (by rw [q12]; decide) (by rw [q12]; rfl) (by decide) ?_
    refine lv_aload_n hx hb dX11_count_150 rfl (lv_at hl 0 rfl) ?_
    refine z_get (T := TX11) (N := 13) (ci := 11) (i := 0) (v := .ref (ad 60)) hx hb hts zi_X11_count_X11 hown hK hW rfl rfl 11 (by decide) (hts (.fieldLink RX11 68 "PetrolBoard" "journeys" "LPetrolBoard$Journeys;") (List.mem_of_getElem? (i := 15) rfl)) (fun _ h => h) rfl dX11_count_151 ?_
    refine z_get (T := TX3) (N := 17) (ci := 3) (i := 60) (v := .int 0) hx hb hts zi_X11_count_X3 hown hK hW rfl rfl 9 (by decide) (hts (.fieldLink RX11 425 "PetrolBoard$Journeys" "number" "I") (List.mem_of_getElem? (i := 16) rfl)) (fun _ h => h) rfl dX11_count_154 ?_
    exact z_iret hx hb hr hK hS (Nat.le_of_ble_eq_true rfl) (Nat.le_of_ble_eq_true rfl) hlocks dX11_count_157 (shX, ad, IX, JX, PX ad) hW (by show _ = fr_count a1; unfold fr_count; split <;> first | rfl | (rename_i q; exfalso; simp only [Int32.lt_iff_toInt_lt, Int32.le_iff_toInt_le, ← Int32.toInt_inj, z_l0, z_l1, z_l2, z_l3, z_l4, z_l5, z_l6, z_l7, z_l8, z_l9, z_l10, z_l11, z_l12] at q q1 q2 q3 q4 q5 q6 q7 q8 q9 q10 q11 q12; omega))
  by_cases q13 : a1 = 12
  · refine lv_tableIn (tgt := 158) hx hb dX11_count_1 (by rw [q13]; decide) (by rw [q13]; decide) (by rw [q13]; rfl) (by decide) ?_
    refine lv_aload_n hx hb dX11_count_158 rfl (lv_at hl 0 rfl) ?_
    refine z_get (T := TX11) (N := 13) (ci := 11) (i := 0) (v := .ref (ad 12)) hx hb hts zi_X11_count_X11 hown hK hW rfl rfl 3 (by decide) (hts (.fieldLink RX11 23 "PetrolBoard" "reader" "LPetrolBoard$Reader;") (List.mem_of_getElem? (i := 17) rfl)) (fun _ h => h) rfl dX11_count_159 ?_
    refine z_get (T := TX9) (N := 14) (ci := 9) (i := 12) (v := .int 0) hx hb hts zi_X11_count_X9 hown hK hW rfl rfl 1 (by decide) (hts (.fieldLink RX11 115 "PetrolBoard$Reader" "taped" "I") (List.mem_of_getElem? (i := 18) rfl)) (fun _ h => h) rfl dX11_count_162 ?_
    exact z_iret hx hb hr hK hS (Nat.le_of_ble_eq_true rfl) (Nat.le_of_ble_eq_true rfl) hlocks dX11_count_165 (shX, ad, IX, JX, PX ad) hW (by show _ = fr_count a1; unfold fr_count; split <;> first | rfl | (rename_i q; exfalso; simp only [Int32.lt_iff_toInt_lt, Int32.le_iff_toInt_le, ← Int32.toInt_inj, z_l0, z_l1, z_l2, z_l3, z_l4, z_l5, z_l6, z_l7, z_l8, z_l9, z_l10, z_l11, z_l12] at q q1 q2 q3 q4 q5 q6 q7 q8 q9 q10 q11 q12 q13; omega))
  refine lv_tableOut (tgt := 166) hx hb dX11_count_1 (by simp only [← Int32.toInt_inj, z_l0, z_l1, z_l2, z_l3, z_l4, z_l5, z_l6, z_l7, z_l8, z_l9, z_l10, z_l11, z_l12] at q1 q2 q3 q4 q5 q6 q7 q8 q9 q10 q11 q12 q13; omega) (by decide) ?_
  refine lv_iconst (v := (-1)) hx hb dX11_count_166 (by decide) ?_
  exact z_iret hx hb hr hK hS (Nat.le_of_ble_eq_true rfl) (Nat.le_of_ble_eq_true rfl) hlocks dX11_count_167 (shX, ad, IX, JX, PX ad) hW (by show _ = fr_count a1; unfold fr_count; split <;> first | rfl | (rename_i q; exfalso; simp only [Int32.lt_iff_toInt_lt, Int32.le_iff_toInt_le, ← Int32.toInt_inj, z_l0, z_l1, z_l2, z_l3, z_l4, z_l5, z_l6, z_l7, z_l8, z_l9, z_l10, z_l11, z_l12] at q q1 q2 q3 q4 q5 q6 q7 q8 q9 q10 q11 q12 q13; omega))
theorem zi_X11_other_X11 : ∀ w ∈ wsX110, w ∈ wsX11_other := fun w h => (List.mem_cons_of_mem _ (List.mem_append_left _ (List.mem_append_left _ (List.mem_append_left _ (List.mem_append_left _ (List.mem_append_left _ (List.mem_append_right _ h)))))))
set_option maxHeartbeats 4000000 in
set_option maxRecDepth 100000 in
theorem ct_X11_other (l : Launch) (G : z_G) (ad : Nat → Nat) (a1 : Int32) (a2 : Int32) (a3 : Int32) (a4 : Int32) : z_M l yX11_other wsX11_other { frames := 3, cells := 0, slots := 0, locals := 54 } [.ref (ad 0), .int a1, .int a2, .int a3, .int a4] G (shX, ad, IX, JX, PX ad) (fun r u1 => r = (-1)) 0 0 := by
  intro sz
  refine z_headQ (cc := cX11_other) (maxL := 5) (ret := (some .int)) (by decide) rfl (Nat.le_of_ble_eq_true rfl) ?_
  intro p e s m below meth c ls hIn hK hsz hW hl
  obtain ⟨hx, hb, hr, hml, hown, hts, hlocks, hname⟩ := hIn
  subst hsz
  have hown : s.vm.findClass RX11 = some m.cls := hown
  have hA : ∀ q : Nat, s.heap.size ≤ q → z_A (shX, ad, IX, JX, PX ad) s.heap.size q := fun q h => Or.inr h
  generalize hAe : z_A (shX, ad, IX, JX, PX ad) s.heap.size = A at *
  have hS : va_S A s.heap s.heap [] := va_S.rf
  have hl : lv_has ls 5 [(0, .ref (ad 0)), (1, .int a1), (2, .int a2), (3, .int a3), (4, .int a4)] := hl
  refine lv_iload_n hx hb dX11_other_0 rfl (lv_at hl 1 rfl) ?_
  refine lv_iconst (v := 0) hx hb dX11_other_1 (by decide) ?_
  refine lv_iconst (v := 2) hx hb dX11_other_2 (by decide) ?_
  refine z_ci hW hS hA (va_runS (As := [.int a1, .int 0, .int 2]) (rest := []) ⟨hx, hb, hml, hown, hts⟩ (ct_X11_within l G (shX, ad, IX, JX, PX ad) a1 0 2 _) (va_cwS 3 hts gX11_other_X11_within rfl rfl rfl (by decide +kernel) ⟨Nat.le_of_ble_eq_true rfl, Nat.le_of_ble_eq_true rfl⟩) (z_preS hK hW) rfl rfl hl.1 rfl (lv_room (Nat.le_of_ble_eq_true rfl)) dX11_other_3 ⟨Nat.le_of_ble_eq_true rfl, Nat.le_of_ble_eq_true rfl⟩) (fun r u1 H locs hp hW hS => ?_)
  obtain ⟨e9, hp⟩ := hp
  rw [e9] at hW
  rcases hp with ⟨rfl, h1, h2⟩ | ⟨rfl, h3⟩
  · refine lv_if_eq (tgt := 37) hx hb dX11_other_6 (by decide) (fun c4 => absurd c4 (by decide)) (fun c4 => ?_)
    refine lv_iload_n hx hb dX11_other_9 rfl (lv_at hl 2 rfl) ?_
    refine z_ci hW hS hA (va_runS (As := [.int a2]) (rest := []) ⟨hx, hb, hml, hown, hts⟩ (ct_X11_isMonth l G (shX, ad, IX, JX, PX ad) a2 _) (va_cwS 1 hts gX11_other_X11_isMonth rfl rfl rfl (by decide +kernel) ⟨Nat.le_of_ble_eq_true rfl, Nat.le_of_ble_eq_true rfl⟩) (z_preS hK hW) rfl rfl hl.1 rfl (lv_room (Nat.le_of_ble_eq_true rfl)) dX11_other_10 ⟨Nat.le_of_ble_eq_true rfl, Nat.le_of_ble_eq_true rfl⟩) (fun r u1 H locs hp hW hS => ?_)
    obtain ⟨e9, hp⟩ := hp
    rw [e9] at hW
    rcases hp with ⟨rfl, h5, h6⟩ | ⟨rfl, h7⟩
    · refine lv_if_eq (tgt := 37) hx hb dX11_other_13 (by decide) (fun c8 => absurd c8 (by decide)) (fun c8 => ?_)
      refine lv_aload_n hx hb dX11_other_16 rfl (lv_at hl 0 rfl) ?_
      refine z_get (T := TX11) (N := 13) (ci := 11) (i := 0) (v := .ref (ad 1)) hx hb hts zi_X11_other_X11 hown hK hW rfl rfl 2 (by decide) (hts (.fieldLink RX11 16 "PetrolBoard" "holders" "LPetrolBoard$Holders;") (List.mem_of_getElem? (i := 1) rfl)) (fun _ h => h) rfl dX11_other_17 ?_
      refine lv_iload_n hx hb dX11_other_20 rfl (lv_at hl 3 rfl) ?_
      refine z_ci hW hS hA (va_runV (As := [.int a3]) (rest := []) ⟨hx, hb, hml, hown, hts⟩ (ct_X2_has l G ad a3 _) (cwV 1 hts gX11_other_X2_has rfl rfl rfl (by decide +kernel) ⟨Nat.le_of_ble_eq_true rfl, Nat.le_of_ble_eq_true rfl⟩) (z_preV hK hW rfl rfl) rfl rfl hl.1 rfl (lv_room (Nat.le_of_ble_eq_true rfl)) dX11_other_21 ⟨Nat.le_of_ble_eq_true rfl, Nat.le_of_ble_eq_true rfl⟩) (fun r u1 H locs hp hW hS => ?_)
      obtain ⟨e9, rfl⟩ := hp
      rw [e9] at hW
      refine lv_if_eq (tgt := 37) hx hb dX11_other_24 (by decide) (fun c9 => ?_) (fun c9 => absurd (by decide) c9)
      refine lv_iconst (v := (-1)) hx hb dX11_other_37 (by decide) ?_
      exact z_iret hx hb hr hK hS (Nat.le_of_ble_eq_true rfl) (Nat.le_of_ble_eq_true rfl) hlocks dX11_other_38 (shX, ad, IX, JX, PX ad) hW rfl
    · refine lv_if_eq (tgt := 37) hx hb dX11_other_13 (by decide) (fun c10 => ?_) (fun c10 => absurd (by decide) c10)
      refine lv_iconst (v := (-1)) hx hb dX11_other_37 (by decide) ?_
      exact z_iret hx hb hr hK hS (Nat.le_of_ble_eq_true rfl) (Nat.le_of_ble_eq_true rfl) hlocks dX11_other_38 (shX, ad, IX, JX, PX ad) hW rfl
  · refine lv_if_eq (tgt := 37) hx hb dX11_other_6 (by decide) (fun c11 => ?_) (fun c11 => absurd (by decide) c11)
    refine lv_iconst (v := (-1)) hx hb dX11_other_37 (by decide) ?_
    exact z_iret hx hb hr hK hS (Nat.le_of_ble_eq_true rfl) (Nat.le_of_ble_eq_true rfl) hlocks dX11_other_38 (shX, ad, IX, JX, PX ad) hW rfl
theorem zi_X11_poured_X11 : ∀ w ∈ wsX110, w ∈ wsX11_poured := fun w h => (List.mem_cons_of_mem _ (List.mem_append_left _ (List.mem_append_right _ h)))
set_option maxHeartbeats 4000000 in
set_option maxRecDepth 100000 in
theorem ct_X11_poured (l : Launch) (G : z_G) (ad : Nat → Nat) (a1 : Int32) (a2 : Int32) : z_M l yX11_poured wsX11_poured { frames := 3, cells := 0, slots := 0, locals := 55 } [.ref (ad 0), .int a1, .int a2] G (shX, ad, IX, JX, PX ad) (fun r u1 => r = (-1)) 0 0 := by
  intro sz
  refine z_headQ (cc := cX11_poured) (maxL := 3) (ret := (some .int)) (by decide) rfl (Nat.le_of_ble_eq_true rfl) ?_
  intro p e s m below meth c ls hIn hK hsz hW hl
  obtain ⟨hx, hb, hr, hml, hown, hts, hlocks, hname⟩ := hIn
  subst hsz
  have hown : s.vm.findClass RX11 = some m.cls := hown
  have hA : ∀ q : Nat, s.heap.size ≤ q → z_A (shX, ad, IX, JX, PX ad) s.heap.size q := fun q h => Or.inr h
  generalize hAe : z_A (shX, ad, IX, JX, PX ad) s.heap.size = A at *
  have hS : va_S A s.heap s.heap [] := va_S.rf
  have hl : lv_has ls 3 [(0, .ref (ad 0)), (1, .int a1), (2, .int a2)] := hl
  refine lv_aload_n hx hb dX11_poured_0 rfl (lv_at hl 0 rfl) ?_
  refine z_get (T := TX11) (N := 13) (ci := 11) (i := 0) (v := .ref (ad 30)) hx hb hts zi_X11_poured_X11 hown hK hW rfl rfl 6 (by decide) (hts (.fieldLink RX11 44 "PetrolBoard" "pours" "LPetrolBoard$Pours;") (List.mem_of_getElem? (i := 1) rfl)) (fun _ h => h) rfl dX11_poured_1 ?_
  refine lv_iload_n hx hb dX11_poured_4 rfl (lv_at hl 1 rfl) ?_
  refine lv_iload_n hx hb dX11_poured_5 rfl (lv_at hl 2 rfl) ?_
  refine z_ci hW hS hA (va_runV (As := [.int a1, .int a2]) (rest := []) ⟨hx, hb, hml, hown, hts⟩ (ct_X8_tell l G ad a1 a2 _) (cwV 2 hts gX11_poured_X8_tell rfl rfl rfl (by decide +kernel) ⟨Nat.le_of_ble_eq_true rfl, Nat.le_of_ble_eq_true rfl⟩) (z_preV hK hW rfl rfl) rfl rfl hl.1 rfl (lv_room (Nat.le_of_ble_eq_true rfl)) dX11_poured_6 ⟨Nat.le_of_ble_eq_true rfl, Nat.le_of_ble_eq_true rfl⟩) (fun r u1 H locs hp hW hS => ?_)
  obtain ⟨e9, rfl⟩ := hp
  rw [e9] at hW
  exact z_iret hx hb hr hK hS (Nat.le_of_ble_eq_true rfl) (Nat.le_of_ble_eq_true rfl) hlocks dX11_poured_9 (shX, ad, IX, JX, PX ad) hW rfl
theorem zi_X12_port_X12 : ∀ w ∈ wsX120, w ∈ wsX12_port := fun w h => (List.mem_cons_of_mem _ (List.mem_append_right _ h))
set_option maxHeartbeats 4000000 in
set_option maxRecDepth 100000 in
theorem ct_X12_port (l : Launch) (G : z_G) (ad : Nat → Nat) (a1 : Int32) : z_M l yX12_port wsX12_port { frames := 2, cells := 0, slots := 0, locals := 34 } [.ref (ad 0), .int a1] G (shM, ad, IM, JM, PM ad) (fun r u1 => r = fr_port a1) 0 0 := by
  intro sz
  refine z_headQ (cc := cX12_port) (maxL := 2) (ret := (some .int)) (by decide) rfl (Nat.le_of_ble_eq_true rfl) ?_
  intro p e s m below meth c ls hIn hK hsz hW hl
  obtain ⟨hx, hb, hr, hml, hown, hts, hlocks, hname⟩ := hIn
  subst hsz
  have hown : s.vm.findClass RX12 = some m.cls := hown
  have hA : ∀ q : Nat, s.heap.size ≤ q → z_A (shM, ad, IM, JM, PM ad) s.heap.size q := fun q h => Or.inr h
  generalize hAe : z_A (shM, ad, IM, JM, PM ad) s.heap.size = A at *
  have hS : va_S A s.heap s.heap [] := va_S.rf
  have hl : lv_has ls 2 [(0, .ref (ad 0)), (1, .int a1)] := hl
  refine lv_iload_n hx hb dX12_port_0 rfl (lv_at hl 1 rfl) ?_
  refine lv_iconst (v := 0) hx hb dX12_port_1 (by decide) ?_
  refine lv_bipush (v := 50) hx hb dX12_port_2 (by decide) ?_
  refine z_ci hW hS hA (va_runS (As := [.int a1, .int 0, .int 50]) (rest := []) ⟨hx, hb, hml, hown, hts⟩ (ct_X12_within l G (shM, ad, IM, JM, PM ad) a1 0 50 _) (va_cwS 3 hts gX12_port_X12_within rfl rfl rfl (by decide +kernel) ⟨Nat.le_of_ble_eq_true rfl, Nat.le_of_ble_eq_true rfl⟩) (z_preS hK hW) rfl rfl hl.1 rfl (lv_room (Nat.le_of_ble_eq_true rfl)) dX12_port_4 ⟨Nat.le_of_ble_eq_true rfl, Nat.le_of_ble_eq_true rfl⟩) (fun r u1 H locs hp hW hS => ?_)
  obtain ⟨e9, hp⟩ := hp
  rw [e9] at hW
  rcases hp with ⟨rfl, h1, h2⟩ | ⟨rfl, h3⟩
  · refine lv_if_eq (tgt := 18) hx hb dX12_port_7 (by decide) (fun c4 => absurd c4 (by decide)) (fun c4 => ?_)
    refine lv_aload_n hx hb dX12_port_10 rfl (lv_at hl 0 rfl) ?_
    refine z_get (T := TX12) (N := 96) (ci := 12) (i := 0) (v := .int 0) hx hb hts zi_X12_port_X12 hown hK hW rfl rfl 75 (by decide) (hts (.fieldLink RX12 493 "PetrolBoardModel" "ports" "I") (List.mem_of_getElem? (i := 1) rfl)) (fun _ h => h) rfl dX12_port_11 ?_
    refine lv_iconst (v := 4) hx hb dX12_port_14 (by decide) ?_
    refine lv_icmp_ne (tgt := 20) hx hb dX12_port_15 (by decide) (fun c5 => ?_) (fun c5 => absurd c5 (by decide))
    refine lv_aload_n hx hb dX12_port_20 rfl (lv_at hl 0 rfl) ?_
    refine z_get (T := TX12) (N := 96) (ci := 12) (i := 0) (v := .ref (ad 52)) hx hb hts zi_X12_port_X12 hown hK hW rfl rfl 76 (by decide) (hts (.fieldLink RX12 172 "PetrolBoardModel" "loadsOf" "[I") (List.mem_of_getElem? (i := 2) rfl)) (fun _ h => h) rfl dX12_port_21 ?_
    refine lv_aload_n hx hb dX12_port_24 rfl (lv_at hl 0 rfl) ?_
    refine z_get (T := TX12) (N := 96) (ci := 12) (i := 0) (v := .int 0) hx hb hts zi_X12_port_X12 hown hK hW rfl rfl 75 (by decide) (hts (.fieldLink RX12 493 "PetrolBoardModel" "ports" "I") (List.mem_of_getElem? (i := 1) rfl)) (fun _ h => h) rfl dX12_port_25 ?_
    refine lv_iload_n hx hb dX12_port_28 rfl (lv_at hl 1 rfl) ?_
    refine z_iast (i := 52) hx hb hK hW hS rfl (z_inl (by decide)) dX12_port_29 (fun H locs hz1 hW hS => ?_)
    refine lv_aload_n hx hb dX12_port_30 rfl (lv_at hl 0 rfl) ?_
    refine lv_dup hx hb dX12_port_31 rfl ?_
    refine z_get (T := TX12) (N := 96) (ci := 12) (i := 0) (v := .int 0) hx hb hts zi_X12_port_X12 hown hK hW rfl rfl 75 (by decide) (hts (.fieldLink RX12 493 "PetrolBoardModel" "ports" "I") (List.mem_of_getElem? (i := 1) rfl)) (fun _ h => h) rfl dX12_port_32 ?_
    refine lv_iconst (v := 1) hx hb dX12_port_35 (by decide) ?_
    refine lv_iadd hx hb dX12_port_36 ?_
    refine z_topi (v := 1) (by decide) ?_
    refine z_put (T := TX12) (N := 96) (ci := 12) (i := 0) (v := .int 1) (I1 := (z_up (z_up IM 52 (0 : Int32).toNatClampNeg a1) 0 75 1)) (J1 := JM) (P1 := PM ad) hx hb hts zi_X12_port_X12 tyX12 tyX12_ok nmX12 hown hK hW hS rfl rfl 75 (by decide) (hts (.fieldLink RX12 493 "PetrolBoardModel" "ports" "I") (List.mem_of_getElem? (i := 1) rfl)) (fun _ h => h) rfl rfl rfl (by first | rfl | exact congrArg _ z_up_s) (fun a b h ty => z_vI h ty) dX12_port_37 (fun H locs hz1 hW hS => ?_)
    refine lv_aload_n hx hb dX12_port_40 rfl (lv_at hl 0 rfl) ?_
    refine z_get (T := TX12) (N := 96) (ci := 12) (i := 0) (v := .int 1) hx hb hts zi_X12_port_X12 hown hK hW rfl rfl 75 (by decide) (hts (.fieldLink RX12 493 "PetrolBoardModel" "ports" "I") (List.mem_of_getElem? (i := 1) rfl)) (fun _ h => h) rfl dX12_port_41 ?_
    refine lv_iconst (v := 1) hx hb dX12_port_44 (by decide) ?_
    refine lv_isub hx hb dX12_port_45 ?_
    refine z_topi (v := 0) (by decide) ?_
    exact z_iret hx hb hr hK hS (Nat.le_of_ble_eq_true rfl) (Nat.le_of_ble_eq_true rfl) hlocks dX12_port_46 (shM, ad, (z_up (z_up IM 52 (0 : Int32).toNatClampNeg a1) 0 75 1), JM, PM ad) hW (by show _ = fr_port a1; unfold fr_port; split <;> first | rfl | (rename_i q; exfalso; simp only [Int32.lt_iff_toInt_lt, Int32.le_iff_toInt_le, ← Int32.toInt_inj, z_l0, z_l1, z_l50] at q h1 h2; omega))
  · refine lv_if_eq (tgt := 18) hx hb dX12_port_7 (by decide) (fun c6 => ?_) (fun c6 => absurd (by decide) c6)
    refine lv_iconst (v := (-1)) hx hb dX12_port_18 (by decide) ?_
    exact z_iret hx hb hr hK hS (Nat.le_of_ble_eq_true rfl) (Nat.le_of_ble_eq_true rfl) hlocks dX12_port_19 (shM, ad, IM, JM, PM ad) hW (by show _ = fr_port a1; unfold fr_port; split <;> first | rfl | (rename_i q; exfalso; simp only [Int32.lt_iff_toInt_lt, Int32.le_iff_toInt_le, ← Int32.toInt_inj, z_l0, z_l1, z_l50] at q h3 h3; omega))
theorem zi_X12_holder_X12 : ∀ w ∈ wsX120, w ∈ wsX12_holder := fun w h => (List.mem_cons_of_mem _ (List.mem_append_right _ h))
set_option maxHeartbeats 4000000 in
set_option maxRecDepth 100000 in
theorem ct_X12_holder (l : Launch) (G : z_G) (ad : Nat → Nat) (a1 : Int32) (a2 : Int32) (a3 : Int32) (a4 : Int32) (a5 : Int32) : z_M l yX12_holder wsX12_holder { frames := 2, cells := 0, slots := 0, locals := 34 } [.ref (ad 0), .int a1, .int a2, .int a3, .int a4, .int a5] G (shM, ad, IM, JM, PM ad) (fun r u1 => r = fr_holder a1 a2 a3 a4 a5) 0 0 := by
  intro sz
  refine z_headQ (cc := cX12_holder) (maxL := 6) (ret := (some .int)) (by decide) rfl (Nat.le_of_ble_eq_true rfl) ?_
  intro p e s m below meth c ls hIn hK hsz hW hl
  obtain ⟨hx, hb, hr, hml, hown, hts, hlocks, hname⟩ := hIn
  subst hsz
  have hown : s.vm.findClass RX12 = some m.cls := hown
  have hA : ∀ q : Nat, s.heap.size ≤ q → z_A (shM, ad, IM, JM, PM ad) s.heap.size q := fun q h => Or.inr h
  generalize hAe : z_A (shM, ad, IM, JM, PM ad) s.heap.size = A at *
  have hS : va_S A s.heap s.heap [] := va_S.rf
  have hl : lv_has ls 6 [(0, .ref (ad 0)), (1, .int a1), (2, .int a2), (3, .int a3), (4, .int a4), (5, .int a5)] := hl
  refine lv_iload_n hx hb dX12_holder_0 rfl (lv_at hl 1 rfl) ?_
  refine lv_iconst (v := 1) hx hb dX12_holder_1 (by decide) ?_
  refine lv_bipush (v := 9) hx hb dX12_holder_2 (by decide) ?_
  refine z_ci hW hS hA (va_runS (As := [.int a1, .int 1, .int 9]) (rest := []) ⟨hx, hb, hml, hown, hts⟩ (ct_X12_within l G (shM, ad, IM, JM, PM ad) a1 1 9 _) (va_cwS 3 hts gX12_holder_X12_within rfl rfl rfl (by decide +kernel) ⟨Nat.le_of_ble_eq_true rfl, Nat.le_of_ble_eq_true rfl⟩) (z_preS hK hW) rfl rfl hl.1 rfl (lv_room (Nat.le_of_ble_eq_true rfl)) dX12_holder_4 ⟨Nat.le_of_ble_eq_true rfl, Nat.le_of_ble_eq_true rfl⟩) (fun r u1 H locs hp hW hS => ?_)
  obtain ⟨e9, hp⟩ := hp
  rw [e9] at hW
  rcases hp with ⟨rfl, h1, h2⟩ | ⟨rfl, h3⟩
  · refine lv_if_eq (tgt := 62) hx hb dX12_holder_7 (by decide) (fun c4 => absurd c4 (by decide)) (fun c4 => ?_)
    refine lv_iload_n hx hb dX12_holder_10 rfl (lv_at hl 2 rfl) ?_
    refine lv_iconst (v := 0) hx hb dX12_holder_11 (by decide) ?_
    refine lv_bipush (v := 9) hx hb dX12_holder_12 (by decide) ?_
    refine z_ci hW hS hA (va_runS (As := [.int a2, .int 0, .int 9]) (rest := []) ⟨hx, hb, hml, hown, hts⟩ (ct_X12_within l G (shM, ad, IM, JM, PM ad) a2 0 9 _) (va_cwS 3 hts gX12_holder_X12_within rfl rfl rfl (by decide +kernel) ⟨Nat.le_of_ble_eq_true rfl, Nat.le_of_ble_eq_true rfl⟩) (z_preS hK hW) rfl rfl hl.1 rfl (lv_room (Nat.le_of_ble_eq_true rfl)) dX12_holder_14 ⟨Nat.le_of_ble_eq_true rfl, Nat.le_of_ble_eq_true rfl⟩) (fun r u1 H locs hp hW hS => ?_)
    obtain ⟨e9, hp⟩ := hp
    rw [e9] at hW
    rcases hp with ⟨rfl, h5, h6⟩ | ⟨rfl, h7⟩
    · refine lv_if_eq (tgt := 62) hx hb dX12_holder_17 (by decide) (fun c8 => absurd c8 (by decide)) (fun c8 => ?_)
      refine lv_iload_n hx hb dX12_holder_20 rfl (lv_at hl 3 rfl) ?_
      refine lv_iconst (v := 1) hx hb dX12_holder_21 (by decide) ?_
      refine lv_bipush (v := 8) hx hb dX12_holder_22 (by decide) ?_
      refine z_ci hW hS hA (va_runS (As := [.int a3, .int 1, .int 8]) (rest := []) ⟨hx, hb, hml, hown, hts⟩ (ct_X12_within l G (shM, ad, IM, JM, PM ad) a3 1 8 _) (va_cwS 3 hts gX12_holder_X12_within rfl rfl rfl (by decide +kernel) ⟨Nat.le_of_ble_eq_true rfl, Nat.le_of_ble_eq_true rfl⟩) (z_preS hK hW) rfl rfl hl.1 rfl (lv_room (Nat.le_of_ble_eq_true rfl)) dX12_holder_24 ⟨Nat.le_of_ble_eq_true rfl, Nat.le_of_ble_eq_true rfl⟩) (fun r u1 H locs hp hW hS => ?_)
      obtain ⟨e9, hp⟩ := hp
      rw [e9] at hW
      rcases hp with ⟨rfl, h9, h10⟩ | ⟨rfl, h11⟩
      · refine lv_if_eq (tgt := 62) hx hb dX12_holder_27 (by decide) (fun c12 => absurd c12 (by decide)) (fun c12 => ?_)
        refine lv_iload hx hb dX12_holder_30 (lv_at hl 4 rfl) ?_
        refine lv_iconst (v := 0) hx hb dX12_holder_32 (by decide) ?_
        refine lv_sipush (v := 999) hx hb dX12_holder_33 (by decide) ?_
        refine z_ci hW hS hA (va_runS (As := [.int a4, .int 0, .int 999]) (rest := []) ⟨hx, hb, hml, hown, hts⟩ (ct_X12_within l G (shM, ad, IM, JM, PM ad) a4 0 999 _) (va_cwS 3 hts gX12_holder_X12_within rfl rfl rfl (by decide +kernel) ⟨Nat.le_of_ble_eq_true rfl, Nat.le_of_ble_eq_true rfl⟩) (z_preS hK hW) rfl rfl hl.1 rfl (lv_room (Nat.le_of_ble_eq_true rfl)) dX12_holder_36 ⟨Nat.le_of_ble_eq_true rfl, Nat.le_of_ble_eq_true rfl⟩) (fun r u1 H locs hp hW hS => ?_)
        obtain ⟨e9, hp⟩ := hp
        rw [e9] at hW
        rcases hp with ⟨rfl, h13, h14⟩ | ⟨rfl, h15⟩
        · refine lv_if_eq (tgt := 62) hx hb dX12_holder_39 (by decide) (fun c16 => absurd c16 (by decide)) (fun c16 => ?_)
          refine lv_iload hx hb dX12_holder_42 (lv_at hl 5 rfl) ?_
          refine lv_iconst (v := 0) hx hb dX12_holder_44 (by decide) ?_
          refine lv_bipush (v := 99) hx hb dX12_holder_45 (by decide) ?_
          refine z_ci hW hS hA (va_runS (As := [.int a5, .int 0, .int 99]) (rest := []) ⟨hx, hb, hml, hown, hts⟩ (ct_X12_within l G (shM, ad, IM, JM, PM ad) a5 0 99 _) (va_cwS 3 hts gX12_holder_X12_within rfl rfl rfl (by decide +kernel) ⟨Nat.le_of_ble_eq_true rfl, Nat.le_of_ble_eq_true rfl⟩) (z_preS hK hW) rfl rfl hl.1 rfl (lv_room (Nat.le_of_ble_eq_true rfl)) dX12_holder_47 ⟨Nat.le_of_ble_eq_true rfl, Nat.le_of_ble_eq_true rfl⟩) (fun r u1 H locs hp hW hS => ?_)
          obtain ⟨e9, hp⟩ := hp
          rw [e9] at hW
          rcases hp with ⟨rfl, h17, h18⟩ | ⟨rfl, h19⟩
          · refine lv_if_eq (tgt := 62) hx hb dX12_holder_50 (by decide) (fun c20 => absurd c20 (by decide)) (fun c20 => ?_)
            refine lv_aload_n hx hb dX12_holder_53 rfl (lv_at hl 0 rfl) ?_
            refine z_get (T := TX12) (N := 96) (ci := 12) (i := 0) (v := .int 0) hx hb hts zi_X12_holder_X12 hown hK hW rfl rfl 1 (by decide) (hts (.fieldLink RX12 229 "PetrolBoardModel" "holders" "I") (List.mem_of_getElem? (i := 1) rfl)) (fun _ h => h) rfl dX12_holder_54 ?_
            refine lv_bipush (v := 30) hx hb dX12_holder_57 (by decide) ?_
            refine lv_icmp_ne (tgt := 64) hx hb dX12_holder_59 (by decide) (fun c21 => ?_) (fun c21 => absurd c21 (by decide))
            refine lv_aload_n hx hb dX12_holder_64 rfl (lv_at hl 0 rfl) ?_
            refine z_get (T := TX12) (N := 96) (ci := 12) (i := 0) (v := .ref (ad 1)) hx hb hts zi_X12_holder_X12 hown hK hW rfl rfl 3 (by decide) (hts (.fieldLink RX12 7 "PetrolBoardModel" "sizeOf" "[I") (List.mem_of_getElem? (i := 2) rfl)) (fun _ h => h) rfl dX12_holder_65 ?_
            refine lv_aload_n hx hb dX12_holder_68 rfl (lv_at hl 0 rfl) ?_
            refine z_get (T := TX12) (N := 96) (ci := 12) (i := 0) (v := .int 0) hx hb hts zi_X12_holder_X12 hown hK hW rfl rfl 1 (by decide) (hts (.fieldLink RX12 229 "PetrolBoardModel" "holders" "I") (List.mem_of_getElem? (i := 1) rfl)) (fun _ h => h) rfl dX12_holder_69 ?_
            refine lv_iload_n hx hb dX12_holder_72 rfl (lv_at hl 1 rfl) ?_
            refine z_iast (i := 1) hx hb hK hW hS rfl (z_inl (by decide)) dX12_holder_73 (fun H locs hz1 hW hS => ?_)
            refine lv_aload_n hx hb dX12_holder_74 rfl (lv_at hl 0 rfl) ?_
            refine z_get (T := TX12) (N := 96) (ci := 12) (i := 0) (v := .ref (ad 2)) hx hb hts zi_X12_holder_X12 hown hK hW rfl rfl 4 (by decide) (hts (.fieldLink RX12 13 "PetrolBoardModel" "townOf" "[I") (List.mem_of_getElem? (i := 3) rfl)) (fun _ h => h) rfl dX12_holder_75 ?_
            refine lv_aload_n hx hb dX12_holder_78 rfl (lv_at hl 0 rfl) ?_
            refine z_get (T := TX12) (N := 96) (ci := 12) (i := 0) (v := .int 0) hx hb hts zi_X12_holder_X12 hown hK hW rfl rfl 1 (by decide) (hts (.fieldLink RX12 229 "PetrolBoardModel" "holders" "I") (List.mem_of_getElem? (i := 1) rfl)) (fun _ h => h) rfl dX12_holder_79 ?_
            refine lv_iload_n hx hb dX12_holder_82 rfl (lv_at hl 2 rfl) ?_
            refine z_iast (i := 2) hx hb hK hW hS rfl (z_inl (by decide)) dX12_holder_83 (fun H locs hz1 hW hS => ?_)
            refine lv_aload_n hx hb dX12_holder_84 rfl (lv_at hl 0 rfl) ?_
            refine z_get (T := TX12) (N := 96) (ci := 12) (i := 0) (v := .ref (ad 3)) hx hb hts zi_X12_holder_X12 hown hK hW rfl rfl 5 (by decide) (hts (.fieldLink RX12 16 "PetrolBoardModel" "seatsOf" "[I") (List.mem_of_getElem? (i := 4) rfl)) (fun _ h => h) rfl dX12_holder_85 ?_
            refine lv_aload_n hx hb dX12_holder_88 rfl (lv_at hl 0 rfl) ?_
            refine z_get (T := TX12) (N := 96) (ci := 12) (i := 0) (v := .int 0) hx hb hts zi_X12_holder_X12 hown hK hW rfl rfl 1 (by decide) (hts (.fieldLink RX12 229 "PetrolBoardModel" "holders" "I") (List.mem_of_getElem? (i := 1) rfl)) (fun _ h => h) rfl dX12_holder_89 ?_
            refine lv_iload_n hx hb dX12_holder_92 rfl (lv_at hl 3 rfl) ?_
            refine z_iast (i := 3) hx hb hK hW hS rfl (z_inl (by decide)) dX12_holder_93 (fun H locs hz1 hW hS => ?_)
            refine lv_aload_n hx hb dX12_holder_94 rfl (lv_at hl 0 rfl) ?_
            refine z_get (T := TX12) (N := 96) (ci := 12) (i := 0) (v := .ref (ad 4)) hx hb hts zi_X12_holder_X12 hown hK hW rfl rfl 6 (by decide) (hts (.fieldLink RX12 19 "PetrolBoardModel" "bidOf" "[I") (List.mem_of_getElem? (i := 5) rfl)) (fun _ h => h) rfl dX12_holder_95 ?_
            refine lv_aload_n hx hb dX12_holder_98 rfl (lv_at hl 0 rfl) ?_
            refine z_get (T := TX12) (N := 96) (ci := 12) (i := 0) (v := .int 0) hx hb hts zi_X12_holder_X12 hown hK hW rfl rfl 1 (by decide) (hts (.fieldLink RX12 229 "PetrolBoardModel" "holders" "I") (List.mem_of_getElem? (i := 1) rfl)) (fun _ h => h) rfl dX12_holder_99 ?_
            refine lv_iload hx hb dX12_holder_102 (lv_at hl 4 rfl) ?_
            refine z_iast (i := 4) hx hb hK hW hS rfl (z_inl (by decide)) dX12_holder_104 (fun H locs hz1 hW hS => ?_)
            refine lv_aload_n hx hb dX12_holder_105 rfl (lv_at hl 0 rfl) ?_
            refine z_get (T := TX12) (N := 96) (ci := 12) (i := 0) (v := .ref (ad 5)) hx hb hts zi_X12_holder_X12 hown hK hW rfl rfl 7 (by decide) (hts (.fieldLink RX12 22 "PetrolBoardModel" "needOf" "[I") (List.mem_of_getElem? (i := 6) rfl)) (fun _ h => h) rfl dX12_holder_106 ?_
            refine lv_aload_n hx hb dX12_holder_109 rfl (lv_at hl 0 rfl) ?_
            refine z_get (T := TX12) (N := 96) (ci := 12) (i := 0) (v := .int 0) hx hb hts zi_X12_holder_X12 hown hK hW rfl rfl 1 (by decide) (hts (.fieldLink RX12 229 "PetrolBoardModel" "holders" "I") (List.mem_of_getElem? (i := 1) rfl)) (fun _ h => h) rfl dX12_holder_110 ?_
            refine lv_iload hx hb dX12_holder_113 (lv_at hl 5 rfl) ?_
            refine z_iast (i := 5) hx hb hK hW hS rfl (z_inl (by decide)) dX12_holder_115 (fun H locs hz1 hW hS => ?_)
            refine lv_aload_n hx hb dX12_holder_116 rfl (lv_at hl 0 rfl) ?_
            refine lv_dup hx hb dX12_holder_117 rfl ?_
            refine z_get (T := TX12) (N := 96) (ci := 12) (i := 0) (v := .int 0) hx hb hts zi_X12_holder_X12 hown hK hW rfl rfl 1 (by decide) (hts (.fieldLink RX12 229 "PetrolBoardModel" "holders" "I") (List.mem_of_getElem? (i := 1) rfl)) (fun _ h => h) rfl dX12_holder_118 ?_
            refine lv_iconst (v := 1) hx hb dX12_holder_121 (by decide) ?_
            refine lv_iadd hx hb dX12_holder_122 ?_
            refine z_topi (v := 1) (by decide) ?_
            refine z_put (T := TX12) (N := 96) (ci := 12) (i := 0) (v := .int 1) (I1 := (z_up (z_up (z_up (z_up (z_up (z_up IM 1 (0 : Int32).toNatClampNeg a1) 2 (0 : Int32).toNatClampNeg a2) 3 (0 : Int32).toNatClampNeg a3) 4 (0 : Int32).toNatClampNeg a4) 5 (0 : Int32).toNatClampNeg a5) 0 1 1)) (J1 := JM) (P1 := PM ad) hx hb hts zi_X12_holder_X12 tyX12 tyX12_ok nmX12 hown hK hW hS rfl rfl 1 (by decide) (hts (.fieldLink RX12 229 "PetrolBoardModel" "holders" "I") (List.mem_of_getElem? (i := 1) rfl)) (fun _ h => h) rfl rfl rfl (by first | rfl | exact congrArg _ z_up_s) (fun a b h ty => z_vI h ty) dX12_holder_123 (fun H locs hz1 hW hS => ?_)
            refine lv_aload_n hx hb dX12_holder_126 rfl (lv_at hl 0 rfl) ?_
            refine z_get (T := TX12) (N := 96) (ci := 12) (i := 0) (v := .int 1) hx hb hts zi_X12_holder_X12 hown hK hW rfl rfl 1 (by decide) (hts (.fieldLink RX12 229 "PetrolBoardModel" "holders" "I") (List.mem_of_getElem? (i := 1) rfl)) (fun _ h => h) rfl dX12_holder_127 ?_
            refine lv_iconst (v := 1) hx hb dX12_holder_130 (by decide) ?_
            refine lv_isub hx hb dX12_holder_131 ?_
            refine z_topi (v := 0) (by decide) ?_
            exact z_iret hx hb hr hK hS (Nat.le_of_ble_eq_true rfl) (Nat.le_of_ble_eq_true rfl) hlocks dX12_holder_132 (shM, ad, (z_up (z_up (z_up (z_up (z_up (z_up IM 1 (0 : Int32).toNatClampNeg a1) 2 (0 : Int32).toNatClampNeg a2) 3 (0 : Int32).toNatClampNeg a3) 4 (0 : Int32).toNatClampNeg a4) 5 (0 : Int32).toNatClampNeg a5) 0 1 1), JM, PM ad) hW (by show _ = fr_holder a1 a2 a3 a4 a5; unfold fr_holder; split <;> first | rfl | (rename_i q; exfalso; simp only [Int32.lt_iff_toInt_lt, Int32.le_iff_toInt_le, ← Int32.toInt_inj, z_l0, z_l1, z_l8, z_l9, z_l99, z_l999] at q h1 h2 h5 h6 h9 h10 h13 h14 h17 h18; omega))
          · refine lv_if_eq (tgt := 62) hx hb dX12_holder_50 (by decide) (fun c22 => ?_) (fun c22 => absurd (by decide) c22)
            refine lv_iconst (v := (-1)) hx hb dX12_holder_62 (by decide) ?_
            exact z_iret hx hb hr hK hS (Nat.le_of_ble_eq_true rfl) (Nat.le_of_ble_eq_true rfl) hlocks dX12_holder_63 (shM, ad, IM, JM, PM ad) hW (by show _ = fr_holder a1 a2 a3 a4 a5; unfold fr_holder; split <;> first | rfl | (rename_i q; exfalso; simp only [Int32.lt_iff_toInt_lt, Int32.le_iff_toInt_le, ← Int32.toInt_inj, z_l0, z_l1, z_l8, z_l9, z_l99, z_l999] at q h1 h2 h5 h6 h9 h10 h13 h14 h19 h19; omega))
        · refine lv_if_eq (tgt := 62) hx hb dX12_holder_39 (by decide) (fun c23 => ?_) (fun c23 => absurd (by decide) c23)
          refine lv_iconst (v := (-1)) hx hb dX12_holder_62 (by decide) ?_
          exact z_iret hx hb hr hK hS (Nat.le_of_ble_eq_true rfl) (Nat.le_of_ble_eq_true rfl) hlocks dX12_holder_63 (shM, ad, IM, JM, PM ad) hW (by show _ = fr_holder a1 a2 a3 a4 a5; unfold fr_holder; split <;> first | rfl | (rename_i q; exfalso; simp only [Int32.lt_iff_toInt_lt, Int32.le_iff_toInt_le, ← Int32.toInt_inj, z_l0, z_l1, z_l8, z_l9, z_l99, z_l999] at q h1 h2 h5 h6 h9 h10 h15 h15; omega))
      · refine lv_if_eq (tgt := 62) hx hb dX12_holder_27 (by decide) (fun c24 => ?_) (fun c24 => absurd (by decide) c24)
        refine lv_iconst (v := (-1)) hx hb dX12_holder_62 (by decide) ?_
        exact z_iret hx hb hr hK hS (Nat.le_of_ble_eq_true rfl) (Nat.le_of_ble_eq_true rfl) hlocks dX12_holder_63 (shM, ad, IM, JM, PM ad) hW (by show _ = fr_holder a1 a2 a3 a4 a5; unfold fr_holder; split <;> first | rfl | (rename_i q; exfalso; simp only [Int32.lt_iff_toInt_lt, Int32.le_iff_toInt_le, ← Int32.toInt_inj, z_l0, z_l1, z_l8, z_l9, z_l99, z_l999] at q h1 h2 h5 h6 h11 h11; omega))
    · refine lv_if_eq (tgt := 62) hx hb dX12_holder_17 (by decide) (fun c25 => ?_) (fun c25 => absurd (by decide) c25)
      refine lv_iconst (v := (-1)) hx hb dX12_holder_62 (by decide) ?_
      exact z_iret hx hb hr hK hS (Nat.le_of_ble_eq_true rfl) (Nat.le_of_ble_eq_true rfl) hlocks dX12_holder_63 (shM, ad, IM, JM, PM ad) hW (by show _ = fr_holder a1 a2 a3 a4 a5; unfold fr_holder; split <;> first | rfl | (rename_i q; exfalso; simp only [Int32.lt_iff_toInt_lt, Int32.le_iff_toInt_le, ← Int32.toInt_inj, z_l0, z_l1, z_l8, z_l9, z_l99, z_l999] at q h1 h2 h7 h7; omega))
  · refine lv_if_eq (tgt := 62) hx hb dX12_holder_7 (by decide) (fun c26 => ?_) (fun c26 => absurd (by decide) c26)
    refine lv_iconst (v := (-1)) hx hb dX12_holder_62 (by decide) ?_
    exact z_iret hx hb hr hK hS (Nat.le_of_ble_eq_true rfl) (Nat.le_of_ble_eq_true rfl) hlocks dX12_holder_63 (shM, ad, IM, JM, PM ad) hW (by show _ = fr_holder a1 a2 a3 a4 a5; unfold fr_holder; split <;> first | rfl | (rename_i q; exfalso; simp only [Int32.lt_iff_toInt_lt, Int32.le_iff_toInt_le, ← Int32.toInt_inj, z_l0, z_l1, z_l8, z_l9, z_l99, z_l999] at q h3 h3; omega))
theorem zi_X12_count_X12 : ∀ w ∈ wsX120, w ∈ wsX12_count := fun w h => (List.mem_cons_of_mem _ (List.mem_append_right _ h))
set_option maxHeartbeats 4000000 in
set_option maxRecDepth 100000 in
theorem ct_X12_count (l : Launch) (G : z_G) (ad : Nat → Nat) (a1 : Int32) : z_M l yX12_count wsX12_count { frames := 1, cells := 0, slots := 0, locals := 12 } [.ref (ad 0), .int a1] G (shM, ad, IM, JM, PM ad) (fun r u1 => r = fr_count a1) 0 0 := by
  intro sz
  refine z_headQ (cc := cX12_count) (maxL := 5) (ret := (some .int)) (by decide) rfl (Nat.le_of_ble_eq_true rfl) ?_
  intro p e s m below meth c ls hIn hK hsz hW hl
  obtain ⟨hx, hb, hr, hml, hown, hts, hlocks, hname⟩ := hIn
  subst hsz
  have hown : s.vm.findClass RX12 = some m.cls := hown
  have hA : ∀ q : Nat, s.heap.size ≤ q → z_A (shM, ad, IM, JM, PM ad) s.heap.size q := fun q h => Or.inr h
  generalize hAe : z_A (shM, ad, IM, JM, PM ad) s.heap.size = A at *
  have hS : va_S A s.heap s.heap [] := va_S.rf
  have hl : lv_has ls 5 [(0, .ref (ad 0)), (1, .int a1)] := hl
  refine lv_iconst (v := 0) hx hb dX12_count_0 (by decide) ?_
  refine lv_istore_n (lv' := [(2, .int 0), (0, .ref (ad 0)), (1, .int a1)]) hx hb dX12_count_1 rfl hl (by decide) rfl (fun ls hl => ?_)
  refine lv_iconst (v := 0) hx hb dX12_count_2 (by decide) ?_
  refine lv_istore_n (lv' := [(3, .int 0), (2, .int 0), (0, .ref (ad 0)), (1, .int a1)]) hx hb dX12_count_3 rfl hl (by decide) rfl (fun ls hl => ?_)
  refine lv_iconst (v := 0) hx hb dX12_count_4 (by decide) ?_
  refine lv_istore (lv' := [(4, .int 0), (3, .int 0), (2, .int 0), (0, .ref (ad 0)), (1, .int a1)]) hx hb dX12_count_5 hl (by decide) rfl (fun ls hl => ?_)
  refine lv_iload hx hb dX12_count_7 (lv_at hl 0 rfl) ?_
  refine lv_aload_n hx hb dX12_count_9 rfl (lv_at hl 3 rfl) ?_
  refine z_get (T := TX12) (N := 96) (ci := 12) (i := 0) (v := .int 0) hx hb hts zi_X12_count_X12 hown hK hW rfl rfl 55 (by decide) (hts (.fieldLink RX12 468 "PetrolBoardModel" "pours" "I") (List.mem_of_getElem? (i := 1) rfl)) (fun _ h => h) rfl dX12_count_10 ?_
  refine lv_icmp_ge (tgt := 48) hx hb dX12_count_13 (by decide) (fun c1 => ?_) (fun c1 => absurd (by decide) c1)
  refine lv_iload_n hx hb dX12_count_48 rfl (lv_at hl 4 rfl) ?_
  by_cases q2 : a1 = 0
  · refine lv_tableIn (tgt := 116) hx hb dX12_count_49 (by rw [q2]; decide) (by rw [q2]; decide) (by rw [q2]; rfl) (by decide) ?_
    refine lv_aload_n hx hb dX12_count_116 rfl (lv_at hl 3 rfl) ?_
    refine z_get (T := TX12) (N := 96) (ci := 12) (i := 0) (v := .int 0) hx hb hts zi_X12_count_X12 hown hK hW rfl rfl 0 (by decide) (hts (.fieldLink RX12 232 "PetrolBoardModel" "today" "I") (List.mem_of_getElem? (i := 3) rfl)) (fun _ h => h) rfl dX12_count_117 ?_
    exact z_iret hx hb hr hK hS (Nat.le_of_ble_eq_true rfl) (Nat.le_of_ble_eq_true rfl) hlocks dX12_count_120 (shM, ad, IM, JM, PM ad) hW (by show _ = fr_count a1; unfold fr_count; split <;> first | rfl | (rename_i q; exfalso; simp only [Int32.lt_iff_toInt_lt, Int32.le_iff_toInt_le, ← Int32.toInt_inj, z_l0, z_l1, z_l2, z_l3, z_l4, z_l5, z_l6, z_l7, z_l8, z_l9, z_l10, z_l11, z_l12] at q q2; omega))
  by_cases q3 : a1 = 1
  · refine lv_tableIn (tgt := 121) hx hb dX12_count_49 (by rw [q3]; decide) (by rw [q3]; decide) (by rw [q3]; rfl) (by decide) ?_
    refine lv_aload_n hx hb dX12_count_121 rfl (lv_at hl 3 rfl) ?_
    refine z_get (T := TX12) (N := 96) (ci := 12) (i := 0) (v := .int 0) hx hb hts zi_X12_count_X12 hown hK hW rfl rfl 1 (by decide) (hts (.fieldLink RX12 229 "PetrolBoardModel" "holders" "I") (List.mem_of_getElem? (i := 4) rfl)) (fun _ h => h) rfl dX12_count_122 ?_
    exact z_iret hx hb hr hK hS (Nat.le_of_ble_eq_true rfl) (Nat.le_of_ble_eq_true rfl) hlocks dX12_count_125 (shM, ad, IM, JM, PM ad) hW (by show _ = fr_count a1; unfold fr_count; split <;> first | rfl | (rename_i q; exfalso; simp only [Int32.lt_iff_toInt_lt, Int32.le_iff_toInt_le, ← Int32.toInt_inj, z_l0, z_l1, z_l2, z_l3, z_l4, z_l5, z_l6, z_l7, z_l8, z_l9, z_l10, z_l11, z_l12] at q q2 q3; omega))
  by_cases q4 : a1 = 2
  · refine lv_tableIn (tgt := 126) hx hb dX12_count_49 (by rw [q4]; decide) (by rw [q4]; decide) (by rw [q4]; rfl) (by decide) ?_
    refine lv_aload_n hx hb dX12_count_126 rfl (lv_at hl 3 rfl) ?_
    refine z_get (T := TX12) (N := 96) (ci := 12) (i := 0) (v := .int 0) hx hb hts zi_X12_count_X12 hown hK hW rfl rfl 2 (by decide) (hts (.fieldLink RX12 246 "PetrolBoardModel" "notes" "I") (List.mem_of_getElem? (i := 5) rfl)) (fun _ h => h) rfl dX12_count_127 ?_
    exact z_iret hx hb hr hK hS (Nat.le_of_ble_eq_true rfl) (Nat.le_of_ble_eq_true rfl) hlocks dX12_count_130 (shM, ad, IM, JM, PM ad) hW (by show _ = fr_count a1; unfold fr_count; split <;> first | rfl | (rename_i q; exfalso; simp only [Int32.lt_iff_toInt_lt, Int32.le_iff_toInt_le, ← Int32.toInt_inj, z_l0, z_l1, z_l2, z_l3, z_l4, z_l5, z_l6, z_l7, z_l8, z_l9, z_l10, z_l11, z_l12] at q q2 q3 q4; omega))
  by_cases q5 : a1 = 3
  · refine lv_tableIn (tgt := 131) hx hb dX12_count_49 (by rw [q5]; decide) (by rw [q5]; decide) (by rw [q5]; rfl) (by decide) ?_
    refine lv_aload_n hx hb dX12_count_131 rfl (lv_at hl 3 rfl) ?_
    refine z_get (T := TX12) (N := 96) (ci := 12) (i := 0) (v := .int 0) hx hb hts zi_X12_count_X12 hown hK hW rfl rfl 13 (by decide) (hts (.fieldLink RX12 408 "PetrolBoardModel" "texts" "I") (List.mem_of_getElem? (i := 6) rfl)) (fun _ h => h) rfl dX12_count_132 ?_
    exact z_iret hx hb hr hK hS (Nat.le_of_ble_eq_true rfl) (Nat.le_of_ble_eq_true rfl) hlocks dX12_count_135 (shM, ad, IM, JM, PM ad) hW (by show _ = fr_count a1; unfold fr_count; split <;> first | rfl | (rename_i q; exfalso; simp only [Int32.lt_iff_toInt_lt, Int32.le_iff_toInt_le, ← Int32.toInt_inj, z_l0, z_l1, z_l2, z_l3, z_l4, z_l5, z_l6, z_l7, z_l8, z_l9, z_l10, z_l11, z_l12] at q q2 q3 q4 q5; omega))
  by_cases q6 : a1 = 4
  · refine lv_tableIn (tgt := 136) hx hb dX12_count_49 (by rw [q6]; decide) (by rw [q6]; decide) (by rw [q6]; rfl) (by decide) ?_
    refine lv_aload_n hx hb dX12_count_136 rfl (lv_at hl 3 rfl) ?_
    refine z_get (T := TX12) (N := 96) (ci := 12) (i := 0) (v := .int 0) hx hb hts zi_X12_count_X12 hown hK hW rfl rfl 50 (by decide) (hts (.fieldLink RX12 449 "PetrolBoardModel" "books" "I") (List.mem_of_getElem? (i := 7) rfl)) (fun _ h => h) rfl dX12_count_137 ?_
    exact z_iret hx hb hr hK hS (Nat.le_of_ble_eq_true rfl) (Nat.le_of_ble_eq_true rfl) hlocks dX12_count_140 (shM, ad, IM, JM, PM ad) hW (by show _ = fr_count a1; unfold fr_count; split <;> first | rfl | (rename_i q; exfalso; simp only [Int32.lt_iff_toInt_lt, Int32.le_iff_toInt_le, ← Int32.toInt_inj, z_l0, z_l1, z_l2, z_l3, z_l4, z_l5, z_l6, z_l7, z_l8, z_l9, z_l10, z_l11, z_l12] at q q2 q3 q4 q5 q6; omega))
  by_cases q7 : a1 = 5
  · refine lv_tableIn (tgt := 141) hx hb dX12_count_49 (by rw [q7]; decide) (by rw [q7]; decide) (by rw [q7]; rfl) (by decide) ?_
    refine lv_aload_n hx hb dX12_count_141 rfl (lv_at hl 3 rfl) ?_
    refine z_get (T := TX12) (N := 96) (ci := 12) (i := 0) (v := .int 0) hx hb hts zi_X12_count_X12 hown hK hW rfl rfl 54 (by decide) (hts (.fieldLink RX12 461 "PetrolBoardModel" "stations" "I") (List.mem_of_getElem? (i := 8) rfl)) (fun _ h => h) rfl dX12_count_142 ?_
    exact z_iret hx hb hr hK hS (Nat.le_of_ble_eq_true rfl) (Nat.le_of_ble_eq_true rfl) hlocks dX12_count_145 (shM, ad, IM, JM, PM ad) hW (by show _ = fr_count a1; unfold fr_count; split <;> first | rfl | (rename_i q; exfalso; simp only [Int32.lt_iff_toInt_lt, Int32.le_iff_toInt_le, ← Int32.toInt_inj, z_l0, z_l1, z_l2, z_l3, z_l4, z_l5, z_l6, z_l7, z_l8, z_l9, z_l10, z_l11, z_l12] at q q2 q3 q4 q5 q6 q7; omega))
  by_cases q8 : a1 = 6
  · refine lv_tableIn (tgt := 146) hx hb dX12_count_49 (by rw [q8]; decide) (by rw [q8]; decide) (by rw [q8]; rfl) (by decide) ?_
    refine lv_aload_n hx hb dX12_count_146 rfl (lv_at hl 3 rfl) ?_
    refine z_get (T := TX12) (N := 96) (ci := 12) (i := 0) (v := .int 0) hx hb hts zi_X12_count_X12 hown hK hW rfl rfl 55 (by decide) (hts (.fieldLink RX12 468 "PetrolBoardModel" "pours" "I") (List.mem_of_getElem? (i := 1) rfl)) (fun _ h => h) rfl dX12_count_147 ?_
    exact z_iret hx hb hr hK hS (Nat.le_of_ble_eq_true rfl) (Nat.le_of_ble_eq_true rfl) hlocks dX12_count_150 (shM, ad, IM, JM, PM ad) hW (by show _ = fr_count a1; unfold fr_count; split <;> first | rfl | (rename_i q; exfalso; simp only [Int32.lt_iff_toInt_lt, Int32.le_iff_toInt_le, ← Int32.toInt_inj, z_l0, z_l1, z_l2, z_l3, z_l4, z_l5, z_l6, z_l7, z_l8, z_l9, z_l10, z_l11, z_l12] at q q2 q3 q4 q5 q6 q7 q8; omega))
  by_cases q9 : a1 = 7
  · refine lv_tableIn (tgt := 151) hx hb dX12_count_49 (by rw [q9]; decide) (by rw [q9]; decide) (by rw [q9]; rfl) (by decide) ?_
    refine lv_iload_n hx hb dX12_count_151 rfl (lv_at hl 2 rfl) ?_
    exact z_iret hx hb hr hK hS (Nat.le_of_ble_eq_true rfl) (Nat.le_of_ble_eq_true rfl) hlocks dX12_count_152 (shM, ad, IM, JM, PM ad) hW (by show _ = fr_count a1; unfold fr_count; split <;> first | rfl | (rename_i q; exfalso; simp only [Int32.lt_iff_toInt_lt, Int32.le_iff_toInt_le, ← Int32.toInt_inj, z_l0, z_l1, z_l2, z_l3, z_l4, z_l5, z_l6, z_l7, z_l8, z_l9, z_l10, z_l11, z_l12] at q q2 q3 q4 q5 q6 q7 q8 q9; omega))
  by_cases q10 : a1 = 8
  · refine lv_tableIn (tgt := 153) hx hb dX12_count_49 (by rw [q10]; decide) (by rw [q10]; decide) (by rw [q10]; rfl) (by decide) ?_
    refine lv_iload_n hx hb dX12_count_153 rfl (lv_at hl 1 rfl) ?_
    exact z_iret hx hb hr hK hS (Nat.le_of_ble_eq_true rfl) (Nat.le_of_ble_eq_true rfl) hlocks dX12_count_154 (shM, ad, IM, JM, PM ad) hW (by show _ = fr_count a1; unfold fr_count; split <;> first | rfl | (rename_i q; exfalso; simp only [Int32.lt_iff_toInt_lt, Int32.le_iff_toInt_le, ← Int32.toInt_inj, z_l0, z_l1, z_l2, z_l3, z_l4, z_l5, z_l6, z_l7, z_l8, z_l9, z_l10, z_l11, z_l12] at q q2 q3 q4 q5 q6 q7 q8 q9 q10; omega))
  by_cases q11 : a1 = 9
  · refine lv_tableIn (tgt := 155) hx hb dX12_count_49 (by rw [q11]; decide) (by rw [q11]; decide) (by rw [q11]; rfl) (by decide) ?_
    refine lv_aload_n hx hb dX12_count_155 rfl (lv_at hl 3 rfl) ?_
    refine z_get (T := TX12) (N := 96) (ci := 12) (i := 0) (v := .int 0) hx hb hts zi_X12_count_X12 hown hK hW rfl rfl 51 (by decide) (hts (.fieldLink RX12 455 "PetrolBoardModel" "lentAll" "I") (List.mem_of_getElem? (i := 9) rfl)) (fun _ h => h) rfl dX12_count_156 ?_
    exact z_iret hx hb hr hK hS (Nat.le_of_ble_eq_true rfl) (Nat.le_of_ble_eq_true rfl) hlocks dX12_count_159 (shM, ad, IM, JM, PM ad) hW (by show _ = fr_count a1; unfold fr_count; split <;> first | rfl | (rename_i q; exfalso; simp only [Int32.lt_iff_toInt_lt, Int32.le_iff_toInt_le, ← Int32.toInt_inj, z_l0, z_l1, z_l2, z_l3, z_l4, z_l5, z_l6, z_l7, z_l8, z_l9, z_l10, z_l11, z_l12] at q q2 q3 q4 q5 q6 q7 q8 q9 q10 q11; omega))
  by_cases q12 : a1 = 10
  · refine lv_tableIn (tgt := 160) hx hb dX12_count_49 (by rw [q12]; decide) (by rw [q12]; decide) (by rw [q12]; rfl) (by decide) ?_
    refine lv_aload_n hx hb dX12_count_160 rfl (lv_at hl 3 rfl) ?_
    refine z_get (T := TX12) (N := 96) (ci := 12) (i := 0) (v := .int 0) hx hb hts zi_X12_count_X12 hown hK hW rfl rfl 75 (by decide) (hts (.fieldLink RX12 493 "PetrolBoardModel" "ports" "I") (List.mem_of_getElem? (i := 10) rfl)) (fun _ h => h) rfl dX12_count_161 ?_
    exact z_iret hx hb hr hK hS (Nat.le_of_ble_eq_true rfl) (Nat.le_of_ble_eq_true rfl) hlocks dX12_count_164 (shM, ad, IM, JM, PM ad) hW (by show _ = fr_count a1; unfold fr_count; split <;> first | rfl | (rename_i q; exfalso; simp only [Int32.lt_iff_toInt_lt, Int32.le_iff_toInt_le, ← Int32.toInt_inj, z_l0, z_l1, z_l2, z_l3, z_l4, z_l5, z_l6, z_l7, z_l8, z_l9, z_l10, z_l11, z_l12] at q q2 q3 q4 q5 q6 q7 q8 q9 q10 q11 q12; omega))
  by_cases q13 : a1 = 11
  · refine lv_tableIn (tgt := 165) hx hb dX12_count_49 (by rw [q13]; decide) (by rw [q13]; decide) (by rw [q13]; rfl) (by decide) ?_
    refine lv_aload_n hx hb dX12_count_165 rfl (lv_at hl 3 rfl) ?_
    refine z_get (T := TX12) (N := 96) (ci := 12) (i := 0) (v := .int 0) hx hb hts zi_X12_count_X12 hown hK hW rfl rfl 83 (by decide) (hts (.fieldLink RX12 505 "PetrolBoardModel" "journeys" "I") (List.mem_of_getElem? (i := 11) rfl)) (fun _ h => h) rfl dX12_count_166 ?_
    exact z_iret hx hb hr hK hS (Nat.le_of_ble_eq_true rfl) (Nat.le_of_ble_eq_true rfl) hlocks dX12_count_169 (shM, ad, IM, JM, PM ad) hW (by show _ = fr_count a1; unfold fr_count; split <;> first | rfl | (rename_i q; exfalso; simp only [Int32.lt_iff_toInt_lt, Int32.le_iff_toInt_le, ← Int32.toInt_inj, z_l0, z_l1, z_l2, z_l3, z_l4, z_l5, z_l6, z_l7, z_l8, z_l9, z_l10, z_l11, z_l12] at q q2 q3 q4 q5 q6 q7 q8 q9 q10 q11 q12 q13; omega))
  by_cases q14 : a1 = 12
  · refine lv_tableIn (tgt := 170) hx hb dX12_count_49 (by rw [q14]; decide) (by rw [q14]; decide) (by rw [q14]; rfl) (by decide) ?_
    refine lv_aload_n hx hb dX12_count_170 rfl (lv_at hl 3 rfl) ?_
    refine z_get (T := TX12) (N := 96) (ci := 12) (i := 0) (v := .int 0) hx hb hts zi_X12_count_X12 hown hK hW rfl rfl 31 (by decide) (hts (.fieldLink RX12 253 "PetrolBoardModel" "taped" "I") (List.mem_of_getElem? (i := 12) rfl)) (fun _ h => h) rfl dX12_count_171 ?_
    exact z_iret hx hb hr hK hS (Nat.le_of_ble_eq_true rfl) (Nat.le_of_ble_eq_true rfl) hlocks dX12_count_174 (shM, ad, IM, JM, PM ad) hW (by show _ = fr_count a1; unfold fr_count; split <;> first | rfl | (rename_i q; exfalso; simp only [Int32.lt_iff_toInt_lt, Int32.le_iff_toInt_le, ← Int32.toInt_inj, z_l0, z_l1, z_l2, z_l3, z_l4, z_l5, z_l6, z_l7, z_l8, z_l9, z_l10, z_l11, z_l12] at q q2 q3 q4 q5 q6 q7 q8 q9 q10 q11 q12 q13 q14; omega))
  refine lv_tableOut (tgt := 175) hx hb dX12_count_49 (by simp only [← Int32.toInt_inj, z_l0, z_l1, z_l2, z_l3, z_l4, z_l5, z_l6, z_l7, z_l8, z_l9, z_l10, z_l11, z_l12] at q2 q3 q4 q5 q6 q7 q8 q9 q10 q11 q12 q13 q14; omega) (by decide) ?_
  refine lv_iconst (v := (-1)) hx hb dX12_count_175 (by decide) ?_
  exact z_iret hx hb hr hK hS (Nat.le_of_ble_eq_true rfl) (Nat.le_of_ble_eq_true rfl) hlocks dX12_count_176 (shM, ad, IM, JM, PM ad) hW (by show _ = fr_count a1; unfold fr_count; split <;> first | rfl | (rename_i q; exfalso; simp only [Int32.lt_iff_toInt_lt, Int32.le_iff_toInt_le, ← Int32.toInt_inj, z_l0, z_l1, z_l2, z_l3, z_l4, z_l5, z_l6, z_l7, z_l8, z_l9, z_l10, z_l11, z_l12] at q q2 q3 q4 q5 q6 q7 q8 q9 q10 q11 q12 q13 q14; omega))
set_option maxHeartbeats 4000000 in
set_option maxRecDepth 100000 in
theorem ct_X12_other (l : Launch) (G : z_G) (ad : Nat → Nat) (a1 : Int32) (a2 : Int32) (a3 : Int32) (a4 : Int32) : z_M l yX12_other wsX12_other { frames := 2, cells := 0, slots := 0, locals := 34 } [.ref (ad 0), .int a1, .int a2, .int a3, .int a4] G (shM, ad, IM, JM, PM ad) (fun r u1 => r = (-1)) 0 0 := by
  intro sz
  refine z_headQ (cc := cX12_other) (maxL := 5) (ret := (some .int)) (by decide) rfl (Nat.le_of_ble_eq_true rfl) ?_
  intro p e s m below meth c ls hIn hK hsz hW hl
  obtain ⟨hx, hb, hr, hml, hown, hts, hlocks, hname⟩ := hIn
  subst hsz
  have hown : s.vm.findClass RX12 = some m.cls := hown
  have hA : ∀ q : Nat, s.heap.size ≤ q → z_A (shM, ad, IM, JM, PM ad) s.heap.size q := fun q h => Or.inr h
  generalize hAe : z_A (shM, ad, IM, JM, PM ad) s.heap.size = A at *
  have hS : va_S A s.heap s.heap [] := va_S.rf
  have hl : lv_has ls 5 [(0, .ref (ad 0)), (1, .int a1), (2, .int a2), (3, .int a3), (4, .int a4)] := hl
  refine lv_iload_n hx hb dX12_other_0 rfl (lv_at hl 1 rfl) ?_
  refine lv_iconst (v := 0) hx hb dX12_other_1 (by decide) ?_
  refine lv_iconst (v := 2) hx hb dX12_other_2 (by decide) ?_
  refine z_ci hW hS hA (va_runS (As := [.int a1, .int 0, .int 2]) (rest := []) ⟨hx, hb, hml, hown, hts⟩ (ct_X12_within l G (shM, ad, IM, JM, PM ad) a1 0 2 _) (va_cwS 3 hts gX12_other_X12_within rfl rfl rfl (by decide +kernel) ⟨Nat.le_of_ble_eq_true rfl, Nat.le_of_ble_eq_true rfl⟩) (z_preS hK hW) rfl rfl hl.1 rfl (lv_room (Nat.le_of_ble_eq_true rfl)) dX12_other_3 ⟨Nat.le_of_ble_eq_true rfl, Nat.le_of_ble_eq_true rfl⟩) (fun r u1 H locs hp hW hS => ?_)
  obtain ⟨e9, hp⟩ := hp
  rw [e9] at hW
  rcases hp with ⟨rfl, h1, h2⟩ | ⟨rfl, h3⟩
  · refine lv_if_eq (tgt := 34) hx hb dX12_other_6 (by decide) (fun c4 => absurd c4 (by decide)) (fun c4 => ?_)
    refine lv_iload_n hx hb dX12_other_9 rfl (lv_at hl 2 rfl) ?_
    refine z_ci hW hS hA (va_runS (As := [.int a2]) (rest := []) ⟨hx, hb, hml, hown, hts⟩ (ct_X12_isMonth l G (shM, ad, IM, JM, PM ad) a2 _) (va_cwS 1 hts gX12_other_X12_isMonth rfl rfl rfl (by decide +kernel) ⟨Nat.le_of_ble_eq_true rfl, Nat.le_of_ble_eq_true rfl⟩) (z_preS hK hW) rfl rfl hl.1 rfl (lv_room (Nat.le_of_ble_eq_true rfl)) dX12_other_10 ⟨Nat.le_of_ble_eq_true rfl, Nat.le_of_ble_eq_true rfl⟩) (fun r u1 H locs hp hW hS => ?_)
    obtain ⟨e9, hp⟩ := hp
    rw [e9] at hW
    rcases hp with ⟨rfl, h5, h6⟩ | ⟨rfl, h7⟩
    · refine lv_if_eq (tgt := 34) hx hb dX12_other_13 (by decide) (fun c8 => absurd c8 (by decide)) (fun c8 => ?_)
      refine lv_aload_n hx hb dX12_other_16 rfl (lv_at hl 0 rfl) ?_
      refine lv_iload_n hx hb dX12_other_17 rfl (lv_at hl 3 rfl) ?_
      refine z_ci hW hS hA (va_runV (As := [.int a3]) (rest := []) ⟨hx, hb, hml, hown, hts⟩ (ct_X12_isHolder l G ad a3 _) (cwV 1 hts gX12_other_X12_isHolder rfl rfl rfl (by decide +kernel) ⟨Nat.le_of_ble_eq_true rfl, Nat.le_of_ble_eq_true rfl⟩) (z_preV hK hW rfl rfl) rfl rfl hl.1 rfl (lv_room (Nat.le_of_ble_eq_true rfl)) dX12_other_18 ⟨Nat.le_of_ble_eq_true rfl, Nat.le_of_ble_eq_true rfl⟩) (fun r u1 H locs hp hW hS => ?_)
      obtain ⟨e9, rfl⟩ := hp
      rw [e9] at hW
      refine lv_if_eq (tgt := 34) hx hb dX12_other_21 (by decide) (fun c9 => ?_) (fun c9 => absurd (by decide) c9)
      refine lv_iconst (v := (-1)) hx hb dX12_other_34 (by decide) ?_
      exact z_iret hx hb hr hK hS (Nat.le_of_ble_eq_true rfl) (Nat.le_of_ble_eq_true rfl) hlocks dX12_other_35 (shM, ad, IM, JM, PM ad) hW rfl
    · refine lv_if_eq (tgt := 34) hx hb dX12_other_13 (by decide) (fun c10 => ?_) (fun c10 => absurd (by decide) c10)
      refine lv_iconst (v := (-1)) hx hb dX12_other_34 (by decide) ?_
      exact z_iret hx hb hr hK hS (Nat.le_of_ble_eq_true rfl) (Nat.le_of_ble_eq_true rfl) hlocks dX12_other_35 (shM, ad, IM, JM, PM ad) hW rfl
  · refine lv_if_eq (tgt := 34) hx hb dX12_other_6 (by decide) (fun c11 => ?_) (fun c11 => absurd (by decide) c11)
    refine lv_iconst (v := (-1)) hx hb dX12_other_34 (by decide) ?_
    exact z_iret hx hb hr hK hS (Nat.le_of_ble_eq_true rfl) (Nat.le_of_ble_eq_true rfl) hlocks dX12_other_35 (shM, ad, IM, JM, PM ad) hW rfl
theorem zi_X12_poured_X12 : ∀ w ∈ wsX120, w ∈ wsX12_poured := fun w h => (List.mem_cons_of_mem _ (List.mem_append_right _ h))
set_option maxHeartbeats 4000000 in
set_option maxRecDepth 100000 in
theorem ct_X12_poured (l : Launch) (G : z_G) (ad : Nat → Nat) (a1 : Int32) (a2 : Int32) : z_M l yX12_poured wsX12_poured { frames := 1, cells := 0, slots := 0, locals := 12 } [.ref (ad 0), .int a1, .int a2] G (shM, ad, IM, JM, PM ad) (fun r u1 => r = (-1)) 0 0 := by
  intro sz
  refine z_headQ (cc := cX12_poured) (maxL := 3) (ret := (some .int)) (by decide) rfl (Nat.le_of_ble_eq_true rfl) ?_
  intro p e s m below meth c ls hIn hK hsz hW hl
  obtain ⟨hx, hb, hr, hml, hown, hts, hlocks, hname⟩ := hIn
  subst hsz
  have hown : s.vm.findClass RX12 = some m.cls := hown
  have hA : ∀ q : Nat, s.heap.size ≤ q → z_A (shM, ad, IM, JM, PM ad) s.heap.size q := fun q h => Or.inr h
  generalize hAe : z_A (shM, ad, IM, JM, PM ad) s.heap.size = A at *
  have hS : va_S A s.heap s.heap [] := va_S.rf
  have hl : lv_has ls 3 [(0, .ref (ad 0)), (1, .int a1), (2, .int a2)] := hl
  refine lv_iload_n hx hb dX12_poured_0 rfl (lv_at hl 1 rfl) ?_
  refine lv_if_lt (tgt := 12) hx hb dX12_poured_1 (by decide) (fun c1 => ?_) (fun c1 => ?_)
  · refine lv_iconst (v := (-1)) hx hb dX12_poured_12 (by decide) ?_
    exact z_iret hx hb hr hK hS (Nat.le_of_ble_eq_true rfl) (Nat.le_of_ble_eq_true rfl) hlocks dX12_poured_13 (shM, ad, IM, JM, PM ad) hW rfl
  · refine lv_iload_n hx hb dX12_poured_4 rfl (lv_at hl 1 rfl) ?_
    refine lv_aload_n hx hb dX12_poured_5 rfl (lv_at hl 0 rfl) ?_
    refine z_get (T := TX12) (N := 96) (ci := 12) (i := 0) (v := .int 0) hx hb hts zi_X12_poured_X12 hown hK hW rfl rfl 55 (by decide) (hts (.fieldLink RX12 468 "PetrolBoardModel" "pours" "I") (List.mem_of_getElem? (i := 1) rfl)) (fun _ h => h) rfl dX12_poured_6 ?_
    refine lv_icmp_lt (tgt := 14) hx hb dX12_poured_9 (by decide) (fun c2 => False.elim (by simp only [Int32.lt_iff_toInt_lt, Int32.le_iff_toInt_le, ← Int32.toInt_inj, z_l0] at c1 c2; omega)) (fun c2 => ?_)
    refine lv_iconst (v := (-1)) hx hb dX12_poured_12 (by decide) ?_
    exact z_iret hx hb hr hK hS (Nat.le_of_ble_eq_true rfl) (Nat.le_of_ble_eq_true rfl) hlocks dX12_poured_13 (shM, ad, IM, JM, PM ad) hW rfl
set_option maxHeartbeats 4000000 in
set_option maxRecDepth 100000 in
theorem ct_X12_deliver (l : Launch) (G : z_G) (ad : Nat → Nat) (a1 : Int32) (a2 : Int32) : z_M l yX12_deliver wsX12_deliver { frames := 2, cells := 0, slots := 0, locals := 34 } [.ref (ad 0), .int a1, .int a2] G (shM, ad, IM, JM, PM ad) (fun r u1 => r = (-1)) 0 0 := by
  intro sz
  refine z_headQ (cc := cX12_deliver) (maxL := 3) (ret := (some .int)) (by decide) rfl (Nat.le_of_ble_eq_true rfl) ?_
  intro p e s m below meth c ls hIn hK hsz hW hl
  obtain ⟨hx, hb, hr, hml, hown, hts, hlocks, hname⟩ := hIn
  subst hsz
  have hown : s.vm.findClass RX12 = some m.cls := hown
  have hA : ∀ q : Nat, s.heap.size ≤ q → z_A (shM, ad, IM, JM, PM ad) s.heap.size q := fun q h => Or.inr h
  generalize hAe : z_A (shM, ad, IM, JM, PM ad) s.heap.size = A at *
  have hS : va_S A s.heap s.heap [] := va_S.rf
  have hl : lv_has ls 3 [(0, .ref (ad 0)), (1, .int a1), (2, .int a2)] := hl
  refine lv_aload_n hx hb dX12_deliver_0 rfl (lv_at hl 0 rfl) ?_
  refine lv_iload_n hx hb dX12_deliver_1 rfl (lv_at hl 1 rfl) ?_
  refine z_ci hW hS hA (va_runV (As := [.int a1]) (rest := []) ⟨hx, hb, hml, hown, hts⟩ (ct_X12_isStation l G ad a1 _) (cwV 1 hts gX12_deliver_X12_isStation rfl rfl rfl (by decide +kernel) ⟨Nat.le_of_ble_eq_true rfl, Nat.le_of_ble_eq_true rfl⟩) (z_preV hK hW rfl rfl) rfl rfl hl.1 rfl (lv_room (Nat.le_of_ble_eq_true rfl)) dX12_deliver_2 ⟨Nat.le_of_ble_eq_true rfl, Nat.le_of_ble_eq_true rfl⟩) (fun r u1 H locs hp hW hS => ?_)
  obtain ⟨e9, rfl⟩ := hp
  rw [e9] at hW
  refine lv_if_eq (tgt := 29) hx hb dX12_deliver_5 (by decide) (fun c1 => ?_) (fun c1 => absurd (by decide) c1)
  refine lv_iconst (v := (-1)) hx hb dX12_deliver_29 (by decide) ?_
  exact z_iret hx hb hr hK hS (Nat.le_of_ble_eq_true rfl) (Nat.le_of_ble_eq_true rfl) hlocks dX12_deliver_30 (shM, ad, IM, JM, PM ad) hW rfl
set_option maxHeartbeats 4000000 in
set_option maxRecDepth 100000 in
theorem ct_X12_dip (l : Launch) (G : z_G) (ad : Nat → Nat) (a1 : Int32) (a2 : Int32) : z_M l yX12_dip wsX12_dip { frames := 2, cells := 0, slots := 0, locals := 34 } [.ref (ad 0), .int a1, .int a2] G (shM, ad, IM, JM, PM ad) (fun r u1 => r = (-1)) 0 0 := by
  intro sz
  refine z_headQ (cc := cX12_dip) (maxL := 4) (ret := (some .int)) (by decide) rfl (Nat.le_of_ble_eq_true rfl) ?_
  intro p e s m below meth c ls hIn hK hsz hW hl
  obtain ⟨hx, hb, hr, hml, hown, hts, hlocks, hname⟩ := hIn
  subst hsz
  have hown : s.vm.findClass RX12 = some m.cls := hown
  have hA : ∀ q : Nat, s.heap.size ≤ q → z_A (shM, ad, IM, JM, PM ad) s.heap.size q := fun q h => Or.inr h
  generalize hAe : z_A (shM, ad, IM, JM, PM ad) s.heap.size = A at *
  have hS : va_S A s.heap s.heap [] := va_S.rf
  have hl : lv_has ls 4 [(0, .ref (ad 0)), (1, .int a1), (2, .int a2)] := hl
  refine lv_aload_n hx hb dX12_dip_0 rfl (lv_at hl 0 rfl) ?_
  refine lv_iload_n hx hb dX12_dip_1 rfl (lv_at hl 1 rfl) ?_
  refine z_ci hW hS hA (va_runV (As := [.int a1]) (rest := []) ⟨hx, hb, hml, hown, hts⟩ (ct_X12_isStation l G ad a1 _) (cwV 1 hts gX12_dip_X12_isStation rfl rfl rfl (by decide +kernel) ⟨Nat.le_of_ble_eq_true rfl, Nat.le_of_ble_eq_true rfl⟩) (z_preV hK hW rfl rfl) rfl rfl hl.1 rfl (lv_room (Nat.le_of_ble_eq_true rfl)) dX12_dip_2 ⟨Nat.le_of_ble_eq_true rfl, Nat.le_of_ble_eq_true rfl⟩) (fun r u1 H locs hp hW hS => ?_)
  obtain ⟨e9, rfl⟩ := hp
  rw [e9] at hW
  refine lv_if_eq (tgt := 30) hx hb dX12_dip_5 (by decide) (fun c1 => ?_) (fun c1 => absurd (by decide) c1)
  refine lv_iconst (v := (-1)) hx hb dX12_dip_30 (by decide) ?_
  exact z_iret hx hb hr hK hS (Nat.le_of_ble_eq_true rfl) (Nat.le_of_ble_eq_true rfl) hlocks dX12_dip_31 (shM, ad, IM, JM, PM ad) hW rfl
set_option maxHeartbeats 4000000 in
set_option maxRecDepth 100000 in
theorem ct_X12_in (l : Launch) (G : z_G) (ad : Nat → Nat) (a1 : Int32) (a2 : Int32) : z_M l yX12_in wsX12_in { frames := 2, cells := 0, slots := 0, locals := 33 } [.ref (ad 0), .int a1, .int a2] G (shM, ad, IM, JM, PM ad) (fun r u1 => r = (-2000000000)) 0 0 := by
  intro sz
  refine z_headQ (cc := cX12_in) (maxL := 3) (ret := (some .int)) (by decide) rfl (Nat.le_of_ble_eq_true rfl) ?_
  intro p e s m below meth c ls hIn hK hsz hW hl
  obtain ⟨hx, hb, hr, hml, hown, hts, hlocks, hname⟩ := hIn
  subst hsz
  have hown : s.vm.findClass RX12 = some m.cls := hown
  have hA : ∀ q : Nat, s.heap.size ≤ q → z_A (shM, ad, IM, JM, PM ad) s.heap.size q := fun q h => Or.inr h
  generalize hAe : z_A (shM, ad, IM, JM, PM ad) s.heap.size = A at *
  have hS : va_S A s.heap s.heap [] := va_S.rf
  have hl : lv_has ls 3 [(0, .ref (ad 0)), (1, .int a1), (2, .int a2)] := hl
  refine lv_aload_n hx hb dX12_in_0 rfl (lv_at hl 0 rfl) ?_
  refine lv_iload_n hx hb dX12_in_1 rfl (lv_at hl 1 rfl) ?_
  refine z_ci hW hS hA (va_runV (As := [.int a1]) (rest := []) ⟨hx, hb, hml, hown, hts⟩ (ct_X12_isStation l G ad a1 _) (cwV 1 hts gX12_in_X12_isStation rfl rfl rfl (by decide +kernel) ⟨Nat.le_of_ble_eq_true rfl, Nat.le_of_ble_eq_true rfl⟩) (z_preV hK hW rfl rfl) rfl rfl hl.1 rfl (lv_room (Nat.le_of_ble_eq_true rfl)) dX12_in_2 ⟨Nat.le_of_ble_eq_true rfl, Nat.le_of_ble_eq_true rfl⟩) (fun r u1 H locs hp hW hS => ?_)
  obtain ⟨e9, rfl⟩ := hp
  rw [e9] at hW
  refine lv_if_eq (tgt := 34) hx hb dX12_in_5 (by decide) (fun c1 => ?_) (fun c1 => absurd (by decide) c1)
  refine lv_ldcw (v := (-2000000000)) hx hb hown (hts (.constant RX12 482 (-2000000000)) (List.mem_of_getElem? (i := 2) rfl)) dX12_in_34 ?_
  exact z_iret hx hb hr hK hS (Nat.le_of_ble_eq_true rfl) (Nat.le_of_ble_eq_true rfl) hlocks dX12_in_37 (shM, ad, IM, JM, PM ad) hW rfl
set_option maxHeartbeats 4000000 in
set_option maxRecDepth 100000 in
theorem ct_X12_sums_ (l : Launch) (G : z_G) (ad : Nat → Nat) (a1 : Int32) (a2 : Int32) (a3 : Int32) (a4 : Int32) : z_Ml l yX12_sums_ wsX12_sums_ { frames := 2, cells := 0, slots := 0, locals := 34 } [.ref (ad 0), .int a1, .int a2, .int a3, .int a4] G (shM, ad, IM, JM, PM ad) (fun r u1 => r = (-1)) 0 0 := by
  intro sz
  refine z_headQ (cc := cX12_sums_) (maxL := 18) (ret := (some .long)) (by decide) rfl (Nat.le_of_ble_eq_true rfl) ?_
  intro p e s m below meth c ls hIn hK hsz hW hl
  obtain ⟨hx, hb, hr, hml, hown, hts, hlocks, hname⟩ := hIn
  subst hsz
  have hown : s.vm.findClass RX12 = some m.cls := hown
  have hA : ∀ q : Nat, s.heap.size ≤ q → z_A (shM, ad, IM, JM, PM ad) s.heap.size q := fun q h => Or.inr h
  generalize hAe : z_A (shM, ad, IM, JM, PM ad) s.heap.size = A at *
  have hS : va_S A s.heap s.heap [] := va_S.rf
  have hl : lv_has ls 18 [(0, .ref (ad 0)), (1, .int a1), (2, .int a2), (3, .int a3), (4, .int a4)] := hl
  refine lv_aload_n hx hb dX12_sums__0 rfl (lv_at hl 0 rfl) ?_
  refine lv_iload_n hx hb dX12_sums__1 rfl (lv_at hl 1 rfl) ?_
  refine z_ci hW hS hA (va_runV (As := [.int a1]) (rest := []) ⟨hx, hb, hml, hown, hts⟩ (ct_X12_isStation l G ad a1 _) (cwV 1 hts gX12_sums__X12_isStation rfl rfl rfl (by decide +kernel) ⟨Nat.le_of_ble_eq_true rfl, Nat.le_of_ble_eq_true rfl⟩) (z_preV hK hW rfl rfl) rfl rfl hl.1 rfl (lv_room (Nat.le_of_ble_eq_true rfl)) dX12_sums__2 ⟨Nat.le_of_ble_eq_true rfl, Nat.le_of_ble_eq_true rfl⟩) (fun r u1 H locs hp hW hS => ?_)
  obtain ⟨e9, rfl⟩ := hp
  rw [e9] at hW
  refine lv_if_eq (tgt := 37) hx hb dX12_sums__5 (by decide) (fun c1 => ?_) (fun c1 => absurd (by decide) c1)
  refine lv_ldc2 (v := (-1)) hx hb hown (hts (.constantLong RX12 269 (-1)) (List.mem_of_getElem? (i := 2) rfl)) dX12_sums__37 ?_
  exact z_lret hx hb hr hK hS (Nat.le_of_ble_eq_true rfl) (Nat.le_of_ble_eq_true rfl) hlocks dX12_sums__40 (shM, ad, IM, JM, PM ad) hW rfl
set_option maxHeartbeats 4000000 in
set_option maxRecDepth 100000 in
theorem ct_X12_judged (l : Launch) (G : z_G) (ad : Nat → Nat) (a1 : Int32) (a2 : Int32) (a3 : Int32) : z_Ml l yX12_judged wsX12_judged { frames := 2, cells := 0, slots := 0, locals := 33 } [.ref (ad 0), .int a1, .int a2, .int a3] G (shM, ad, IM, JM, PM ad) (fun r u1 => r = (-1)) 0 0 := by
  intro sz
  refine z_headQ (cc := cX12_judged) (maxL := 10) (ret := (some .long)) (by decide) rfl (Nat.le_of_ble_eq_true rfl) ?_
  intro p e s m below meth c ls hIn hK hsz hW hl
  obtain ⟨hx, hb, hr, hml, hown, hts, hlocks, hname⟩ := hIn
  subst hsz
  have hown : s.vm.findClass RX12 = some m.cls := hown
  have hA : ∀ q : Nat, s.heap.size ≤ q → z_A (shM, ad, IM, JM, PM ad) s.heap.size q := fun q h => Or.inr h
  generalize hAe : z_A (shM, ad, IM, JM, PM ad) s.heap.size = A at *
  have hS : va_S A s.heap s.heap [] := va_S.rf
  have hl : lv_has ls 10 [(0, .ref (ad 0)), (1, .int a1), (2, .int a2), (3, .int a3)] := hl
  refine lv_aload_n hx hb dX12_judged_0 rfl (lv_at hl 0 rfl) ?_
  refine lv_iload_n hx hb dX12_judged_1 rfl (lv_at hl 1 rfl) ?_
  refine z_ci hW hS hA (va_runV (As := [.int a1]) (rest := []) ⟨hx, hb, hml, hown, hts⟩ (ct_X12_isStation l G ad a1 _) (cwV 1 hts gX12_judged_X12_isStation rfl rfl rfl (by decide +kernel) ⟨Nat.le_of_ble_eq_true rfl, Nat.le_of_ble_eq_true rfl⟩) (z_preV hK hW rfl rfl) rfl rfl hl.1 rfl (lv_room (Nat.le_of_ble_eq_true rfl)) dX12_judged_2 ⟨Nat.le_of_ble_eq_true rfl, Nat.le_of_ble_eq_true rfl⟩) (fun r u1 H locs hp hW hS => ?_)
  obtain ⟨e9, rfl⟩ := hp
  rw [e9] at hW
  refine lv_if_eq (tgt := 27) hx hb dX12_judged_5 (by decide) (fun c1 => ?_) (fun c1 => absurd (by decide) c1)
  refine lv_ldc2 (v := (-1)) hx hb hown (hts (.constantLong RX12 269 (-1)) (List.mem_of_getElem? (i := 2) rfl)) dX12_judged_27 ?_
  exact z_lret hx hb hr hK hS (Nat.le_of_ble_eq_true rfl) (Nat.le_of_ble_eq_true rfl) hlocks dX12_judged_30 (shM, ad, IM, JM, PM ad) hW rfl
