theorem dX12_min_0 : decode cX12_min 0 = .ok (.iload_n 0, 1) := z_dd_26 (by decide +kernel)
theorem dX12_min_1 : decode cX12_min 1 = .ok (.iload_n 1, 1) := z_dd_27 (by decide +kernel)
theorem dX12_min_2 : decode cX12_min 2 = .ok (.if_icmp .ge 7, 3) := z_dd_162 (by decide +kernel)
theorem dX12_min_9 : decode cX12_min 9 = .ok (.iload_n 1, 1) := z_dd_27 (by decide +kernel)
theorem dX12_min_10 : decode cX12_min 10 = .ok (.ireturn, 1) := z_dd_172 (by decide +kernel)
theorem dX12_min_5 : decode cX12_min 5 = .ok (.iload_n 0, 1) := z_dd_26 (by decide +kernel)
theorem dX12_min_6 : decode cX12_min 6 = .ok (.goto 4, 3) := z_dd_167 (by decide +kernel)
theorem dX12_abs_0 : decode cX12_abs 0 = .ok (.iload_n 0, 1) := z_dd_26 (by decide +kernel)
theorem dX12_abs_1 : decode cX12_abs 1 = .ok (.ifCond .ge 8, 3) := z_dd_156 (by decide +kernel)
theorem dX12_abs_9 : decode cX12_abs 9 = .ok (.iload_n 0, 1) := z_dd_26 (by decide +kernel)
theorem dX12_abs_10 : decode cX12_abs 10 = .ok (.ireturn, 1) := z_dd_172 (by decide +kernel)
theorem dX12_abs_4 : decode cX12_abs 4 = .ok (.iload_n 0, 1) := z_dd_26 (by decide +kernel)
theorem dX12_abs_5 : decode cX12_abs 5 = .ok (.ineg, 1) := z_dd_116 (by decide +kernel)
theorem dX12_abs_6 : decode cX12_abs 6 = .ok (.goto 4, 3) := z_dd_167 (by decide +kernel)
theorem dX12_isHolder_12 : decode cX12_isHolder 12 = .ok (.iconst 1, 1) := z_dd_4 (by decide +kernel)
theorem dX12_isHolder_13 : decode cX12_isHolder 13 = .ok (.goto 4, 3) := z_dd_167 (by decide +kernel)
theorem dX12_isStation_12 : decode cX12_isStation 12 = .ok (.iconst 1, 1) := z_dd_4 (by decide +kernel)
theorem dX12_isStation_13 : decode cX12_isStation 13 = .ok (.goto 4, 3) := z_dd_167 (by decide +kernel)
theorem dX12_note_8 : decode cX12_note 8 = .ok (.iload_n 2, 1) := z_dd_28 (by decide +kernel)
theorem dX12_note_9 : decode cX12_note 9 = .ok (.iconst 0, 1) := z_dd_3 (by decide +kernel)
theorem dX12_note_10 : decode cX12_note 10 = .ok (.iconst 4, 1) := z_dd_7 (by decide +kernel)
set_option maxRecDepth 20000 in
theorem ggX12_note_X12_within : GoodIn wsX12_note wsX12_within := goodIn_sub (fa_c (me_s (me_l (List.mem_of_getElem? (i := 15) rfl))) fa_n) (by decide +kernel)
set_option maxRecDepth 20000 in
theorem gX12_note_X12_within : GoodIn wsX12_note (va_wsS RX12 235 yX12_within wsX12_within) := goodIn_app (goodIn_sub (fa_c (me_s (me_l (List.mem_of_getElem? (i := 13) rfl))) (fa_c (me_s (me_l (List.mem_of_getElem? (i := 14) rfl))) (fa_c (me_s (me_l (List.mem_of_getElem? (i := 10) rfl))) fa_n))) (by decide +kernel)) ggX12_note_X12_within
theorem dX12_note_11 : decode cX12_note 11 = .ok (.invokestatic 235, 3) := z_dd_184 (by decide +kernel)
theorem dX12_note_14 : decode cX12_note 14 = .ok (.ifCond .eq 20, 3) := z_dd_153 (by decide +kernel)
theorem dX12_note_17 : decode cX12_note 17 = .ok (.iload_n 3, 1) := z_dd_29 (by decide +kernel)
set_option maxRecDepth 20000 in
theorem ggX12_note_X12_isDay : GoodIn wsX12_note wsX12_isDay := goodIn_sub (fa_c (me_s (me_l (List.mem_of_getElem? (i := 18) rfl))) fa_n) (by decide +kernel)
set_option maxRecDepth 20000 in
theorem gX12_note_X12_isDay : GoodIn wsX12_note (va_wsS RX12 243 yX12_isDay wsX12_isDay) := goodIn_app (goodIn_sub (fa_c (me_s (me_l (List.mem_of_getElem? (i := 16) rfl))) (fa_c (me_s (me_l (List.mem_of_getElem? (i := 17) rfl))) (fa_c (me_s (me_l (List.mem_of_getElem? (i := 10) rfl))) fa_n))) (by decide +kernel)) ggX12_note_X12_isDay
theorem dX12_note_18 : decode cX12_note 18 = .ok (.invokestatic 243, 3) := z_dd_184 (by decide +kernel)
theorem dX12_note_21 : decode cX12_note 21 = .ok (.ifCond .eq 13, 3) := z_dd_153 (by decide +kernel)
theorem dX12_note_24 : decode cX12_note 24 = .ok (.aload_n 0, 1) := z_dd_42 (by decide +kernel)
theorem dX12_note_25 : decode cX12_note 25 = .ok (.getfield 246, 3) := z_dd_180 (by decide +kernel)
theorem dX12_note_28 : decode cX12_note 28 = .ok (.sipush 200, 3) := z_dd_17 (by decide +kernel)
theorem dX12_note_31 : decode cX12_note 31 = .ok (.if_icmp .ne 5, 3) := z_dd_160 (by decide +kernel)
theorem dX12_note_36 : decode cX12_note 36 = .ok (.aload_n 0, 1) := z_dd_42 (by decide +kernel)
theorem dX12_note_37 : decode cX12_note 37 = .ok (.getfield 25, 3) := z_dd_180 (by decide +kernel)
theorem dX12_note_40 : decode cX12_note 40 = .ok (.aload_n 0, 1) := z_dd_42 (by decide +kernel)
theorem dX12_note_41 : decode cX12_note 41 = .ok (.getfield 246, 3) := z_dd_180 (by decide +kernel)
theorem dX12_note_44 : decode cX12_note 44 = .ok (.iload_n 1, 1) := z_dd_27 (by decide +kernel)
theorem dX12_note_45 : decode cX12_note 45 = .ok (.iastore, 1) := z_dd_79 (by decide +kernel)
theorem dX12_note_46 : decode cX12_note 46 = .ok (.aload_n 0, 1) := z_dd_42 (by decide +kernel)
theorem dX12_note_47 : decode cX12_note 47 = .ok (.getfield 28, 3) := z_dd_180 (by decide +kernel)
theorem dX12_note_50 : decode cX12_note 50 = .ok (.aload_n 0, 1) := z_dd_42 (by decide +kernel)
theorem dX12_note_51 : decode cX12_note 51 = .ok (.getfield 246, 3) := z_dd_180 (by decide +kernel)
theorem dX12_note_54 : decode cX12_note 54 = .ok (.iload_n 2, 1) := z_dd_28 (by decide +kernel)
theorem dX12_note_55 : decode cX12_note 55 = .ok (.iastore, 1) := z_dd_79 (by decide +kernel)
theorem dX12_note_56 : decode cX12_note 56 = .ok (.aload_n 0, 1) := z_dd_42 (by decide +kernel)
theorem dX12_note_57 : decode cX12_note 57 = .ok (.getfield 31, 3) := z_dd_180 (by decide +kernel)
theorem dX12_note_60 : decode cX12_note 60 = .ok (.aload_n 0, 1) := z_dd_42 (by decide +kernel)
theorem dX12_note_61 : decode cX12_note 61 = .ok (.getfield 246, 3) := z_dd_180 (by decide +kernel)
theorem dX12_note_64 : decode cX12_note 64 = .ok (.iload_n 3, 1) := z_dd_29 (by decide +kernel)
theorem dX12_note_65 : decode cX12_note 65 = .ok (.iastore, 1) := z_dd_79 (by decide +kernel)
theorem dX12_note_66 : decode cX12_note 66 = .ok (.aload_n 0, 1) := z_dd_42 (by decide +kernel)
theorem dX12_note_67 : decode cX12_note 67 = .ok (.getfield 34, 3) := z_dd_180 (by decide +kernel)
theorem dX12_note_70 : decode cX12_note 70 = .ok (.aload_n 0, 1) := z_dd_42 (by decide +kernel)
theorem dX12_note_71 : decode cX12_note 71 = .ok (.getfield 246, 3) := z_dd_180 (by decide +kernel)
theorem dX12_note_74 : decode cX12_note 74 = .ok (.aload_n 0, 1) := z_dd_42 (by decide +kernel)
theorem dX12_note_75 : decode cX12_note 75 = .ok (.getfield 232, 3) := z_dd_180 (by decide +kernel)
theorem dX12_note_78 : decode cX12_note 78 = .ok (.iastore, 1) := z_dd_79 (by decide +kernel)
theorem dX12_note_79 : decode cX12_note 79 = .ok (.aload_n 0, 1) := z_dd_42 (by decide +kernel)
theorem dX12_note_80 : decode cX12_note 80 = .ok (.getfield 37, 3) := z_dd_180 (by decide +kernel)
theorem dX12_note_83 : decode cX12_note 83 = .ok (.aload_n 0, 1) := z_dd_42 (by decide +kernel)
theorem dX12_note_84 : decode cX12_note 84 = .ok (.getfield 246, 3) := z_dd_180 (by decide +kernel)
theorem dX12_note_87 : decode cX12_note 87 = .ok (.iconst (-1), 1) := z_dd_2 (by decide +kernel)
theorem dX12_note_88 : decode cX12_note 88 = .ok (.iastore, 1) := z_dd_79 (by decide +kernel)
theorem dX12_note_89 : decode cX12_note 89 = .ok (.aload_n 0, 1) := z_dd_42 (by decide +kernel)
theorem dX12_note_90 : decode cX12_note 90 = .ok (.dup, 1) := z_dd_89 (by decide +kernel)
theorem dX12_note_91 : decode cX12_note 91 = .ok (.getfield 246, 3) := z_dd_180 (by decide +kernel)
theorem dX12_note_94 : decode cX12_note 94 = .ok (.iconst 1, 1) := z_dd_4 (by decide +kernel)
theorem dX12_note_95 : decode cX12_note 95 = .ok (.iadd, 1) := z_dd_96 (by decide +kernel)
theorem dX12_note_96 : decode cX12_note 96 = .ok (.putfield 246, 3) := z_dd_181 (by decide +kernel)
theorem dX12_note_99 : decode cX12_note 99 = .ok (.aload_n 0, 1) := z_dd_42 (by decide +kernel)
theorem dX12_note_100 : decode cX12_note 100 = .ok (.getfield 246, 3) := z_dd_180 (by decide +kernel)
theorem dX12_note_103 : decode cX12_note 103 = .ok (.iconst 1, 1) := z_dd_4 (by decide +kernel)
theorem dX12_note_104 : decode cX12_note 104 = .ok (.isub, 1) := z_dd_100 (by decide +kernel)
theorem dX12_note_105 : decode cX12_note 105 = .ok (.ireturn, 1) := z_dd_172 (by decide +kernel)
theorem dX12_undo_12 : decode cX12_undo 12 = .ok (.aload_n 0, 1) := z_dd_42 (by decide +kernel)
theorem dX12_undo_13 : decode cX12_undo 13 = .ok (.getfield 37, 3) := z_dd_180 (by decide +kernel)
theorem dX12_undo_16 : decode cX12_undo 16 = .ok (.iload_n 1, 1) := z_dd_27 (by decide +kernel)
theorem dX12_undo_17 : decode cX12_undo 17 = .ok (.iaload, 1) := z_dd_46 (by decide +kernel)
theorem dX12_undo_18 : decode cX12_undo 18 = .ok (.ifCond .lt 5, 3) := z_dd_155 (by decide +kernel)
theorem dX12_undo_23 : decode cX12_undo 23 = .ok (.aload_n 0, 1) := z_dd_42 (by decide +kernel)
theorem dX12_undo_24 : decode cX12_undo 24 = .ok (.getfield 37, 3) := z_dd_180 (by decide +kernel)
theorem dX12_undo_27 : decode cX12_undo 27 = .ok (.iload_n 1, 1) := z_dd_27 (by decide +kernel)
theorem dX12_undo_28 : decode cX12_undo 28 = .ok (.aload_n 0, 1) := z_dd_42 (by decide +kernel)
theorem dX12_undo_29 : decode cX12_undo 29 = .ok (.getfield 232, 3) := z_dd_180 (by decide +kernel)
theorem dX12_undo_32 : decode cX12_undo 32 = .ok (.iastore, 1) := z_dd_79 (by decide +kernel)
theorem dX12_undo_33 : decode cX12_undo 33 = .ok (.iconst 1, 1) := z_dd_4 (by decide +kernel)
theorem dX12_undo_34 : decode cX12_undo 34 = .ok (.ireturn, 1) := z_dd_172 (by decide +kernel)
theorem dX12_kindOn_0 : decode cX12_kindOn 0 = .ok (.iconst (-1), 1) := z_dd_2 (by decide +kernel)
theorem dX12_kindOn_1 : decode cX12_kindOn 1 = .ok (.istore 4, 2) := z_dd_54 (by decide +kernel)
theorem dX12_kindOn_3 : decode cX12_kindOn 3 = .ok (.iconst 0, 1) := z_dd_3 (by decide +kernel)
theorem dX12_kindOn_4 : decode cX12_kindOn 4 = .ok (.istore 5, 2) := z_dd_54 (by decide +kernel)
theorem dX12_kindOn_6 : decode cX12_kindOn 6 = .ok (.iload 5, 2) := z_dd_21 (by decide +kernel)
theorem dX12_kindOn_8 : decode cX12_kindOn 8 = .ok (.aload_n 0, 1) := z_dd_42 (by decide +kernel)
theorem dX12_kindOn_9 : decode cX12_kindOn 9 = .ok (.getfield 246, 3) := z_dd_180 (by decide +kernel)
theorem dX12_kindOn_12 : decode cX12_kindOn 12 = .ok (.if_icmp .ge 92, 3) := z_dd_162 (by decide +kernel)
theorem dX12_kindOn_104 : decode cX12_kindOn 104 = .ok (.iload 4, 2) := z_dd_21 (by decide +kernel)
theorem dX12_kindOn_106 : decode cX12_kindOn 106 = .ok (.ifCond .ge 7, 3) := z_dd_156 (by decide +kernel)
theorem dX12_kindOn_113 : decode cX12_kindOn 113 = .ok (.aload_n 0, 1) := z_dd_42 (by decide +kernel)
theorem dX12_kindOn_114 : decode cX12_kindOn 114 = .ok (.getfield 28, 3) := z_dd_180 (by decide +kernel)
theorem dX12_kindOn_117 : decode cX12_kindOn 117 = .ok (.iload 4, 2) := z_dd_21 (by decide +kernel)
theorem dX12_kindOn_119 : decode cX12_kindOn 119 = .ok (.iaload, 1) := z_dd_46 (by decide +kernel)
theorem dX12_kindOn_120 : decode cX12_kindOn 120 = .ok (.ireturn, 1) := z_dd_172 (by decide +kernel)
theorem dX12_kindOn_109 : decode cX12_kindOn 109 = .ok (.iconst 0, 1) := z_dd_3 (by decide +kernel)
theorem dX12_kindOn_110 : decode cX12_kindOn 110 = .ok (.goto 10, 3) := z_dd_167 (by decide +kernel)
theorem dX12_kindOn_15 : decode cX12_kindOn 15 = .ok (.aload_n 0, 1) := z_dd_42 (by decide +kernel)
theorem dX12_kindOn_16 : decode cX12_kindOn 16 = .ok (.getfield 25, 3) := z_dd_180 (by decide +kernel)
theorem dX12_kindOn_19 : decode cX12_kindOn 19 = .ok (.iload 5, 2) := z_dd_21 (by decide +kernel)
theorem dX12_kindOn_21 : decode cX12_kindOn 21 = .ok (.iaload, 1) := z_dd_46 (by decide +kernel)
theorem dX12_kindOn_22 : decode cX12_kindOn 22 = .ok (.iload_n 1, 1) := z_dd_27 (by decide +kernel)
theorem dX12_kindOn_23 : decode cX12_kindOn 23 = .ok (.if_icmp .ne 75, 3) := z_dd_160 (by decide +kernel)
theorem dX12_kindOn_98 : decode cX12_kindOn 98 = .ok (.iinc 5 1, 3) := z_dd_132 (by decide +kernel)
theorem dX12_kindOn_101 : decode cX12_kindOn 101 = .ok (.goto (-95), 3) := z_dd_167 (by decide +kernel)
theorem dX12_kindOn_26 : decode cX12_kindOn 26 = .ok (.aload_n 0, 1) := z_dd_42 (by decide +kernel)
theorem dX12_kindOn_27 : decode cX12_kindOn 27 = .ok (.getfield 31, 3) := z_dd_180 (by decide +kernel)
theorem dX12_kindOn_30 : decode cX12_kindOn 30 = .ok (.iload 5, 2) := z_dd_21 (by decide +kernel)
theorem dX12_kindOn_32 : decode cX12_kindOn 32 = .ok (.iaload, 1) := z_dd_46 (by decide +kernel)
theorem dX12_kindOn_33 : decode cX12_kindOn 33 = .ok (.iload_n 2, 1) := z_dd_28 (by decide +kernel)
theorem dX12_kindOn_34 : decode cX12_kindOn 34 = .ok (.if_icmp .gt 64, 3) := z_dd_163 (by decide +kernel)
theorem dX12_kindOn_37 : decode cX12_kindOn 37 = .ok (.aload_n 0, 1) := z_dd_42 (by decide +kernel)
theorem dX12_kindOn_38 : decode cX12_kindOn 38 = .ok (.getfield 34, 3) := z_dd_180 (by decide +kernel)
theorem dX12_kindOn_41 : decode cX12_kindOn 41 = .ok (.iload 5, 2) := z_dd_21 (by decide +kernel)
theorem dX12_kindOn_43 : decode cX12_kindOn 43 = .ok (.iaload, 1) := z_dd_46 (by decide +kernel)
theorem dX12_kindOn_44 : decode cX12_kindOn 44 = .ok (.iload_n 3, 1) := z_dd_29 (by decide +kernel)
theorem dX12_kindOn_45 : decode cX12_kindOn 45 = .ok (.if_icmp .gt 53, 3) := z_dd_163 (by decide +kernel)
theorem dX12_kindOn_48 : decode cX12_kindOn 48 = .ok (.aload_n 0, 1) := z_dd_42 (by decide +kernel)
theorem dX12_kindOn_49 : decode cX12_kindOn 49 = .ok (.getfield 37, 3) := z_dd_180 (by decide +kernel)
theorem dX12_kindOn_52 : decode cX12_kindOn 52 = .ok (.iload 5, 2) := z_dd_21 (by decide +kernel)
theorem dX12_kindOn_54 : decode cX12_kindOn 54 = .ok (.iaload, 1) := z_dd_46 (by decide +kernel)
theorem dX12_kindOn_55 : decode cX12_kindOn 55 = .ok (.ifCond .lt 17, 3) := z_dd_155 (by decide +kernel)
theorem dX12_kindOn_72 : decode cX12_kindOn 72 = .ok (.iload 4, 2) := z_dd_21 (by decide +kernel)
theorem dX12_kindOn_74 : decode cX12_kindOn 74 = .ok (.ifCond .lt 20, 3) := z_dd_155 (by decide +kernel)
theorem dX12_kindOn_94 : decode cX12_kindOn 94 = .ok (.iload 5, 2) := z_dd_21 (by decide +kernel)
theorem dX12_kindOn_96 : decode cX12_kindOn 96 = .ok (.istore 4, 2) := z_dd_54 (by decide +kernel)
theorem dX12_kindOn_77 : decode cX12_kindOn 77 = .ok (.aload_n 0, 1) := z_dd_42 (by decide +kernel)
theorem dX12_kindOn_78 : decode cX12_kindOn 78 = .ok (.getfield 31, 3) := z_dd_180 (by decide +kernel)
theorem dX12_kindOn_81 : decode cX12_kindOn 81 = .ok (.iload 5, 2) := z_dd_21 (by decide +kernel)
theorem dX12_kindOn_83 : decode cX12_kindOn 83 = .ok (.iaload, 1) := z_dd_46 (by decide +kernel)
theorem dX12_kindOn_84 : decode cX12_kindOn 84 = .ok (.aload_n 0, 1) := z_dd_42 (by decide +kernel)
theorem dX12_kindOn_85 : decode cX12_kindOn 85 = .ok (.getfield 31, 3) := z_dd_180 (by decide +kernel)
theorem dX12_kindOn_88 : decode cX12_kindOn 88 = .ok (.iload 4, 2) := z_dd_21 (by decide +kernel)
theorem dX12_kindOn_90 : decode cX12_kindOn 90 = .ok (.iaload, 1) := z_dd_46 (by decide +kernel)
theorem dX12_kindOn_91 : decode cX12_kindOn 91 = .ok (.if_icmp .lt 7, 3) := z_dd_161 (by decide +kernel)
theorem dX12_kindOn_58 : decode cX12_kindOn 58 = .ok (.aload_n 0, 1) := z_dd_42 (by decide +kernel)
theorem dX12_kindOn_59 : decode cX12_kindOn 59 = .ok (.getfield 37, 3) := z_dd_180 (by decide +kernel)
theorem dX12_kindOn_62 : decode cX12_kindOn 62 = .ok (.iload 5, 2) := z_dd_21 (by decide +kernel)
theorem dX12_kindOn_64 : decode cX12_kindOn 64 = .ok (.iaload, 1) := z_dd_46 (by decide +kernel)
theorem dX12_kindOn_65 : decode cX12_kindOn 65 = .ok (.iload_n 3, 1) := z_dd_29 (by decide +kernel)
theorem dX12_kindOn_66 : decode cX12_kindOn 66 = .ok (.if_icmp .gt 6, 3) := z_dd_163 (by decide +kernel)
theorem dX12_kindOn_69 : decode cX12_kindOn 69 = .ok (.goto 29, 3) := z_dd_167 (by decide +kernel)
theorem dX12_classOf_8 : decode cX12_classOf 8 = .ok (.iload_n 2, 1) := z_dd_28 (by decide +kernel)
set_option maxRecDepth 20000 in
theorem ggX12_classOf_X12_isDay : GoodIn wsX12_classOf wsX12_isDay := goodIn_sub (fa_c (me_s (me_l (List.mem_of_getElem? (i := 8) rfl))) fa_n) (by decide +kernel)
set_option maxRecDepth 20000 in
theorem gX12_classOf_X12_isDay : GoodIn wsX12_classOf (va_wsS RX12 243 yX12_isDay wsX12_isDay) := goodIn_app (goodIn_sub (fa_c (me_s (me_l (List.mem_of_getElem? (i := 6) rfl))) (fa_c (me_s (me_l (List.mem_of_getElem? (i := 7) rfl))) (fa_c (me_s (me_l (List.mem_of_getElem? (i := 3) rfl))) fa_n))) (by decide +kernel)) ggX12_classOf_X12_isDay
theorem dX12_classOf_9 : decode cX12_classOf 9 = .ok (.invokestatic 243, 3) := z_dd_184 (by decide +kernel)
theorem dX12_classOf_12 : decode cX12_classOf 12 = .ok (.ifCond .eq 20, 3) := z_dd_153 (by decide +kernel)
theorem dX12_classOf_15 : decode cX12_classOf 15 = .ok (.iload_n 3, 1) := z_dd_29 (by decide +kernel)
theorem dX12_classOf_16 : decode cX12_classOf 16 = .ok (.invokestatic 243, 3) := z_dd_184 (by decide +kernel)
theorem dX12_classOf_19 : decode cX12_classOf 19 = .ok (.ifCond .eq 13, 3) := z_dd_153 (by decide +kernel)
theorem dX12_classOf_22 : decode cX12_classOf 22 = .ok (.aload_n 0, 1) := z_dd_42 (by decide +kernel)
theorem dX12_classOf_23 : decode cX12_classOf 23 = .ok (.iload_n 1, 1) := z_dd_27 (by decide +kernel)
theorem dX12_classOf_24 : decode cX12_classOf 24 = .ok (.iload_n 2, 1) := z_dd_28 (by decide +kernel)
theorem dX12_classOf_25 : decode cX12_classOf 25 = .ok (.iload_n 3, 1) := z_dd_29 (by decide +kernel)
set_option maxRecDepth 20000 in
theorem ggX12_classOf_X12_kindOn : GoodIn wsX12_classOf wsX12_kindOn := goodIn_sub (fa_c (me_s (me_l (List.mem_of_getElem? (i := 12) rfl))) (fa_a (fa_c (me_s (me_l (List.mem_of_getElem? (i := 13) rfl))) (fa_c (me_s (me_l (List.mem_of_getElem? (i := 14) rfl))) (fa_c (me_s (me_l (List.mem_of_getElem? (i := 15) rfl))) (fa_c (me_s (me_l (List.mem_of_getElem? (i := 16) rfl))) (fa_c (me_s (me_l (List.mem_of_getElem? (i := 17) rfl))) (fa_c (me_s (me_l (List.mem_of_getElem? (i := 18) rfl))) fa_n)))))) (fun w h => (me_s (me_r h))))) (by decide +kernel)
set_option maxRecDepth 20000 in
theorem gX12_classOf_X12_kindOn : GoodIn wsX12_classOf (wsV RX12 249 RX12 yX12_kindOn wsX12_kindOn) := goodIn_app (goodIn_sub (fa_c (me_s (me_l (List.mem_of_getElem? (i := 9) rfl))) (fa_c (me_s (me_l (List.mem_of_getElem? (i := 10) rfl))) (fa_c (me_s (me_l (List.mem_of_getElem? (i := 11) rfl))) (fa_c (me_s (me_l (List.mem_of_getElem? (i := 3) rfl))) fa_n)))) (by decide +kernel)) ggX12_classOf_X12_kindOn
theorem dX12_classOf_26 : decode cX12_classOf 26 = .ok (.invokevirtual 249, 3) := z_dd_182 (by decide +kernel)
theorem dX12_classOf_29 : decode cX12_classOf 29 = .ok (.goto 4, 3) := z_dd_167 (by decide +kernel)
theorem dX12_inForce_14 : decode cX12_inForce 14 = .ok (.aload_n 0, 1) := z_dd_42 (by decide +kernel)
theorem dX12_inForce_15 : decode cX12_inForce 15 = .ok (.getfield 49, 3) := z_dd_180 (by decide +kernel)
theorem dX12_inForce_18 : decode cX12_inForce 18 = .ok (.iload 4, 2) := z_dd_21 (by decide +kernel)
theorem dX12_inForce_20 : decode cX12_inForce 20 = .ok (.iaload, 1) := z_dd_46 (by decide +kernel)
theorem dX12_inForce_21 : decode cX12_inForce 21 = .ok (.iload_n 2, 1) := z_dd_28 (by decide +kernel)
theorem dX12_inForce_22 : decode cX12_inForce 22 = .ok (.if_icmp .gt 37, 3) := z_dd_163 (by decide +kernel)
theorem dX12_inForce_59 : decode cX12_inForce 59 = .ok (.iinc 4 1, 3) := z_dd_132 (by decide +kernel)
theorem dX12_inForce_62 : decode cX12_inForce 62 = .ok (.goto (-57), 3) := z_dd_167 (by decide +kernel)
theorem dX12_inForce_25 : decode cX12_inForce 25 = .ok (.aload_n 0, 1) := z_dd_42 (by decide +kernel)
theorem dX12_inForce_26 : decode cX12_inForce 26 = .ok (.getfield 46, 3) := z_dd_180 (by decide +kernel)
theorem dX12_inForce_29 : decode cX12_inForce 29 = .ok (.iload 4, 2) := z_dd_21 (by decide +kernel)
theorem dX12_inForce_31 : decode cX12_inForce 31 = .ok (.iaload, 1) := z_dd_46 (by decide +kernel)
theorem dX12_inForce_32 : decode cX12_inForce 32 = .ok (.iload_n 1, 1) := z_dd_27 (by decide +kernel)
theorem dX12_inForce_33 : decode cX12_inForce 33 = .ok (.if_icmp .gt 26, 3) := z_dd_163 (by decide +kernel)
theorem dX12_inForce_36 : decode cX12_inForce 36 = .ok (.iload_n 3, 1) := z_dd_29 (by decide +kernel)
theorem dX12_inForce_37 : decode cX12_inForce 37 = .ok (.ifCond .lt 19, 3) := z_dd_155 (by decide +kernel)
theorem dX12_inForce_56 : decode cX12_inForce 56 = .ok (.iload 4, 2) := z_dd_21 (by decide +kernel)
theorem dX12_inForce_58 : decode cX12_inForce 58 = .ok (.istore_n 3, 1) := z_dd_62 (by decide +kernel)
theorem dX12_inForce_40 : decode cX12_inForce 40 = .ok (.aload_n 0, 1) := z_dd_42 (by decide +kernel)
theorem dX12_inForce_41 : decode cX12_inForce 41 = .ok (.getfield 46, 3) := z_dd_180 (by decide +kernel)
theorem dX12_inForce_44 : decode cX12_inForce 44 = .ok (.iload 4, 2) := z_dd_21 (by decide +kernel)
theorem dX12_inForce_46 : decode cX12_inForce 46 = .ok (.iaload, 1) := z_dd_46 (by decide +kernel)
theorem dX12_inForce_47 : decode cX12_inForce 47 = .ok (.aload_n 0, 1) := z_dd_42 (by decide +kernel)
theorem dX12_inForce_48 : decode cX12_inForce 48 = .ok (.getfield 46, 3) := z_dd_180 (by decide +kernel)
theorem dX12_inForce_51 : decode cX12_inForce 51 = .ok (.iload_n 3, 1) := z_dd_29 (by decide +kernel)
theorem dX12_inForce_52 : decode cX12_inForce 52 = .ok (.iaload, 1) := z_dd_46 (by decide +kernel)
theorem dX12_inForce_53 : decode cX12_inForce 53 = .ok (.if_icmp .lt 6, 3) := z_dd_161 (by decide +kernel)
theorem dX12_number_0 : decode cX12_number 0 = .ok (.iload_n 3, 1) := z_dd_29 (by decide +kernel)
theorem dX12_number_1 : decode cX12_number 1 = .ok (.iconst 3, 1) := z_dd_6 (by decide +kernel)
theorem dX12_number_2 : decode cX12_number 2 = .ok (.if_icmp .ne 8, 3) := z_dd_160 (by decide +kernel)
theorem dX12_number_10 : decode cX12_number 10 = .ok (.iload_n 3, 1) := z_dd_29 (by decide +kernel)
theorem dX12_number_11 : decode cX12_number 11 = .ok (.iconst 4, 1) := z_dd_7 (by decide +kernel)
theorem dX12_number_12 : decode cX12_number 12 = .ok (.if_icmp .ne 7, 3) := z_dd_160 (by decide +kernel)
theorem dX12_number_19 : decode cX12_number 19 = .ok (.iload_n 3, 1) := z_dd_29 (by decide +kernel)
theorem dX12_number_20 : decode cX12_number 20 = .ok (.iconst 5, 1) := z_dd_8 (by decide +kernel)
theorem dX12_number_21 : decode cX12_number 21 = .ok (.if_icmp .ne 7, 3) := z_dd_160 (by decide +kernel)
theorem dX12_number_28 : decode cX12_number 28 = .ok (.iload_n 3, 1) := z_dd_29 (by decide +kernel)
theorem dX12_number_29 : decode cX12_number 29 = .ok (.bipush 6, 2) := z_dd_16 (by decide +kernel)
theorem dX12_number_31 : decode cX12_number 31 = .ok (.if_icmp .ne 7, 3) := z_dd_160 (by decide +kernel)
theorem dX12_number_38 : decode cX12_number 38 = .ok (.bipush 20, 2) := z_dd_16 (by decide +kernel)
theorem dX12_number_40 : decode cX12_number 40 = .ok (.istore 4, 2) := z_dd_54 (by decide +kernel)
theorem dX12_number_42 : decode cX12_number 42 = .ok (.aload_n 0, 1) := z_dd_42 (by decide +kernel)
theorem dX12_number_43 : decode cX12_number 43 = .ok (.iload_n 1, 1) := z_dd_27 (by decide +kernel)
theorem dX12_number_44 : decode cX12_number 44 = .ok (.iload_n 2, 1) := z_dd_28 (by decide +kernel)
set_option maxRecDepth 20000 in
theorem ggX12_number_X12_inForce : GoodIn wsX12_number wsX12_inForce := goodIn_sub (fa_c (me_s (me_l (List.mem_of_getElem? (i := 8) rfl))) (fa_a (fa_c (me_s (me_l (List.mem_of_getElem? (i := 9) rfl))) (fa_c (me_s (me_l (List.mem_of_getElem? (i := 10) rfl))) (fa_c (me_s (me_l (List.mem_of_getElem? (i := 11) rfl))) fa_n))) (fun w h => (me_s (me_r h))))) (by decide +kernel)
set_option maxRecDepth 20000 in
theorem gX12_number_X12_inForce : GoodIn wsX12_number (wsV RX12 417 RX12 yX12_inForce wsX12_inForce) := goodIn_app (goodIn_sub (fa_c (me_s (me_l (List.mem_of_getElem? (i := 4) rfl))) (fa_c (me_s (me_l (List.mem_of_getElem? (i := 5) rfl))) (fa_c (me_s (me_l (List.mem_of_getElem? (i := 6) rfl))) (fa_c (me_s (me_l (List.mem_of_getElem? (i := 7) rfl))) fa_n)))) (by decide +kernel)) ggX12_number_X12_inForce
theorem dX12_number_45 : decode cX12_number 45 = .ok (.invokevirtual 417, 3) := z_dd_182 (by decide +kernel)
theorem dX12_number_48 : decode cX12_number 48 = .ok (.istore 5, 2) := z_dd_54 (by decide +kernel)
theorem dX12_number_50 : decode cX12_number 50 = .ok (.iload 5, 2) := z_dd_21 (by decide +kernel)
theorem dX12_number_52 : decode cX12_number 52 = .ok (.ifCond .ge 6, 3) := z_dd_156 (by decide +kernel)
theorem dX12_number_58 : decode cX12_number 58 = .ok (.aload_n 0, 1) := z_dd_42 (by decide +kernel)
theorem dX12_number_59 : decode cX12_number 59 = .ok (.getfield 40, 3) := z_dd_180 (by decide +kernel)
theorem dX12_number_62 : decode cX12_number 62 = .ok (.iload 5, 2) := z_dd_21 (by decide +kernel)
theorem dX12_number_64 : decode cX12_number 64 = .ok (.iaload, 1) := z_dd_46 (by decide +kernel)
theorem dX12_number_65 : decode cX12_number 65 = .ok (.istore 6, 2) := z_dd_54 (by decide +kernel)
theorem dX12_number_67 : decode cX12_number 67 = .ok (.iload 6, 2) := z_dd_21 (by decide +kernel)
theorem dX12_number_69 : decode cX12_number 69 = .ok (.aload_n 0, 1) := z_dd_42 (by decide +kernel)
theorem dX12_number_70 : decode cX12_number 70 = .ok (.getfield 40, 3) := z_dd_180 (by decide +kernel)
theorem dX12_number_73 : decode cX12_number 73 = .ok (.iload 5, 2) := z_dd_21 (by decide +kernel)
theorem dX12_number_75 : decode cX12_number 75 = .ok (.iaload, 1) := z_dd_46 (by decide +kernel)
theorem dX12_number_76 : decode cX12_number 76 = .ok (.aload_n 0, 1) := z_dd_42 (by decide +kernel)
theorem dX12_number_77 : decode cX12_number 77 = .ok (.getfield 43, 3) := z_dd_180 (by decide +kernel)
theorem dX12_number_80 : decode cX12_number 80 = .ok (.iload 5, 2) := z_dd_21 (by decide +kernel)
theorem dX12_number_82 : decode cX12_number 82 = .ok (.iaload, 1) := z_dd_46 (by decide +kernel)
theorem dX12_number_83 : decode cX12_number 83 = .ok (.iadd, 1) := z_dd_96 (by decide +kernel)
theorem dX12_number_84 : decode cX12_number 84 = .ok (.if_icmp .ge 29, 3) := z_dd_162 (by decide +kernel)
theorem dX12_number_113 : decode cX12_number 113 = .ok (.iload 4, 2) := z_dd_21 (by decide +kernel)
theorem dX12_number_115 : decode cX12_number 115 = .ok (.ireturn, 1) := z_dd_172 (by decide +kernel)
theorem dX12_number_87 : decode cX12_number 87 = .ok (.aload_n 0, 1) := z_dd_42 (by decide +kernel)
theorem dX12_number_88 : decode cX12_number 88 = .ok (.getfield 52, 3) := z_dd_180 (by decide +kernel)
theorem dX12_number_91 : decode cX12_number 91 = .ok (.iload 6, 2) := z_dd_21 (by decide +kernel)
theorem dX12_number_93 : decode cX12_number 93 = .ok (.iaload, 1) := z_dd_46 (by decide +kernel)
theorem dX12_number_94 : decode cX12_number 94 = .ok (.iload_n 3, 1) := z_dd_29 (by decide +kernel)
theorem dX12_number_95 : decode cX12_number 95 = .ok (.if_icmp .ne 12, 3) := z_dd_160 (by decide +kernel)
theorem dX12_number_107 : decode cX12_number 107 = .ok (.iinc 6 1, 3) := z_dd_132 (by decide +kernel)
theorem dX12_number_110 : decode cX12_number 110 = .ok (.goto (-43), 3) := z_dd_167 (by decide +kernel)
theorem dX12_number_98 : decode cX12_number 98 = .ok (.aload_n 0, 1) := z_dd_42 (by decide +kernel)
theorem dX12_number_99 : decode cX12_number 99 = .ok (.getfield 55, 3) := z_dd_180 (by decide +kernel)
theorem dX12_number_102 : decode cX12_number 102 = .ok (.iload 6, 2) := z_dd_21 (by decide +kernel)
theorem dX12_number_104 : decode cX12_number 104 = .ok (.iaload, 1) := z_dd_46 (by decide +kernel)
theorem dX12_number_105 : decode cX12_number 105 = .ok (.istore 4, 2) := z_dd_54 (by decide +kernel)
theorem dX12_number_55 : decode cX12_number 55 = .ok (.iload 4, 2) := z_dd_21 (by decide +kernel)
theorem dX12_number_57 : decode cX12_number 57 = .ok (.ireturn, 1) := z_dd_172 (by decide +kernel)
theorem dX12_number_34 : decode cX12_number 34 = .ok (.iconst 0, 1) := z_dd_3 (by decide +kernel)
theorem dX12_number_35 : decode cX12_number 35 = .ok (.goto 5, 3) := z_dd_167 (by decide +kernel)
theorem dX12_number_24 : decode cX12_number 24 = .ok (.iconst 5, 1) := z_dd_8 (by decide +kernel)
theorem dX12_number_25 : decode cX12_number 25 = .ok (.goto 15, 3) := z_dd_167 (by decide +kernel)
theorem dX12_number_15 : decode cX12_number 15 = .ok (.iconst 1, 1) := z_dd_4 (by decide +kernel)
theorem dX12_number_16 : decode cX12_number 16 = .ok (.goto 24, 3) := z_dd_167 (by decide +kernel)
theorem dX12_number_5 : decode cX12_number 5 = .ok (.bipush 10, 2) := z_dd_16 (by decide +kernel)
theorem dX12_number_7 : decode cX12_number 7 = .ok (.goto 33, 3) := z_dd_167 (by decide +kernel)
theorem dX12_rule_0 : decode cX12_rule 0 = .ok (.iload_n 1, 1) := z_dd_27 (by decide +kernel)
set_option maxRecDepth 20000 in
theorem ggX12_rule_X12_isMonth : GoodIn wsX12_rule wsX12_isMonth := goodIn_sub (fa_c (me_s (me_l (me_l (List.mem_of_getElem? (i := 3) rfl)))) fa_n) (by decide +kernel)
set_option maxRecDepth 20000 in
theorem gX12_rule_X12_isMonth : GoodIn wsX12_rule (va_wsS RX12 405 yX12_isMonth wsX12_isMonth) := goodIn_app (goodIn_sub (fa_c (me_s (me_l (me_l (List.mem_of_getElem? (i := 0) rfl)))) (fa_c (me_s (me_l (me_l (List.mem_of_getElem? (i := 1) rfl)))) (fa_c (me_s (me_l (me_l (List.mem_of_getElem? (i := 2) rfl)))) fa_n))) (by decide +kernel)) ggX12_rule_X12_isMonth
theorem dX12_rule_1 : decode cX12_rule 1 = .ok (.invokestatic 405, 3) := z_dd_184 (by decide +kernel)
theorem dX12_rule_4 : decode cX12_rule 4 = .ok (.ifCond .eq 10, 3) := z_dd_153 (by decide +kernel)
theorem dX12_rule_7 : decode cX12_rule 7 = .ok (.iload_n 2, 1) := z_dd_28 (by decide +kernel)
set_option maxRecDepth 20000 in
theorem ggX12_rule_X12_isDay : GoodIn wsX12_rule wsX12_isDay := goodIn_sub (fa_c (me_s (me_l (me_l (List.mem_of_getElem? (i := 6) rfl)))) fa_n) (by decide +kernel)
set_option maxRecDepth 20000 in
theorem gX12_rule_X12_isDay : GoodIn wsX12_rule (va_wsS RX12 243 yX12_isDay wsX12_isDay) := goodIn_app (goodIn_sub (fa_c (me_s (me_l (me_l (List.mem_of_getElem? (i := 4) rfl)))) (fa_c (me_s (me_l (me_l (List.mem_of_getElem? (i := 5) rfl)))) (fa_c (me_s (me_l (me_l (List.mem_of_getElem? (i := 2) rfl)))) fa_n))) (by decide +kernel)) ggX12_rule_X12_isDay
theorem dX12_rule_8 : decode cX12_rule 8 = .ok (.invokestatic 243, 3) := z_dd_184 (by decide +kernel)
theorem dX12_rule_11 : decode cX12_rule 11 = .ok (.ifCond .ne 7, 3) := z_dd_154 (by decide +kernel)
theorem dX12_rule_18 : decode cX12_rule 18 = .ok (.iload_n 3, 1) := z_dd_29 (by decide +kernel)
theorem dX12_rule_19 : decode cX12_rule 19 = .ok (.iconst 5, 1) := z_dd_8 (by decide +kernel)
theorem dX12_rule_20 : decode cX12_rule 20 = .ok (.if_icmp .ne 12, 3) := z_dd_160 (by decide +kernel)
theorem dX12_rule_32 : decode cX12_rule 32 = .ok (.iload_n 3, 1) := z_dd_29 (by decide +kernel)
theorem dX12_rule_33 : decode cX12_rule 33 = .ok (.iconst 0, 1) := z_dd_3 (by decide +kernel)
theorem dX12_rule_34 : decode cX12_rule 34 = .ok (.iconst 4, 1) := z_dd_7 (by decide +kernel)
set_option maxRecDepth 20000 in
theorem ggX12_rule_X12_within : GoodIn wsX12_rule wsX12_within := goodIn_sub (fa_c (me_s (me_l (me_l (List.mem_of_getElem? (i := 16) rfl)))) fa_n) (by decide +kernel)
set_option maxRecDepth 20000 in
theorem gX12_rule_X12_within : GoodIn wsX12_rule (va_wsS RX12 235 yX12_within wsX12_within) := goodIn_app (goodIn_sub (fa_c (me_s (me_l (me_l (List.mem_of_getElem? (i := 14) rfl)))) (fa_c (me_s (me_l (me_l (List.mem_of_getElem? (i := 15) rfl)))) (fa_c (me_s (me_l (me_l (List.mem_of_getElem? (i := 2) rfl)))) fa_n))) (by decide +kernel)) ggX12_rule_X12_within
theorem dX12_rule_35 : decode cX12_rule 35 = .ok (.invokestatic 235, 3) := z_dd_184 (by decide +kernel)
theorem dX12_rule_38 : decode cX12_rule 38 = .ok (.ifCond .eq 15, 3) := z_dd_153 (by decide +kernel)
theorem dX12_rule_41 : decode cX12_rule 41 = .ok (.aload_n 0, 1) := z_dd_42 (by decide +kernel)
theorem dX12_rule_42 : decode cX12_rule 42 = .ok (.iload_n 1, 1) := z_dd_27 (by decide +kernel)
theorem dX12_rule_43 : decode cX12_rule 43 = .ok (.iload_n 2, 1) := z_dd_28 (by decide +kernel)
theorem dX12_rule_44 : decode cX12_rule 44 = .ok (.iconst 3, 1) := z_dd_6 (by decide +kernel)
theorem dX12_rule_45 : decode cX12_rule 45 = .ok (.iload_n 3, 1) := z_dd_29 (by decide +kernel)
theorem dX12_rule_46 : decode cX12_rule 46 = .ok (.iadd, 1) := z_dd_96 (by decide +kernel)
set_option maxRecDepth 20000 in
theorem ggX12_rule_X12_number : GoodIn wsX12_rule wsX12_number := goodIn_sub (fa_c (me_s (me_l (me_l (List.mem_of_getElem? (i := 20) rfl)))) (fa_a (fa_c (me_s (me_l (me_l (List.mem_of_getElem? (i := 21) rfl)))) (fa_c (me_s (me_l (me_l (List.mem_of_getElem? (i := 22) rfl)))) (fa_c (me_s (me_l (me_l (List.mem_of_getElem? (i := 23) rfl)))) (fa_c (me_s (me_l (me_r (List.mem_of_getElem? (i := 0) rfl)))) (fa_c (me_s (me_l (me_l (List.mem_of_getElem? (i := 7) rfl)))) (fa_c (me_s (me_l (me_l (List.mem_of_getElem? (i := 8) rfl)))) (fa_c (me_s (me_l (me_l (List.mem_of_getElem? (i := 9) rfl)))) (fa_c (me_s (me_l (me_l (List.mem_of_getElem? (i := 2) rfl)))) (fa_c (me_s (me_l (me_l (List.mem_of_getElem? (i := 10) rfl)))) (fa_c (me_s (me_l (me_l (List.mem_of_getElem? (i := 11) rfl)))) (fa_c (me_s (me_l (me_l (List.mem_of_getElem? (i := 12) rfl)))) (fa_c (me_s (me_l (me_l (List.mem_of_getElem? (i := 13) rfl)))) fa_n)))))))))))) (fun w h => (me_s (me_r h))))) (by decide +kernel)
set_option maxRecDepth 20000 in
theorem gX12_rule_X12_number : GoodIn wsX12_rule (wsV RX12 420 RX12 yX12_number wsX12_number) := goodIn_app (goodIn_sub (fa_c (me_s (me_l (me_l (List.mem_of_getElem? (i := 17) rfl)))) (fa_c (me_s (me_l (me_l (List.mem_of_getElem? (i := 18) rfl)))) (fa_c (me_s (me_l (me_l (List.mem_of_getElem? (i := 19) rfl)))) (fa_c (me_s (me_l (me_l (List.mem_of_getElem? (i := 2) rfl)))) fa_n)))) (by decide +kernel)) ggX12_rule_X12_number
theorem dX12_rule_47 : decode cX12_rule 47 = .ok (.invokevirtual 420, 3) := z_dd_182 (by decide +kernel)
theorem dX12_rule_50 : decode cX12_rule 50 = .ok (.goto 4, 3) := z_dd_167 (by decide +kernel)
theorem dX12_rule_54 : decode cX12_rule 54 = .ok (.ireturn, 1) := z_dd_172 (by decide +kernel)
theorem dX12_rule_53 : decode cX12_rule 53 = .ok (.iconst (-1), 1) := z_dd_2 (by decide +kernel)
theorem dX12_rule_23 : decode cX12_rule 23 = .ok (.aload_n 0, 1) := z_dd_42 (by decide +kernel)
theorem dX12_rule_24 : decode cX12_rule 24 = .ok (.iload_n 1, 1) := z_dd_27 (by decide +kernel)
theorem dX12_rule_25 : decode cX12_rule 25 = .ok (.iload_n 2, 1) := z_dd_28 (by decide +kernel)
set_option maxRecDepth 20000 in
theorem ggX12_rule_X12_inForce : GoodIn wsX12_rule wsX12_inForce := goodIn_sub (fa_c (me_s (me_l (me_l (List.mem_of_getElem? (i := 10) rfl)))) (fa_a (fa_c (me_s (me_l (me_l (List.mem_of_getElem? (i := 11) rfl)))) (fa_c (me_s (me_l (me_l (List.mem_of_getElem? (i := 12) rfl)))) (fa_c (me_s (me_l (me_l (List.mem_of_getElem? (i := 13) rfl)))) fa_n))) (fun w h => (me_s (me_r h))))) (by decide +kernel)
set_option maxRecDepth 20000 in
theorem gX12_rule_X12_inForce : GoodIn wsX12_rule (wsV RX12 417 RX12 yX12_inForce wsX12_inForce) := goodIn_app (goodIn_sub (fa_c (me_s (me_l (me_l (List.mem_of_getElem? (i := 7) rfl)))) (fa_c (me_s (me_l (me_l (List.mem_of_getElem? (i := 8) rfl)))) (fa_c (me_s (me_l (me_l (List.mem_of_getElem? (i := 9) rfl)))) (fa_c (me_s (me_l (me_l (List.mem_of_getElem? (i := 2) rfl)))) fa_n)))) (by decide +kernel)) ggX12_rule_X12_inForce
theorem dX12_rule_26 : decode cX12_rule 26 = .ok (.invokevirtual 417, 3) := z_dd_182 (by decide +kernel)
theorem dX12_rule_29 : decode cX12_rule 29 = .ok (.goto 25, 3) := z_dd_167 (by decide +kernel)
theorem dX12_rule_14 : decode cX12_rule 14 = .ok (.iconst (-1), 1) := z_dd_2 (by decide +kernel)
theorem dX12_rule_15 : decode cX12_rule 15 = .ok (.goto 39, 3) := z_dd_167 (by decide +kernel)
theorem dX12_isCoupon_28 : decode cX12_isCoupon 28 = .ok (.iconst 1, 1) := z_dd_4 (by decide +kernel)
theorem dX12_isCoupon_29 : decode cX12_isCoupon 29 = .ok (.goto 4, 3) := z_dd_167 (by decide +kernel)
theorem dX12_heldBy_0 : decode cX12_heldBy 0 = .ok (.aload_n 0, 1) := z_dd_42 (by decide +kernel)
theorem dX12_heldBy_1 : decode cX12_heldBy 1 = .ok (.getfield 110, 3) := z_dd_180 (by decide +kernel)
theorem dX12_heldBy_4 : decode cX12_heldBy 4 = .ok (.iload_n 1, 1) := z_dd_27 (by decide +kernel)
theorem dX12_heldBy_5 : decode cX12_heldBy 5 = .ok (.iaload, 1) := z_dd_46 (by decide +kernel)
theorem dX12_heldBy_6 : decode cX12_heldBy 6 = .ok (.ifCond .le 14, 3) := z_dd_158 (by decide +kernel)
theorem dX12_heldBy_20 : decode cX12_heldBy 20 = .ok (.iload_n 1, 1) := z_dd_27 (by decide +kernel)
theorem dX12_heldBy_21 : decode cX12_heldBy 21 = .ok (.sipush 2400, 3) := z_dd_17 (by decide +kernel)
theorem dX12_heldBy_24 : decode cX12_heldBy 24 = .ok (.idiv, 1) := z_dd_108 (by decide +kernel)
theorem dX12_heldBy_25 : decode cX12_heldBy 25 = .ok (.ireturn, 1) := z_dd_172 (by decide +kernel)
theorem dX12_heldBy_9 : decode cX12_heldBy 9 = .ok (.aload_n 0, 1) := z_dd_42 (by decide +kernel)
theorem dX12_heldBy_10 : decode cX12_heldBy 10 = .ok (.getfield 110, 3) := z_dd_180 (by decide +kernel)
theorem dX12_heldBy_13 : decode cX12_heldBy 13 = .ok (.iload_n 1, 1) := z_dd_27 (by decide +kernel)
theorem dX12_heldBy_14 : decode cX12_heldBy 14 = .ok (.iaload, 1) := z_dd_46 (by decide +kernel)
theorem dX12_heldBy_15 : decode cX12_heldBy 15 = .ok (.iconst 1, 1) := z_dd_4 (by decide +kernel)
theorem dX12_heldBy_16 : decode cX12_heldBy 16 = .ok (.isub, 1) := z_dd_100 (by decide +kernel)
theorem dX12_heldBy_17 : decode cX12_heldBy 17 = .ok (.goto 8, 3) := z_dd_167 (by decide +kernel)
theorem dX12_lend_8 : decode cX12_lend 8 = .ok (.aload_n 0, 1) := z_dd_42 (by decide +kernel)
theorem dX12_lend_9 : decode cX12_lend 9 = .ok (.iload_n 2, 1) := z_dd_28 (by decide +kernel)
set_option maxRecDepth 20000 in
theorem ggX12_lend_X12_isHolder : GoodIn wsX12_lend wsX12_isHolder := goodIn_sub (fa_c (me_s (me_l (me_l (List.mem_of_getElem? (i := 14) rfl)))) (fa_a (fa_c (me_s (me_l (me_l (List.mem_of_getElem? (i := 15) rfl)))) fa_n) (fun w h => (me_s (me_r h))))) (by decide +kernel)
set_option maxRecDepth 20000 in
theorem gX12_lend_X12_isHolder : GoodIn wsX12_lend (wsV RX12 239 RX12 yX12_isHolder wsX12_isHolder) := goodIn_app (goodIn_sub (fa_c (me_s (me_l (me_l (List.mem_of_getElem? (i := 11) rfl)))) (fa_c (me_s (me_l (me_l (List.mem_of_getElem? (i := 12) rfl)))) (fa_c (me_s (me_l (me_l (List.mem_of_getElem? (i := 13) rfl)))) (fa_c (me_s (me_l (me_l (List.mem_of_getElem? (i := 7) rfl)))) fa_n)))) (by decide +kernel)) ggX12_lend_X12_isHolder
theorem dX12_lend_10 : decode cX12_lend 10 = .ok (.invokevirtual 239, 3) := z_dd_182 (by decide +kernel)
theorem dX12_lend_13 : decode cX12_lend 13 = .ok (.ifCond .eq 30, 3) := z_dd_153 (by decide +kernel)
theorem dX12_lend_16 : decode cX12_lend 16 = .ok (.iload_n 2, 1) := z_dd_28 (by decide +kernel)
theorem dX12_lend_17 : decode cX12_lend 17 = .ok (.iload_n 1, 1) := z_dd_27 (by decide +kernel)
theorem dX12_lend_18 : decode cX12_lend 18 = .ok (.sipush 2400, 3) := z_dd_17 (by decide +kernel)
theorem dX12_lend_21 : decode cX12_lend 21 = .ok (.idiv, 1) := z_dd_108 (by decide +kernel)
theorem dX12_lend_22 : decode cX12_lend 22 = .ok (.if_icmp .eq 21, 3) := z_dd_159 (by decide +kernel)
theorem dX12_lend_25 : decode cX12_lend 25 = .ok (.aload_n 0, 1) := z_dd_42 (by decide +kernel)
theorem dX12_lend_26 : decode cX12_lend 26 = .ok (.getfield 110, 3) := z_dd_180 (by decide +kernel)
theorem dX12_lend_29 : decode cX12_lend 29 = .ok (.iload_n 1, 1) := z_dd_27 (by decide +kernel)
theorem dX12_lend_30 : decode cX12_lend 30 = .ok (.iaload, 1) := z_dd_46 (by decide +kernel)
theorem dX12_lend_31 : decode cX12_lend 31 = .ok (.ifCond .gt 12, 3) := z_dd_157 (by decide +kernel)
theorem dX12_lend_34 : decode cX12_lend 34 = .ok (.aload_n 0, 1) := z_dd_42 (by decide +kernel)
theorem dX12_lend_35 : decode cX12_lend 35 = .ok (.getfield 114, 3) := z_dd_180 (by decide +kernel)
theorem dX12_lend_38 : decode cX12_lend 38 = .ok (.iload_n 1, 1) := z_dd_27 (by decide +kernel)
theorem dX12_lend_39 : decode cX12_lend 39 = .ok (.baload, 1) := z_dd_51 (by decide +kernel)
theorem dX12_lend_40 : decode cX12_lend 40 = .ok (.ifCond .eq 5, 3) := z_dd_153 (by decide +kernel)
theorem dX12_lend_45 : decode cX12_lend 45 = .ok (.iload_n 1, 1) := z_dd_27 (by decide +kernel)
theorem dX12_lend_46 : decode cX12_lend 46 = .ok (.bipush 100, 2) := z_dd_16 (by decide +kernel)
theorem dX12_lend_48 : decode cX12_lend 48 = .ok (.idiv, 1) := z_dd_108 (by decide +kernel)
theorem dX12_lend_49 : decode cX12_lend 49 = .ok (.istore_n 3, 1) := z_dd_62 (by decide +kernel)
theorem dX12_lend_50 : decode cX12_lend 50 = .ok (.iconst 0, 1) := z_dd_3 (by decide +kernel)
theorem dX12_lend_51 : decode cX12_lend 51 = .ok (.istore 4, 2) := z_dd_54 (by decide +kernel)
theorem dX12_lend_53 : decode cX12_lend 53 = .ok (.bipush 100, 2) := z_dd_16 (by decide +kernel)
theorem dX12_lend_55 : decode cX12_lend 55 = .ok (.iload_n 3, 1) := z_dd_29 (by decide +kernel)
theorem dX12_lend_56 : decode cX12_lend 56 = .ok (.imul, 1) := z_dd_104 (by decide +kernel)
theorem dX12_lend_57 : decode cX12_lend 57 = .ok (.istore 5, 2) := z_dd_54 (by decide +kernel)
theorem dX12_lend_59 : decode cX12_lend 59 = .ok (.iload 5, 2) := z_dd_21 (by decide +kernel)
theorem dX12_lend_61 : decode cX12_lend 61 = .ok (.bipush 100, 2) := z_dd_16 (by decide +kernel)
theorem dX12_lend_63 : decode cX12_lend 63 = .ok (.iload_n 3, 1) := z_dd_29 (by decide +kernel)
theorem dX12_lend_64 : decode cX12_lend 64 = .ok (.imul, 1) := z_dd_104 (by decide +kernel)
theorem dX12_lend_65 : decode cX12_lend 65 = .ok (.bipush 100, 2) := z_dd_16 (by decide +kernel)
theorem dX12_lend_67 : decode cX12_lend 67 = .ok (.iadd, 1) := z_dd_96 (by decide +kernel)
theorem dX12_lend_68 : decode cX12_lend 68 = .ok (.if_icmp .ge 22, 3) := z_dd_162 (by decide +kernel)
theorem dX12_lend_90 : decode cX12_lend 90 = .ok (.iload 4, 2) := z_dd_21 (by decide +kernel)
theorem dX12_lend_92 : decode cX12_lend 92 = .ok (.aload_n 0, 1) := z_dd_42 (by decide +kernel)
theorem dX12_lend_93 : decode cX12_lend 93 = .ok (.iload_n 3, 1) := z_dd_29 (by decide +kernel)
theorem dX12_lend_94 : decode cX12_lend 94 = .ok (.bipush 24, 2) := z_dd_16 (by decide +kernel)
theorem dX12_lend_96 : decode cX12_lend 96 = .ok (.irem, 1) := z_dd_112 (by decide +kernel)
theorem dX12_lend_97 : decode cX12_lend 97 = .ok (.aload_n 0, 1) := z_dd_42 (by decide +kernel)
theorem dX12_lend_98 : decode cX12_lend 98 = .ok (.getfield 232, 3) := z_dd_180 (by decide +kernel)
theorem dX12_lend_101 : decode cX12_lend 101 = .ok (.iconst 5, 1) := z_dd_8 (by decide +kernel)
set_option maxRecDepth 20000 in
theorem ggX12_lend_X12_number : GoodIn wsX12_lend wsX12_number := goodIn_sub (fa_c (me_s (me_l (me_l (List.mem_of_getElem? (i := 19) rfl)))) (fa_a (fa_c (me_s (me_l (me_l (List.mem_of_getElem? (i := 20) rfl)))) (fa_c (me_s (me_l (me_l (List.mem_of_getElem? (i := 21) rfl)))) (fa_c (me_s (me_l (me_l (List.mem_of_getElem? (i := 22) rfl)))) (fa_c (me_s (me_l (me_l (List.mem_of_getElem? (i := 23) rfl)))) (fa_c (me_s (me_l (me_r (List.mem_of_getElem? (i := 0) rfl)))) (fa_c (me_s (me_l (me_r (List.mem_of_getElem? (i := 1) rfl)))) (fa_c (me_s (me_l (me_r (List.mem_of_getElem? (i := 2) rfl)))) (fa_c (me_s (me_l (me_l (List.mem_of_getElem? (i := 7) rfl)))) (fa_c (me_s (me_l (me_r (List.mem_of_getElem? (i := 3) rfl)))) (fa_c (me_s (me_l (me_r (List.mem_of_getElem? (i := 4) rfl)))) (fa_c (me_s (me_l (me_r (List.mem_of_getElem? (i := 5) rfl)))) (fa_c (me_s (me_l (me_r (List.mem_of_getElem? (i := 6) rfl)))) fa_n)))))))))))) (fun w h => (me_s (me_r h))))) (by decide +kernel)
set_option maxRecDepth 20000 in
theorem gX12_lend_X12_number : GoodIn wsX12_lend (wsV RX12 420 RX12 yX12_number wsX12_number) := goodIn_app (goodIn_sub (fa_c (me_s (me_l (me_l (List.mem_of_getElem? (i := 16) rfl)))) (fa_c (me_s (me_l (me_l (List.mem_of_getElem? (i := 17) rfl)))) (fa_c (me_s (me_l (me_l (List.mem_of_getElem? (i := 18) rfl)))) (fa_c (me_s (me_l (me_l (List.mem_of_getElem? (i := 7) rfl)))) fa_n)))) (by decide +kernel)) ggX12_lend_X12_number
theorem dX12_lend_102 : decode cX12_lend 102 = .ok (.invokevirtual 420, 3) := z_dd_182 (by decide +kernel)
theorem dX12_lend_105 : decode cX12_lend 105 = .ok (.if_icmp .lt 5, 3) := z_dd_161 (by decide +kernel)
theorem dX12_lend_110 : decode cX12_lend 110 = .ok (.aload_n 0, 1) := z_dd_42 (by decide +kernel)
theorem dX12_lend_111 : decode cX12_lend 111 = .ok (.getfield 110, 3) := z_dd_180 (by decide +kernel)
theorem dX12_lend_114 : decode cX12_lend 114 = .ok (.iload_n 1, 1) := z_dd_27 (by decide +kernel)
theorem dX12_lend_115 : decode cX12_lend 115 = .ok (.iload_n 2, 1) := z_dd_28 (by decide +kernel)
theorem dX12_lend_116 : decode cX12_lend 116 = .ok (.iconst 1, 1) := z_dd_4 (by decide +kernel)
theorem dX12_lend_117 : decode cX12_lend 117 = .ok (.iadd, 1) := z_dd_96 (by decide +kernel)
theorem dX12_lend_118 : decode cX12_lend 118 = .ok (.iastore, 1) := z_dd_79 (by decide +kernel)
theorem dX12_lend_119 : decode cX12_lend 119 = .ok (.aload_n 0, 1) := z_dd_42 (by decide +kernel)
theorem dX12_lend_120 : decode cX12_lend 120 = .ok (.dup, 1) := z_dd_89 (by decide +kernel)
theorem dX12_lend_121 : decode cX12_lend 121 = .ok (.getfield 455, 3) := z_dd_180 (by decide +kernel)
theorem dX12_lend_124 : decode cX12_lend 124 = .ok (.iconst 1, 1) := z_dd_4 (by decide +kernel)
theorem dX12_lend_125 : decode cX12_lend 125 = .ok (.iadd, 1) := z_dd_96 (by decide +kernel)
theorem dX12_lend_126 : decode cX12_lend 126 = .ok (.putfield 455, 3) := z_dd_181 (by decide +kernel)
theorem dX12_lend_129 : decode cX12_lend 129 = .ok (.iconst 1, 1) := z_dd_4 (by decide +kernel)
theorem dX12_lend_130 : decode cX12_lend 130 = .ok (.ireturn, 1) := z_dd_172 (by decide +kernel)
theorem dX12_lend_108 : decode cX12_lend 108 = .ok (.iconst 0, 1) := z_dd_3 (by decide +kernel)
theorem dX12_lend_109 : decode cX12_lend 109 = .ok (.ireturn, 1) := z_dd_172 (by decide +kernel)
theorem dX12_lend_71 : decode cX12_lend 71 = .ok (.aload_n 0, 1) := z_dd_42 (by decide +kernel)
theorem dX12_lend_72 : decode cX12_lend 72 = .ok (.getfield 110, 3) := z_dd_180 (by decide +kernel)
theorem dX12_lend_75 : decode cX12_lend 75 = .ok (.iload 5, 2) := z_dd_21 (by decide +kernel)
theorem dX12_lend_77 : decode cX12_lend 77 = .ok (.iaload, 1) := z_dd_46 (by decide +kernel)
theorem dX12_lend_78 : decode cX12_lend 78 = .ok (.ifCond .le 6, 3) := z_dd_158 (by decide +kernel)
theorem dX12_lend_84 : decode cX12_lend 84 = .ok (.iinc 5 1, 3) := z_dd_132 (by decide +kernel)
theorem dX12_lend_87 : decode cX12_lend 87 = .ok (.goto (-28), 3) := z_dd_167 (by decide +kernel)
theorem dX12_lend_81 : decode cX12_lend 81 = .ok (.iinc 4 1, 3) := z_dd_132 (by decide +kernel)
theorem dX12_owner_8 : decode cX12_owner 8 = .ok (.aload_n 0, 1) := z_dd_42 (by decide +kernel)
theorem dX12_owner_9 : decode cX12_owner 9 = .ok (.iload_n 1, 1) := z_dd_27 (by decide +kernel)
set_option maxRecDepth 20000 in
theorem ggX12_owner_X12_heldBy : GoodIn wsX12_owner wsX12_heldBy := goodIn_sub (fa_c (me_s (me_l (List.mem_of_getElem? (i := 10) rfl))) (fa_a (fa_c (me_s (me_l (List.mem_of_getElem? (i := 11) rfl))) fa_n) (fun w h => (me_s (me_r h))))) (by decide +kernel)
set_option maxRecDepth 20000 in
theorem gX12_owner_X12_heldBy : GoodIn wsX12_owner (wsV RX12 458 RX12 yX12_heldBy wsX12_heldBy) := goodIn_app (goodIn_sub (fa_c (me_s (me_l (List.mem_of_getElem? (i := 7) rfl))) (fa_c (me_s (me_l (List.mem_of_getElem? (i := 8) rfl))) (fa_c (me_s (me_l (List.mem_of_getElem? (i := 9) rfl))) (fa_c (me_s (me_l (List.mem_of_getElem? (i := 3) rfl))) fa_n)))) (by decide +kernel)) ggX12_owner_X12_heldBy
theorem dX12_owner_10 : decode cX12_owner 10 = .ok (.invokevirtual 458, 3) := z_dd_182 (by decide +kernel)
theorem dX12_owner_13 : decode cX12_owner 13 = .ok (.goto 4, 3) := z_dd_167 (by decide +kernel)
theorem dX12_station_0 : decode cX12_station 0 = .ok (.aload_n 0, 1) := z_dd_42 (by decide +kernel)
theorem dX12_station_1 : decode cX12_station 1 = .ok (.getfield 461, 3) := z_dd_180 (by decide +kernel)
theorem dX12_station_4 : decode cX12_station 4 = .ok (.bipush 10, 2) := z_dd_16 (by decide +kernel)
theorem dX12_station_6 : decode cX12_station 6 = .ok (.if_icmp .ne 5, 3) := z_dd_160 (by decide +kernel)
theorem dX12_station_11 : decode cX12_station 11 = .ok (.aload_n 0, 1) := z_dd_42 (by decide +kernel)
theorem dX12_station_12 : decode cX12_station 12 = .ok (.dup, 1) := z_dd_89 (by decide +kernel)
theorem dX12_station_13 : decode cX12_station 13 = .ok (.getfield 461, 3) := z_dd_180 (by decide +kernel)
theorem dX12_station_16 : decode cX12_station 16 = .ok (.iconst 1, 1) := z_dd_4 (by decide +kernel)
theorem dX12_station_17 : decode cX12_station 17 = .ok (.iadd, 1) := z_dd_96 (by decide +kernel)
theorem dX12_station_18 : decode cX12_station 18 = .ok (.putfield 461, 3) := z_dd_181 (by decide +kernel)
theorem dX12_station_21 : decode cX12_station 21 = .ok (.aload_n 0, 1) := z_dd_42 (by decide +kernel)
theorem dX12_station_22 : decode cX12_station 22 = .ok (.getfield 461, 3) := z_dd_180 (by decide +kernel)
theorem dX12_station_25 : decode cX12_station 25 = .ok (.iconst 1, 1) := z_dd_4 (by decide +kernel)
theorem dX12_station_26 : decode cX12_station 26 = .ok (.isub, 1) := z_dd_100 (by decide +kernel)
theorem dX12_station_27 : decode cX12_station 27 = .ok (.ireturn, 1) := z_dd_172 (by decide +kernel)
theorem dX12_station_9 : decode cX12_station 9 = .ok (.iconst (-1), 1) := z_dd_2 (by decide +kernel)
theorem dX12_station_10 : decode cX12_station 10 = .ok (.ireturn, 1) := z_dd_172 (by decide +kernel)
theorem dX12_poured_14 : decode cX12_poured 14 = .ok (.iload_n 2, 1) := z_dd_28 (by decide +kernel)
theorem dX12_poured_15 : decode cX12_poured 15 = .ok (.tableswitch 98 0 6 #[41, 48, 55, 62, 69, 76, 83], 41) := by decide +kernel
theorem dX12_poured_56 : decode cX12_poured 56 = .ok (.aload_n 0, 1) := z_dd_42 (by decide +kernel)
theorem dX12_poured_57 : decode cX12_poured 57 = .ok (.getfield 118, 3) := z_dd_180 (by decide +kernel)
theorem dX12_poured_60 : decode cX12_poured 60 = .ok (.iload_n 1, 1) := z_dd_27 (by decide +kernel)
theorem dX12_poured_61 : decode cX12_poured 61 = .ok (.iaload, 1) := z_dd_46 (by decide +kernel)
theorem dX12_poured_62 : decode cX12_poured 62 = .ok (.ireturn, 1) := z_dd_172 (by decide +kernel)
theorem dX12_poured_63 : decode cX12_poured 63 = .ok (.aload_n 0, 1) := z_dd_42 (by decide +kernel)
theorem dX12_poured_64 : decode cX12_poured 64 = .ok (.getfield 121, 3) := z_dd_180 (by decide +kernel)
theorem dX12_poured_67 : decode cX12_poured 67 = .ok (.iload_n 1, 1) := z_dd_27 (by decide +kernel)
theorem dX12_poured_68 : decode cX12_poured 68 = .ok (.iaload, 1) := z_dd_46 (by decide +kernel)
theorem dX12_poured_69 : decode cX12_poured 69 = .ok (.ireturn, 1) := z_dd_172 (by decide +kernel)
theorem dX12_poured_70 : decode cX12_poured 70 = .ok (.aload_n 0, 1) := z_dd_42 (by decide +kernel)
theorem dX12_poured_71 : decode cX12_poured 71 = .ok (.getfield 124, 3) := z_dd_180 (by decide +kernel)
theorem dX12_poured_74 : decode cX12_poured 74 = .ok (.iload_n 1, 1) := z_dd_27 (by decide +kernel)
theorem dX12_poured_75 : decode cX12_poured 75 = .ok (.iaload, 1) := z_dd_46 (by decide +kernel)
theorem dX12_poured_76 : decode cX12_poured 76 = .ok (.ireturn, 1) := z_dd_172 (by decide +kernel)
theorem dX12_poured_77 : decode cX12_poured 77 = .ok (.aload_n 0, 1) := z_dd_42 (by decide +kernel)
theorem dX12_poured_78 : decode cX12_poured 78 = .ok (.getfield 127, 3) := z_dd_180 (by decide +kernel)
theorem dX12_poured_81 : decode cX12_poured 81 = .ok (.iload_n 1, 1) := z_dd_27 (by decide +kernel)
theorem dX12_poured_82 : decode cX12_poured 82 = .ok (.iaload, 1) := z_dd_46 (by decide +kernel)
theorem dX12_poured_83 : decode cX12_poured 83 = .ok (.ireturn, 1) := z_dd_172 (by decide +kernel)
theorem dX12_poured_84 : decode cX12_poured 84 = .ok (.aload_n 0, 1) := z_dd_42 (by decide +kernel)
theorem dX12_poured_85 : decode cX12_poured 85 = .ok (.getfield 130, 3) := z_dd_180 (by decide +kernel)
theorem dX12_poured_88 : decode cX12_poured 88 = .ok (.iload_n 1, 1) := z_dd_27 (by decide +kernel)
theorem dX12_poured_89 : decode cX12_poured 89 = .ok (.iaload, 1) := z_dd_46 (by decide +kernel)
theorem dX12_poured_90 : decode cX12_poured 90 = .ok (.ireturn, 1) := z_dd_172 (by decide +kernel)
theorem dX12_poured_91 : decode cX12_poured 91 = .ok (.aload_n 0, 1) := z_dd_42 (by decide +kernel)
theorem dX12_poured_92 : decode cX12_poured 92 = .ok (.getfield 136, 3) := z_dd_180 (by decide +kernel)
theorem dX12_poured_95 : decode cX12_poured 95 = .ok (.iload_n 1, 1) := z_dd_27 (by decide +kernel)
theorem dX12_poured_96 : decode cX12_poured 96 = .ok (.iaload, 1) := z_dd_46 (by decide +kernel)
theorem dX12_poured_97 : decode cX12_poured 97 = .ok (.ireturn, 1) := z_dd_172 (by decide +kernel)
theorem dX12_poured_98 : decode cX12_poured 98 = .ok (.aload_n 0, 1) := z_dd_42 (by decide +kernel)
theorem dX12_poured_99 : decode cX12_poured 99 = .ok (.getfield 142, 3) := z_dd_180 (by decide +kernel)
theorem dX12_poured_102 : decode cX12_poured 102 = .ok (.iload_n 1, 1) := z_dd_27 (by decide +kernel)
theorem dX12_poured_103 : decode cX12_poured 103 = .ok (.baload, 1) := z_dd_51 (by decide +kernel)
theorem dX12_poured_104 : decode cX12_poured 104 = .ok (.ifCond .eq 7, 3) := z_dd_153 (by decide +kernel)
theorem dX12_poured_111 : decode cX12_poured 111 = .ok (.iconst 0, 1) := z_dd_3 (by decide +kernel)
theorem dX12_poured_112 : decode cX12_poured 112 = .ok (.ireturn, 1) := z_dd_172 (by decide +kernel)
theorem dX12_poured_107 : decode cX12_poured 107 = .ok (.iconst 1, 1) := z_dd_4 (by decide +kernel)
theorem dX12_poured_108 : decode cX12_poured 108 = .ok (.goto 4, 3) := z_dd_167 (by decide +kernel)
theorem dX12_poured_113 : decode cX12_poured 113 = .ok (.iconst (-1), 1) := z_dd_2 (by decide +kernel)
theorem dX12_poured_114 : decode cX12_poured 114 = .ok (.ireturn, 1) := z_dd_172 (by decide +kernel)
theorem dX12_found_10 : decode cX12_found 10 = .ok (.iconst 0, 1) := z_dd_3 (by decide +kernel)
theorem dX12_found_11 : decode cX12_found 11 = .ok (.istore_n 2, 1) := z_dd_61 (by decide +kernel)
theorem dX12_found_12 : decode cX12_found 12 = .ok (.iconst 0, 1) := z_dd_3 (by decide +kernel)
theorem dX12_found_13 : decode cX12_found 13 = .ok (.istore_n 3, 1) := z_dd_62 (by decide +kernel)
theorem dX12_found_14 : decode cX12_found 14 = .ok (.iload_n 3, 1) := z_dd_29 (by decide +kernel)
theorem dX12_found_15 : decode cX12_found 15 = .ok (.aload_n 0, 1) := z_dd_42 (by decide +kernel)
theorem dX12_found_16 : decode cX12_found 16 = .ok (.getfield 468, 3) := z_dd_180 (by decide +kernel)
theorem dX12_found_19 : decode cX12_found 19 = .ok (.if_icmp .ge 26, 3) := z_dd_162 (by decide +kernel)
theorem dX12_found_45 : decode cX12_found 45 = .ok (.iload_n 2, 1) := z_dd_28 (by decide +kernel)
theorem dX12_found_46 : decode cX12_found 46 = .ok (.ifCond .eq 24, 3) := z_dd_153 (by decide +kernel)
theorem dX12_found_70 : decode cX12_found 70 = .ok (.iconst 0, 1) := z_dd_3 (by decide +kernel)
theorem dX12_found_71 : decode cX12_found 71 = .ok (.ireturn, 1) := z_dd_172 (by decide +kernel)
theorem dX12_found_49 : decode cX12_found 49 = .ok (.aload_n 0, 1) := z_dd_42 (by decide +kernel)
theorem dX12_found_50 : decode cX12_found 50 = .ok (.iload_n 1, 1) := z_dd_27 (by decide +kernel)
theorem dX12_found_51 : decode cX12_found 51 = .ok (.aload_n 0, 1) := z_dd_42 (by decide +kernel)
theorem dX12_found_52 : decode cX12_found 52 = .ok (.getfield 232, 3) := z_dd_180 (by decide +kernel)
theorem dX12_found_55 : decode cX12_found 55 = .ok (.aload_n 0, 1) := z_dd_42 (by decide +kernel)
theorem dX12_found_56 : decode cX12_found 56 = .ok (.getfield 232, 3) := z_dd_180 (by decide +kernel)
set_option maxRecDepth 20000 in
theorem ggX12_found_X12_kindOn : GoodIn wsX12_found wsX12_kindOn := goodIn_sub (fa_c (me_s (me_l (List.mem_of_getElem? (i := 13) rfl))) (fa_a (fa_c (me_s (me_l (List.mem_of_getElem? (i := 14) rfl))) (fa_c (me_s (me_l (List.mem_of_getElem? (i := 15) rfl))) (fa_c (me_s (me_l (List.mem_of_getElem? (i := 16) rfl))) (fa_c (me_s (me_l (List.mem_of_getElem? (i := 17) rfl))) (fa_c (me_s (me_l (List.mem_of_getElem? (i := 18) rfl))) (fa_c (me_s (me_l (List.mem_of_getElem? (i := 19) rfl))) fa_n)))))) (fun w h => (me_s (me_r h))))) (by decide +kernel)
set_option maxRecDepth 20000 in
theorem gX12_found_X12_kindOn : GoodIn wsX12_found (wsV RX12 249 RX12 yX12_kindOn wsX12_kindOn) := goodIn_app (goodIn_sub (fa_c (me_s (me_l (List.mem_of_getElem? (i := 10) rfl))) (fa_c (me_s (me_l (List.mem_of_getElem? (i := 11) rfl))) (fa_c (me_s (me_l (List.mem_of_getElem? (i := 12) rfl))) (fa_c (me_s (me_l (List.mem_of_getElem? (i := 7) rfl))) fa_n)))) (by decide +kernel)) ggX12_found_X12_kindOn
theorem dX12_found_59 : decode cX12_found 59 = .ok (.invokevirtual 249, 3) := z_dd_182 (by decide +kernel)
theorem dX12_found_62 : decode cX12_found 62 = .ok (.iconst 2, 1) := z_dd_5 (by decide +kernel)
theorem dX12_found_63 : decode cX12_found 63 = .ok (.if_icmp .eq 7, 3) := z_dd_159 (by decide +kernel)
theorem dX12_found_66 : decode cX12_found 66 = .ok (.iconst 1, 1) := z_dd_4 (by decide +kernel)
theorem dX12_found_67 : decode cX12_found 67 = .ok (.goto 4, 3) := z_dd_167 (by decide +kernel)
theorem dX12_found_22 : decode cX12_found 22 = .ok (.aload_n 0, 1) := z_dd_42 (by decide +kernel)
theorem dX12_found_23 : decode cX12_found 23 = .ok (.getfield 121, 3) := z_dd_180 (by decide +kernel)
theorem dX12_found_26 : decode cX12_found 26 = .ok (.iload_n 3, 1) := z_dd_29 (by decide +kernel)
theorem dX12_found_27 : decode cX12_found 27 = .ok (.iaload, 1) := z_dd_46 (by decide +kernel)
theorem dX12_found_28 : decode cX12_found 28 = .ok (.iload_n 1, 1) := z_dd_27 (by decide +kernel)
theorem dX12_found_29 : decode cX12_found 29 = .ok (.if_icmp .ne 10, 3) := z_dd_160 (by decide +kernel)
theorem dX12_found_39 : decode cX12_found 39 = .ok (.iinc 3 1, 3) := z_dd_132 (by decide +kernel)
theorem dX12_found_42 : decode cX12_found 42 = .ok (.goto (-28), 3) := z_dd_167 (by decide +kernel)
theorem dX12_found_32 : decode cX12_found 32 = .ok (.aload_n 0, 1) := z_dd_42 (by decide +kernel)
theorem dX12_found_33 : decode cX12_found 33 = .ok (.getfield 142, 3) := z_dd_180 (by decide +kernel)
theorem dX12_found_36 : decode cX12_found 36 = .ok (.iload_n 3, 1) := z_dd_29 (by decide +kernel)
theorem dX12_found_37 : decode cX12_found 37 = .ok (.baload, 1) := z_dd_51 (by decide +kernel)
theorem dX12_found_38 : decode cX12_found 38 = .ok (.istore_n 2, 1) := z_dd_61 (by decide +kernel)
theorem dX12_want_8 : decode cX12_want 8 = .ok (.iload_n 2, 1) := z_dd_28 (by decide +kernel)
theorem dX12_want_9 : decode cX12_want 9 = .ok (.iconst 0, 1) := z_dd_3 (by decide +kernel)
theorem dX12_want_10 : decode cX12_want 10 = .ok (.bipush 20, 2) := z_dd_16 (by decide +kernel)
set_option maxRecDepth 20000 in
theorem ggX12_want_X12_within : GoodIn wsX12_want wsX12_within := goodIn_sub (fa_c (me_s (me_l (List.mem_of_getElem? (i := 9) rfl))) fa_n) (by decide +kernel)
set_option maxRecDepth 20000 in
theorem gX12_want_X12_within : GoodIn wsX12_want (va_wsS RX12 235 yX12_within wsX12_within) := goodIn_app (goodIn_sub (fa_c (me_s (me_l (List.mem_of_getElem? (i := 7) rfl))) (fa_c (me_s (me_l (List.mem_of_getElem? (i := 8) rfl))) (fa_c (me_s (me_l (List.mem_of_getElem? (i := 4) rfl))) fa_n))) (by decide +kernel)) ggX12_want_X12_within
theorem dX12_want_12 : decode cX12_want 12 = .ok (.invokestatic 235, 3) := z_dd_184 (by decide +kernel)
theorem dX12_want_15 : decode cX12_want 15 = .ok (.ifCond .ne 5, 3) := z_dd_154 (by decide +kernel)
theorem dX12_want_20 : decode cX12_want 20 = .ok (.aload_n 0, 1) := z_dd_42 (by decide +kernel)
theorem dX12_want_21 : decode cX12_want 21 = .ok (.getfield 175, 3) := z_dd_180 (by decide +kernel)
theorem dX12_want_24 : decode cX12_want 24 = .ok (.iload_n 1, 1) := z_dd_27 (by decide +kernel)
theorem dX12_want_25 : decode cX12_want 25 = .ok (.iload_n 2, 1) := z_dd_28 (by decide +kernel)
theorem dX12_want_26 : decode cX12_want 26 = .ok (.iastore, 1) := z_dd_79 (by decide +kernel)
theorem dX12_want_27 : decode cX12_want 27 = .ok (.iconst 1, 1) := z_dd_4 (by decide +kernel)
theorem dX12_want_28 : decode cX12_want 28 = .ok (.ireturn, 1) := z_dd_172 (by decide +kernel)
theorem dX12_road_12 : decode cX12_road 12 = .ok (.aload_n 0, 1) := z_dd_42 (by decide +kernel)
theorem dX12_road_13 : decode cX12_road 13 = .ok (.iload_n 2, 1) := z_dd_28 (by decide +kernel)
set_option maxRecDepth 20000 in
theorem ggX12_road_X12_isStation : GoodIn wsX12_road wsX12_isStation := goodIn_sub (fa_c (me_s (me_l (List.mem_of_getElem? (i := 6) rfl))) (fa_a (fa_c (me_s (me_l (List.mem_of_getElem? (i := 7) rfl))) fa_n) (fun w h => (me_s (me_r h))))) (by decide +kernel)
set_option maxRecDepth 20000 in
theorem gX12_road_X12_isStation : GoodIn wsX12_road (wsV RX12 464 RX12 yX12_isStation wsX12_isStation) := goodIn_app (goodIn_sub (fa_c (me_s (me_l (List.mem_of_getElem? (i := 2) rfl))) (fa_c (me_s (me_l (List.mem_of_getElem? (i := 3) rfl))) (fa_c (me_s (me_l (List.mem_of_getElem? (i := 4) rfl))) (fa_c (me_s (me_l (List.mem_of_getElem? (i := 5) rfl))) fa_n)))) (by decide +kernel)) ggX12_road_X12_isStation
theorem dX12_road_14 : decode cX12_road 14 = .ok (.invokevirtual 464, 3) := z_dd_182 (by decide +kernel)
theorem dX12_road_17 : decode cX12_road 17 = .ok (.ifCond .eq 14, 3) := z_dd_153 (by decide +kernel)
theorem dX12_road_20 : decode cX12_road 20 = .ok (.iload_n 3, 1) := z_dd_29 (by decide +kernel)
theorem dX12_road_21 : decode cX12_road 21 = .ok (.iconst 0, 1) := z_dd_3 (by decide +kernel)
theorem dX12_road_22 : decode cX12_road 22 = .ok (.sipush 999, 3) := z_dd_17 (by decide +kernel)
set_option maxRecDepth 20000 in
theorem ggX12_road_X12_within : GoodIn wsX12_road wsX12_within := goodIn_sub (fa_c (me_s (me_l (List.mem_of_getElem? (i := 10) rfl))) fa_n) (by decide +kernel)
set_option maxRecDepth 20000 in
theorem gX12_road_X12_within : GoodIn wsX12_road (va_wsS RX12 235 yX12_within wsX12_within) := goodIn_app (goodIn_sub (fa_c (me_s (me_l (List.mem_of_getElem? (i := 8) rfl))) (fa_c (me_s (me_l (List.mem_of_getElem? (i := 9) rfl))) (fa_c (me_s (me_l (List.mem_of_getElem? (i := 5) rfl))) fa_n))) (by decide +kernel)) ggX12_road_X12_within
theorem dX12_road_25 : decode cX12_road 25 = .ok (.invokestatic 235, 3) := z_dd_184 (by decide +kernel)
theorem dX12_road_28 : decode cX12_road 28 = .ok (.ifCond .ne 5, 3) := z_dd_154 (by decide +kernel)
theorem dX12_road_33 : decode cX12_road 33 = .ok (.aload_n 0, 1) := z_dd_42 (by decide +kernel)
theorem dX12_road_34 : decode cX12_road 34 = .ok (.getfield 178, 3) := z_dd_180 (by decide +kernel)
theorem dX12_road_37 : decode cX12_road 37 = .ok (.bipush 10, 2) := z_dd_16 (by decide +kernel)
theorem dX12_road_39 : decode cX12_road 39 = .ok (.iload_n 1, 1) := z_dd_27 (by decide +kernel)
theorem dX12_road_40 : decode cX12_road 40 = .ok (.imul, 1) := z_dd_104 (by decide +kernel)
theorem dX12_road_41 : decode cX12_road 41 = .ok (.iload_n 2, 1) := z_dd_28 (by decide +kernel)
theorem dX12_road_42 : decode cX12_road 42 = .ok (.iadd, 1) := z_dd_96 (by decide +kernel)
theorem dX12_road_43 : decode cX12_road 43 = .ok (.iload_n 3, 1) := z_dd_29 (by decide +kernel)
theorem dX12_road_44 : decode cX12_road 44 = .ok (.iastore, 1) := z_dd_79 (by decide +kernel)
theorem dX12_road_45 : decode cX12_road 45 = .ok (.iconst 1, 1) := z_dd_4 (by decide +kernel)
theorem dX12_road_46 : decode cX12_road 46 = .ok (.ireturn, 1) := z_dd_172 (by decide +kernel)
theorem z_l2400 : (2400 : Int32).toInt = 2400 := by decide
theorem z_l72000 : (72000 : Int32).toInt = 72000 := by decide
/-! rows of numbers that keep in a range, wherever one looks -/
noncomputable def z_rg (c : Nat) (lo hi : Int) (I : z_I) : Prop := ∀ k, lo ≤ (I c k).toInt ∧ (I c k).toInt ≤ hi
theorem z_rg_n {c a j : Nat} {lo hi : Int} {I K : z_I} {v : Int32} (h : z_rg c lo hi I) (ha : c ≠ a) (e : K = z_up I a j v) : z_rg c lo hi K := fun k => by
  rw [e, z_up_n ha]
  exact h k
theorem z_rg_a {c j : Nat} {lo hi : Int} {I K : z_I} {v : Int32} (h : z_rg c lo hi I) (hv : lo ≤ v.toInt ∧ v.toInt ≤ hi) (e : K = z_up I c j v) : z_rg c lo hi K := fun k => by
  by_cases q : k = j
  · rw [e, q, z_up_s]
    exact hv
  · rw [e, z_up_k q]
    exact h k
theorem z_rg_fr {c : Nat} {lo hi : Int} {L : z_L} {I K : z_I} (h : z_rg c lo hi I) (hf : z_fr L K I) (hL : L.all (fun e => e.1 != c && e.1 != 1000) = true) : z_rg c lo hi K := fun k => by
  have hw : z_wr L c k = false := by
    cases hq : z_wr L c k with
    | false => rfl
    | true =>
      exfalso
      unfold z_wr at hq
      rw [List.any_eq_true] at hq
      obtain ⟨e, he, h2⟩ := hq
      rw [List.all_eq_true] at hL
      have h3 := hL e he
      simp only [z_ce, Bool.and_eq_true, Bool.or_eq_true, beq_iff_eq, decide_eq_true_eq, bne_iff_ne, ne_eq] at h2 h3
      omega
  rw [hf _ _ hw]
  exact h k
theorem z_zast {p : Program} {l : Launch} {e : Env} {R : Room} {s : State} {m : MethodId} {args : Array Value} {below : List Frame} {meth : Method} {c : Code} {H : Heap} {locs : List Loc} {cells slots : Nat} {Q : State → Prop} {cc : ByteArray} {pc : Nat} {ls : Array Slot} {rest : List Value} {G : z_G} {A : Nat → Prop} {H0 : Heap} {sh : Nat → Option z_S} {ad : Nat → Nat} {I : z_I} {J : z_J} {P : z_P} {i : Nat} (hexec : p.tables.exec = Jvm.exec) (hb : c.code = cc) (hK : z_K G s) (hW : z_W G A (sh, ad, I, J, P) H) (hS : va_S A H0 H locs) {n : Nat} (hi : sh i = some (.inl (.boolean, n))) {x y : Int32} (hin : vp_in x n) (hdg : decode cc pc = .ok (.bastore, 1))
    (kk : ∀ (H1 : Heap) (locs1 : List Loc), H1.size = H.size → z_W G A (sh, ad, z_up I i x.toNatClampNeg (vp_nar .boolean y), J, P) H1 → va_S A H0 H1 locs1 → W p l e R s m args below meth c H1 locs1 cells slots Q (F0 m (pc + 1) ls rest)) : W p l e R s m args below meth c H locs cells slots Q (F0 m pc ls (.int y :: .int x :: .ref (ad i) :: rest)) := by
  refine W.zast hexec hb (hW.1 i _ hi) ((hK.2.1 .boolean (by simp [z_tys])).1 n _) (fun q => by cases q) (by show ¬ (x < 0 ∨ (arrV _ _ _).slots.size ≤ _); rw [arrV_size]; exact hin) rfl rfl hdg fun H1 e1 z oq => ?_
  refine kk H1 _ z (hW.one rfl rfl hi ?_ oq (fun j hj ty b => z_vI (Or.inl hj) ty)) (hS.put z oq (hW.2.2 i (z_ne hi)))
  show H1[ad i]? = some (arrV (G.2 .boolean) n _)
  rw [e1]
  rw [arrV_store]
  congr 2
  funext q
  by_cases hq : q = x.toNatClampNeg
  · subst hq
    simp [updV, z_v, z_up, vp_nar]
    try rfl
  · simp [updV, z_v, z_up, hq]
noncomputable def z_ima (I : z_I) : Prop := (0 ≤ (I 0 0).toInt ∧ (I 0 0).toInt ≤ 719) ∧ (0 ≤ (I 0 1).toInt ∧ (I 0 1).toInt ≤ 30) ∧ (0 ≤ (I 0 2).toInt ∧ (I 0 2).toInt ≤ 200)
noncomputable def z_imb (I : z_I) : Prop := (0 ≤ (I 0 13).toInt ∧ (I 0 13).toInt ≤ 12) ∧ (0 ≤ (I 0 14).toInt ∧ (I 0 14).toInt ≤ 288)
noncomputable def z_imn (I : z_I) : Prop := (0 ≤ (I 0 15).toInt ∧ (I 0 15).toInt ≤ 6100)
noncomputable def z_imp (I : z_I) : Prop := (0 ≤ (I 0 31).toInt ∧ (I 0 31).toInt ≤ 500) ∧ (0 ≤ (I 0 33).toInt ∧ (I 0 33).toInt ≤ 500) ∧ (0 ≤ (I 0 34).toInt ∧ (I 0 34).toInt ≤ 500) ∧ (0 ≤ (I 0 35).toInt ∧ (I 0 35).toInt ≤ 500)
noncomputable def z_imt (I : z_I) : Prop := (0 ≤ (I 0 36).toInt ∧ (I 0 36).toInt ≤ 4) ∧ (0 ≤ (I 0 42).toInt ∧ (I 0 42).toInt ≤ 1)
noncomputable def z_imd (I : z_I) : Prop := (0 ≤ (I 0 47).toInt ∧ (I 0 47).toInt ≤ 119) ∧ (0 ≤ (I 0 39).toInt ∧ (I 0 39).toInt ≤ 100)
noncomputable def z_img (I : z_I) : Prop := (0 ≤ (I 0 40).toInt ∧ (I 0 40).toInt ≤ 6199)
noncomputable def z_ims (I : z_I) : Prop := (0 ≤ (I 0 54).toInt ∧ (I 0 54).toInt ≤ 10) ∧ (0 ≤ (I 0 55).toInt ∧ (I 0 55).toInt ≤ 300)
noncomputable def z_imr (I : z_I) : Prop := (0 ≤ (I 0 75).toInt ∧ (I 0 75).toInt ≤ 4)
noncomputable def z_imj (I : z_I) : Prop := (0 ≤ (I 0 83).toInt ∧ (I 0 83).toInt ≤ 60)
set_option maxHeartbeats 8000000 in
set_option maxRecDepth 100000 in
theorem sx_X12_within (l : Launch) (G : z_G) (ad : Nat → Nat) (I : z_I) (J : z_J) (a1 : Int32) (a2 : Int32) (a3 : Int32) : z_M l yX12_within wsX12_within { frames := 1, cells := 0, slots := 0, locals := 12 } [.int a1, .int a2, .int a3] G (shM, ad, I, J, PM ad) (fun r u1 => u1 = (shM, ad, I, J, PM ad) ∧ (r = 1 ∧ a2.toInt ≤ a1.toInt ∧ a1.toInt ≤ a3.toInt ∨ r = 0)) 0 0 := by
  intro sz
  refine z_headQ (cc := cX12_within) (maxL := 3) (ret := (some .boolean)) (by decide) rfl (Nat.le_of_ble_eq_true rfl) ?_
  intro p e s m below meth c0 ls hIn hK hsz hW hl
  obtain ⟨hx, hb, hr, hml, hown, hts, hlocks, hname⟩ := hIn
  subst hsz
  have hown : s.vm.findClass RX12 = some m.cls := hown
  have hA : ∀ q : Nat, s.heap.size ≤ q → z_A (shM, ad, I, J, PM ad) s.heap.size q := fun q h => Or.inr h
  generalize hAe : z_A (shM, ad, I, J, PM ad) s.heap.size = A at *
  have hS : va_S A s.heap s.heap [] := va_S.rf
  have hl : lv_has ls 3 [(0, .int a1), (1, .int a2), (2, .int a3)] := hl
  refine lv_iload_n hx hb dX12_within_0 rfl (lv_at hl 0 rfl) ?_
  refine lv_iload_n hx hb dX12_within_1 rfl (lv_at hl 1 rfl) ?_
  refine lv_icmp_lt (tgt := 14) hx hb dX12_within_2 (by decide) (fun c1 => ?_) (fun c1 => ?_)
  · have g2 := z_f_lt rfl rfl c1
    have b3 := Int32.toInt_lt a1
    have b4 := Int32.toInt_lt a2
    refine lv_iconst (v := 0) hx hb dX12_within_14 (by decide) ?_
    exact z_zret hx hb hr (by decide) hK hS (Nat.le_of_ble_eq_true rfl) (Nat.le_of_ble_eq_true rfl) hlocks dX12_within_15 (shM, ad, I, J, PM ad) hW ⟨rfl, Or.inr rfl⟩
  · have g5 := z_f_nlt rfl rfl c1
    have b6 := Int32.toInt_lt a1
    have b7 := Int32.toInt_lt a2
    refine lv_iload_n hx hb dX12_within_5 rfl (lv_at hl 0 rfl) ?_
    refine lv_iload_n hx hb dX12_within_6 rfl (lv_at hl 2 rfl) ?_
    refine lv_icmp_gt (tgt := 14) hx hb dX12_within_7 (by decide) (fun c8 => ?_) (fun c8 => ?_)
    · have g9 := z_f_gt rfl rfl c8
      have b10 := Int32.toInt_lt a3
      refine lv_iconst (v := 0) hx hb dX12_within_14 (by decide) ?_
      exact z_zret hx hb hr (by decide) hK hS (Nat.le_of_ble_eq_true rfl) (Nat.le_of_ble_eq_true rfl) hlocks dX12_within_15 (shM, ad, I, J, PM ad) hW ⟨rfl, Or.inr rfl⟩
    · have g11 := z_f_ngt rfl rfl c8
      have b12 := Int32.toInt_lt a3
      refine lv_iconst (v := 1) hx hb dX12_within_10 (by decide) ?_
      refine lv_goto (tgt := 15) hx hb dX12_within_11 (by decide) ?_
      exact z_zret hx hb hr (by decide) hK hS (Nat.le_of_ble_eq_true rfl) (Nat.le_of_ble_eq_true rfl) hlocks dX12_within_15 (shM, ad, I, J, PM ad) hW ⟨rfl, Or.inl ⟨rfl, (by omega), (by omega)⟩⟩
set_option maxHeartbeats 8000000 in
set_option maxRecDepth 100000 in
theorem sx_X12_isDay (l : Launch) (G : z_G) (ad : Nat → Nat) (I : z_I) (J : z_J) (a1 : Int32) : z_M l yX12_isDay wsX12_isDay { frames := 1, cells := 0, slots := 0, locals := 12 } [.int a1] G (shM, ad, I, J, PM ad) (fun r u1 => u1 = (shM, ad, I, J, PM ad) ∧ (r = 1 ∧ 0 ≤ a1.toInt ∧ a1.toInt ≤ 719 ∨ r = 0)) 0 0 := by
  intro sz
  refine z_headQ (cc := cX12_isDay) (maxL := 1) (ret := (some .boolean)) (by decide) rfl (Nat.le_of_ble_eq_true rfl) ?_
  intro p e s m below meth c0 ls hIn hK hsz hW hl
  obtain ⟨hx, hb, hr, hml, hown, hts, hlocks, hname⟩ := hIn
  subst hsz
  have hown : s.vm.findClass RX12 = some m.cls := hown
  have hA : ∀ q : Nat, s.heap.size ≤ q → z_A (shM, ad, I, J, PM ad) s.heap.size q := fun q h => Or.inr h
  generalize hAe : z_A (shM, ad, I, J, PM ad) s.heap.size = A at *
  have hS : va_S A s.heap s.heap [] := va_S.rf
  have hl : lv_has ls 1 [(0, .int a1)] := hl
  refine lv_iload_n hx hb dX12_isDay_0 rfl (lv_at hl 0 rfl) ?_
  refine lv_if_lt (tgt := 15) hx hb dX12_isDay_1 (by decide) (fun c1 => ?_) (fun c1 => ?_)
  · have g2 := z_f_lt rfl z_l0 c1
    have b3 := Int32.toInt_lt a1
    refine lv_iconst (v := 0) hx hb dX12_isDay_15 (by decide) ?_
    exact z_zret hx hb hr (by decide) hK hS (Nat.le_of_ble_eq_true rfl) (Nat.le_of_ble_eq_true rfl) hlocks dX12_isDay_16 (shM, ad, I, J, PM ad) hW ⟨rfl, Or.inr rfl⟩
  · have g4 := z_f_nlt rfl z_l0 c1
    have b5 := Int32.toInt_lt a1
    refine lv_iload_n hx hb dX12_isDay_4 rfl (lv_at hl 0 rfl) ?_
    refine lv_sipush (v := 719) hx hb dX12_isDay_5 (by decide) ?_
    refine lv_icmp_gt (tgt := 15) hx hb dX12_isDay_8 (by decide) (fun c6 => ?_) (fun c6 => ?_)
    · have g7 := z_f_gt rfl z_l719 c6
      refine lv_iconst (v := 0) hx hb dX12_isDay_15 (by decide) ?_
      exact z_zret hx hb hr (by decide) hK hS (Nat.le_of_ble_eq_true rfl) (Nat.le_of_ble_eq_true rfl) hlocks dX12_isDay_16 (shM, ad, I, J, PM ad) hW ⟨rfl, Or.inr rfl⟩
    · have g8 := z_f_ngt rfl z_l719 c6
      refine lv_iconst (v := 1) hx hb dX12_isDay_11 (by decide) ?_
      refine lv_goto (tgt := 16) hx hb dX12_isDay_12 (by decide) ?_
      exact z_zret hx hb hr (by decide) hK hS (Nat.le_of_ble_eq_true rfl) (Nat.le_of_ble_eq_true rfl) hlocks dX12_isDay_16 (shM, ad, I, J, PM ad) hW ⟨rfl, Or.inl ⟨rfl, (by omega), (by omega)⟩⟩
set_option maxHeartbeats 8000000 in
set_option maxRecDepth 100000 in
theorem sx_X12_isMonth (l : Launch) (G : z_G) (ad : Nat → Nat) (I : z_I) (J : z_J) (a1 : Int32) : z_M l yX12_isMonth wsX12_isMonth { frames := 1, cells := 0, slots := 0, locals := 12 } [.int a1] G (shM, ad, I, J, PM ad) (fun r u1 => u1 = (shM, ad, I, J, PM ad) ∧ (r = 1 ∧ 0 ≤ a1.toInt ∧ a1.toInt ≤ 23 ∨ r = 0)) 0 0 := by
  intro sz
  refine z_headQ (cc := cX12_isMonth) (maxL := 1) (ret := (some .boolean)) (by decide) rfl (Nat.le_of_ble_eq_true rfl) ?_
  intro p e s m below meth c0 ls hIn hK hsz hW hl
  obtain ⟨hx, hb, hr, hml, hown, hts, hlocks, hname⟩ := hIn
  subst hsz
  have hown : s.vm.findClass RX12 = some m.cls := hown
  have hA : ∀ q : Nat, s.heap.size ≤ q → z_A (shM, ad, I, J, PM ad) s.heap.size q := fun q h => Or.inr h
  generalize hAe : z_A (shM, ad, I, J, PM ad) s.heap.size = A at *
  have hS : va_S A s.heap s.heap [] := va_S.rf
  have hl : lv_has ls 1 [(0, .int a1)] := hl
  refine lv_iload_n hx hb dX12_isMonth_0 rfl (lv_at hl 0 rfl) ?_
  refine lv_if_lt (tgt := 14) hx hb dX12_isMonth_1 (by decide) (fun c1 => ?_) (fun c1 => ?_)
  · have g2 := z_f_lt rfl z_l0 c1
    have b3 := Int32.toInt_lt a1
    refine lv_iconst (v := 0) hx hb dX12_isMonth_14 (by decide) ?_
    exact z_zret hx hb hr (by decide) hK hS (Nat.le_of_ble_eq_true rfl) (Nat.le_of_ble_eq_true rfl) hlocks dX12_isMonth_15 (shM, ad, I, J, PM ad) hW ⟨rfl, Or.inr rfl⟩
  · have g4 := z_f_nlt rfl z_l0 c1
    have b5 := Int32.toInt_lt a1
    refine lv_iload_n hx hb dX12_isMonth_4 rfl (lv_at hl 0 rfl) ?_
    refine lv_bipush (v := 23) hx hb dX12_isMonth_5 (by decide) ?_
    refine lv_icmp_gt (tgt := 14) hx hb dX12_isMonth_7 (by decide) (fun c6 => ?_) (fun c6 => ?_)
    · have g7 := z_f_gt rfl z_l23 c6
      refine lv_iconst (v := 0) hx hb dX12_isMonth_14 (by decide) ?_
      exact z_zret hx hb hr (by decide) hK hS (Nat.le_of_ble_eq_true rfl) (Nat.le_of_ble_eq_true rfl) hlocks dX12_isMonth_15 (shM, ad, I, J, PM ad) hW ⟨rfl, Or.inr rfl⟩
    · have g8 := z_f_ngt rfl z_l23 c6
      refine lv_iconst (v := 1) hx hb dX12_isMonth_10 (by decide) ?_
      refine lv_goto (tgt := 15) hx hb dX12_isMonth_11 (by decide) ?_
      exact z_zret hx hb hr (by decide) hK hS (Nat.le_of_ble_eq_true rfl) (Nat.le_of_ble_eq_true rfl) hlocks dX12_isMonth_15 (shM, ad, I, J, PM ad) hW ⟨rfl, Or.inl ⟨rfl, (by omega), (by omega)⟩⟩
set_option maxHeartbeats 8000000 in
set_option maxRecDepth 100000 in
theorem sx_X12_min (l : Launch) (G : z_G) (ad : Nat → Nat) (I : z_I) (J : z_J) (a1 : Int32) (a2 : Int32) : z_M l yX12_min wsX12_min { frames := 1, cells := 0, slots := 0, locals := 12 } [.int a1, .int a2] G (shM, ad, I, J, PM ad) (fun r u1 => u1 = (shM, ad, I, J, PM ad) ∧ (r = a1 ∨ r = a2)) 0 0 := by
  intro sz
  refine z_headQ (cc := cX12_min) (maxL := 2) (ret := (some .int)) (by decide) rfl (Nat.le_of_ble_eq_true rfl) ?_
  intro p e s m below meth c0 ls hIn hK hsz hW hl
  obtain ⟨hx, hb, hr, hml, hown, hts, hlocks, hname⟩ := hIn
  subst hsz
  have hown : s.vm.findClass RX12 = some m.cls := hown
  have hA : ∀ q : Nat, s.heap.size ≤ q → z_A (shM, ad, I, J, PM ad) s.heap.size q := fun q h => Or.inr h
  generalize hAe : z_A (shM, ad, I, J, PM ad) s.heap.size = A at *
  have hS : va_S A s.heap s.heap [] := va_S.rf
  have hl : lv_has ls 2 [(0, .int a1), (1, .int a2)] := hl
  refine lv_iload_n hx hb dX12_min_0 rfl (lv_at hl 0 rfl) ?_
  refine lv_iload_n hx hb dX12_min_1 rfl (lv_at hl 1 rfl) ?_
  refine lv_icmp_ge (tgt := 9) hx hb dX12_min_2 (by decide) (fun c1 => ?_) (fun c1 => ?_)
  · have g2 := z_f_ge rfl rfl c1
    have b3 := Int32.toInt_lt a1
    have b4 := Int32.toInt_lt a2
    refine lv_iload_n hx hb dX12_min_9 rfl (lv_at hl 1 rfl) ?_
    exact z_iret hx hb hr hK hS (Nat.le_of_ble_eq_true rfl) (Nat.le_of_ble_eq_true rfl) hlocks dX12_min_10 (shM, ad, I, J, PM ad) hW ⟨rfl, Or.inr rfl⟩
  · have g5 := z_f_nge rfl rfl c1
    have b6 := Int32.toInt_lt a1
    have b7 := Int32.toInt_lt a2
    refine lv_iload_n hx hb dX12_min_5 rfl (lv_at hl 0 rfl) ?_
    refine lv_goto (tgt := 10) hx hb dX12_min_6 (by decide) ?_
    exact z_iret hx hb hr hK hS (Nat.le_of_ble_eq_true rfl) (Nat.le_of_ble_eq_true rfl) hlocks dX12_min_10 (shM, ad, I, J, PM ad) hW ⟨rfl, Or.inl rfl⟩
set_option maxHeartbeats 8000000 in
set_option maxRecDepth 100000 in
theorem sx_X12_abs (l : Launch) (G : z_G) (ad : Nat → Nat) (I : z_I) (J : z_J) (a1 : Int32) : z_M l yX12_abs wsX12_abs { frames := 1, cells := 0, slots := 0, locals := 12 } [.int a1] G (shM, ad, I, J, PM ad) (fun r u1 => u1 = (shM, ad, I, J, PM ad)) 0 0 := by
  intro sz
  refine z_headQ (cc := cX12_abs) (maxL := 1) (ret := (some .int)) (by decide) rfl (Nat.le_of_ble_eq_true rfl) ?_
  intro p e s m below meth c0 ls hIn hK hsz hW hl
  obtain ⟨hx, hb, hr, hml, hown, hts, hlocks, hname⟩ := hIn
  subst hsz
  have hown : s.vm.findClass RX12 = some m.cls := hown
  have hA : ∀ q : Nat, s.heap.size ≤ q → z_A (shM, ad, I, J, PM ad) s.heap.size q := fun q h => Or.inr h
  generalize hAe : z_A (shM, ad, I, J, PM ad) s.heap.size = A at *
  have hS : va_S A s.heap s.heap [] := va_S.rf
  have hl : lv_has ls 1 [(0, .int a1)] := hl
  refine lv_iload_n hx hb dX12_abs_0 rfl (lv_at hl 0 rfl) ?_
  refine lv_if_ge (tgt := 9) hx hb dX12_abs_1 (by decide) (fun c1 => ?_) (fun c1 => ?_)
  · have g2 := z_f_ge rfl z_l0 c1
    have b3 := Int32.toInt_lt a1
    refine lv_iload_n hx hb dX12_abs_9 rfl (lv_at hl 0 rfl) ?_
    exact z_iret hx hb hr hK hS (Nat.le_of_ble_eq_true rfl) (Nat.le_of_ble_eq_true rfl) hlocks dX12_abs_10 (shM, ad, I, J, PM ad) hW rfl
  · have g4 := z_f_nge rfl z_l0 c1
    have b5 := Int32.toInt_lt a1
    refine lv_iload_n hx hb dX12_abs_4 rfl (lv_at hl 0 rfl) ?_
    refine lv_ineg hx hb dX12_abs_5 ?_
    refine lv_topi (fun x6 ex6 => ?_)
    refine lv_goto (tgt := 10) hx hb dX12_abs_6 (by decide) ?_
    exact z_iret hx hb hr hK hS (Nat.le_of_ble_eq_true rfl) (Nat.le_of_ble_eq_true rfl) hlocks dX12_abs_10 (shM, ad, I, J, PM ad) hW rfl
theorem zj_X12_isHolder_X12 : ∀ w ∈ wsX120, w ∈ wsX12_isHolder := fun w h => (List.mem_cons_of_mem _ (List.mem_append_right _ h))
set_option maxHeartbeats 8000000 in
set_option maxRecDepth 100000 in
theorem sx_X12_isHolder (l : Launch) (G : z_G) (ad : Nat → Nat) (I : z_I) (J : z_J) (hma : z_ima I) (a1 : Int32) : z_M l yX12_isHolder wsX12_isHolder { frames := 1, cells := 0, slots := 0, locals := 12 } [.ref (ad 0), .int a1] G (shM, ad, I, J, PM ad) (fun r u1 => u1 = (shM, ad, I, J, PM ad) ∧ (r = 1 ∧ 0 ≤ a1.toInt ∧ a1.toInt ≤ 29 ∨ r = 0)) 0 0 := by
  intro sz
  refine z_headQ (cc := cX12_isHolder) (maxL := 2) (ret := (some .boolean)) (by decide) rfl (Nat.le_of_ble_eq_true rfl) ?_
  intro p e s m below meth c0 ls hIn hK hsz hW hl
  obtain ⟨hx, hb, hr, hml, hown, hts, hlocks, hname⟩ := hIn
  subst hsz
  have hown : s.vm.findClass RX12 = some m.cls := hown
  have hA : ∀ q : Nat, s.heap.size ≤ q → z_A (shM, ad, I, J, PM ad) s.heap.size q := fun q h => Or.inr h
  generalize hAe : z_A (shM, ad, I, J, PM ad) s.heap.size = A at *
  have hS : va_S A s.heap s.heap [] := va_S.rf
  have hl : lv_has ls 2 [(0, .ref (ad 0)), (1, .int a1)] := hl
  refine lv_iload_n hx hb dX12_isHolder_0 rfl (lv_at hl 1 rfl) ?_
  refine lv_if_lt (tgt := 16) hx hb dX12_isHolder_1 (by decide) (fun c1 => ?_) (fun c1 => ?_)
  · have g2 := z_f_lt rfl z_l0 c1
    have b3 := Int32.toInt_lt a1
    refine lv_iconst (v := 0) hx hb dX12_isHolder_16 (by decide) ?_
    exact z_zret hx hb hr (by decide) hK hS (Nat.le_of_ble_eq_true rfl) (Nat.le_of_ble_eq_true rfl) hlocks dX12_isHolder_17 (shM, ad, I, J, PM ad) hW ⟨rfl, Or.inr rfl⟩
  · have g4 := z_f_nlt rfl z_l0 c1
    have b5 := Int32.toInt_lt a1
    refine lv_iload_n hx hb dX12_isHolder_4 rfl (lv_at hl 1 rfl) ?_
    refine lv_aload_n hx hb dX12_isHolder_5 rfl (lv_at hl 0 rfl) ?_
    have r6 : 0 ≤ (I 0 1).toInt ∧ (I 0 1).toInt ≤ 30 := hma.2.1
    refine z_get (T := TX12) (N := 96) (ci := 12) (i := 0) (v := .int (I 0 1)) hx hb hts zj_X12_isHolder_X12 hown hK hW rfl rfl 1 (by decide) (hts (.fieldLink RX12 229 "PetrolBoardModel" "holders" "I") (me_s (me_l (List.mem_of_getElem? (i := 0) rfl)))) (fun _ h => h) rfl dX12_isHolder_6 ?_
    refine lv_icmp_ge (tgt := 16) hx hb dX12_isHolder_9 (by decide) (fun c7 => ?_) (fun c7 => ?_)
    · have g8 := z_f_ge rfl rfl c7
      refine lv_iconst (v := 0) hx hb dX12_isHolder_16 (by decide) ?_
      exact z_zret hx hb hr (by decide) hK hS (Nat.le_of_ble_eq_true rfl) (Nat.le_of_ble_eq_true rfl) hlocks dX12_isHolder_17 (shM, ad, I, J, PM ad) hW ⟨rfl, Or.inr rfl⟩
    · have g9 := z_f_nge rfl rfl c7
      refine lv_iconst (v := 1) hx hb dX12_isHolder_12 (by decide) ?_
      refine lv_goto (tgt := 17) hx hb dX12_isHolder_13 (by decide) ?_
      exact z_zret hx hb hr (by decide) hK hS (Nat.le_of_ble_eq_true rfl) (Nat.le_of_ble_eq_true rfl) hlocks dX12_isHolder_17 (shM, ad, I, J, PM ad) hW ⟨rfl, Or.inl ⟨rfl, (by omega), (by omega)⟩⟩
theorem zj_X12_isStation_X12 : ∀ w ∈ wsX120, w ∈ wsX12_isStation := fun w h => (List.mem_cons_of_mem _ (List.mem_append_right _ h))
set_option maxHeartbeats 8000000 in
set_option maxRecDepth 100000 in
theorem sx_X12_isStation (l : Launch) (G : z_G) (ad : Nat → Nat) (I : z_I) (J : z_J) (hms : z_ims I) (a1 : Int32) : z_M l yX12_isStation wsX12_isStation { frames := 1, cells := 0, slots := 0, locals := 12 } [.ref (ad 0), .int a1] G (shM, ad, I, J, PM ad) (fun r u1 => u1 = (shM, ad, I, J, PM ad) ∧ (r = 1 ∧ 0 ≤ a1.toInt ∧ a1.toInt ≤ 9 ∨ r = 0)) 0 0 := by
  intro sz
  refine z_headQ (cc := cX12_isStation) (maxL := 2) (ret := (some .boolean)) (by decide) rfl (Nat.le_of_ble_eq_true rfl) ?_
  intro p e s m below meth c0 ls hIn hK hsz hW hl
  obtain ⟨hx, hb, hr, hml, hown, hts, hlocks, hname⟩ := hIn
  subst hsz
  have hown : s.vm.findClass RX12 = some m.cls := hown
  have hA : ∀ q : Nat, s.heap.size ≤ q → z_A (shM, ad, I, J, PM ad) s.heap.size q := fun q h => Or.inr h
  generalize hAe : z_A (shM, ad, I, J, PM ad) s.heap.size = A at *
  have hS : va_S A s.heap s.heap [] := va_S.rf
  have hl : lv_has ls 2 [(0, .ref (ad 0)), (1, .int a1)] := hl
  refine lv_iload_n hx hb dX12_isStation_0 rfl (lv_at hl 1 rfl) ?_
  refine lv_if_lt (tgt := 16) hx hb dX12_isStation_1 (by decide) (fun c1 => ?_) (fun c1 => ?_)
  · have g2 := z_f_lt rfl z_l0 c1
    have b3 := Int32.toInt_lt a1
    refine lv_iconst (v := 0) hx hb dX12_isStation_16 (by decide) ?_
    exact z_zret hx hb hr (by decide) hK hS (Nat.le_of_ble_eq_true rfl) (Nat.le_of_ble_eq_true rfl) hlocks dX12_isStation_17 (shM, ad, I, J, PM ad) hW ⟨rfl, Or.inr rfl⟩
  · have g4 := z_f_nlt rfl z_l0 c1
    have b5 := Int32.toInt_lt a1
    refine lv_iload_n hx hb dX12_isStation_4 rfl (lv_at hl 1 rfl) ?_
    refine lv_aload_n hx hb dX12_isStation_5 rfl (lv_at hl 0 rfl) ?_
    have r6 : 0 ≤ (I 0 54).toInt ∧ (I 0 54).toInt ≤ 10 := hms.1
    refine z_get (T := TX12) (N := 96) (ci := 12) (i := 0) (v := .int (I 0 54)) hx hb hts zj_X12_isStation_X12 hown hK hW rfl rfl 54 (by decide) (hts (.fieldLink RX12 461 "PetrolBoardModel" "stations" "I") (me_s (me_l (List.mem_of_getElem? (i := 0) rfl)))) (fun _ h => h) rfl dX12_isStation_6 ?_
    refine lv_icmp_ge (tgt := 16) hx hb dX12_isStation_9 (by decide) (fun c7 => ?_) (fun c7 => ?_)
    · have g8 := z_f_ge rfl rfl c7
      refine lv_iconst (v := 0) hx hb dX12_isStation_16 (by decide) ?_
      exact z_zret hx hb hr (by decide) hK hS (Nat.le_of_ble_eq_true rfl) (Nat.le_of_ble_eq_true rfl) hlocks dX12_isStation_17 (shM, ad, I, J, PM ad) hW ⟨rfl, Or.inr rfl⟩
    · have g9 := z_f_nge rfl rfl c7
      refine lv_iconst (v := 1) hx hb dX12_isStation_12 (by decide) ?_
      refine lv_goto (tgt := 17) hx hb dX12_isStation_13 (by decide) ?_
      exact z_zret hx hb hr (by decide) hK hS (Nat.le_of_ble_eq_true rfl) (Nat.le_of_ble_eq_true rfl) hlocks dX12_isStation_17 (shM, ad, I, J, PM ad) hW ⟨rfl, Or.inl ⟨rfl, (by omega), (by omega)⟩⟩
theorem zj_X12_day_X12 : ∀ w ∈ wsX120, w ∈ wsX12_day := fun w h => (List.mem_cons_of_mem _ (List.mem_append_right _ h))
theorem zj_X12_holder_X12 : ∀ w ∈ wsX120, w ∈ wsX12_holder := fun w h => (List.mem_cons_of_mem _ (List.mem_append_right _ h))
noncomputable def L_X12_note : z_L := [(0, 2), (6, 999), (7, 999), (8, 999), (9, 999), (10, 999)]
theorem zj_X12_note_X12 : ∀ w ∈ wsX120, w ∈ wsX12_note := fun w h => (List.mem_cons_of_mem _ (List.mem_append_right _ h))
set_option maxHeartbeats 8000000 in
set_option maxRecDepth 100000 in
theorem sx_X12_note (l : Launch) (G : z_G) (ad : Nat → Nat) (I : z_I) (J : z_J) (hma : z_ima I) (a1 : Int32) (a2 : Int32) (a3 : Int32) : z_M l yX12_note wsX12_note { frames := 2, cells := 0, slots := 0, locals := 34 } [.ref (ad 0), .int a1, .int a2, .int a3] G (shM, ad, I, J, PM ad) (fun r u1 => ∃ (I1 : z_I) (J1 : z_J), u1 = (shM, ad, I1, J1, PM ad) ∧ z_ima I1 ∧ z_fr L_X12_note I1 I) 0 0 := by
  intro sz
  refine z_headQ (cc := cX12_note) (maxL := 4) (ret := (some .int)) (by decide) rfl (Nat.le_of_ble_eq_true rfl) ?_
  intro p e s m below meth c0 ls hIn hK hsz hW hl
  obtain ⟨hx, hb, hr, hml, hown, hts, hlocks, hname⟩ := hIn
  subst hsz
  have hown : s.vm.findClass RX12 = some m.cls := hown
  have hA : ∀ q : Nat, s.heap.size ≤ q → z_A (shM, ad, I, J, PM ad) s.heap.size q := fun q h => Or.inr h
  generalize hAe : z_A (shM, ad, I, J, PM ad) s.heap.size = A at *
  have hS : va_S A s.heap s.heap [] := va_S.rf
  have hl : lv_has ls 4 [(0, .ref (ad 0)), (1, .int a1), (2, .int a2), (3, .int a3)] := hl
  refine lv_aload_n hx hb dX12_note_0 rfl (lv_at hl 0 rfl) ?_
  refine lv_iload_n hx hb dX12_note_1 rfl (lv_at hl 1 rfl) ?_
  refine z_ci hW hS hA (va_runV (As := [.int a1]) (rest := []) ⟨hx, hb, hml, hown, hts⟩ (sx_X12_isHolder l G ad I J ⟨(by show 0 ≤ (I 0 0).toInt ∧ (I 0 0).toInt ≤ 719; exact hma.1), (by show 0 ≤ (I 0 1).toInt ∧ (I 0 1).toInt ≤ 30; exact hma.2.1), (by show 0 ≤ (I 0 2).toInt ∧ (I 0 2).toInt ≤ 200; exact hma.2.2)⟩ a1 _) (cwV 1 hts gX12_note_X12_isHolder rfl rfl rfl hy_X12_isHolder ⟨Nat.le_of_ble_eq_true rfl, Nat.le_of_ble_eq_true rfl⟩) (z_preV (i := 0) hK hW rfl rfl) rfl rfl hl.1 rfl (lv_room (Nat.le_of_ble_eq_true rfl)) dX12_note_2 ⟨Nat.le_of_ble_eq_true rfl, Nat.le_of_ble_eq_true rfl⟩) (fun r u1 H locs hp hW hS => ?_)
  obtain ⟨e9, hp⟩ := hp
  rw [e9] at hW
  rcases hp with ⟨rfl, h1, h2⟩ | rfl
  · refine lv_if_eq (tgt := 34) hx hb dX12_note_5 (by decide) (fun c3 => absurd c3 (by decide)) (fun c3 => ?_)
    refine lv_iload_n hx hb dX12_note_8 rfl (lv_at hl 2 rfl) ?_
    refine lv_iconst (v := 0) hx hb dX12_note_9 (by decide) ?_
    refine lv_iconst (v := 4) hx hb dX12_note_10 (by decide) ?_
    refine z_ci hW hS hA (va_runS (As := [.int a2, .int 0, .int 4]) (rest := []) ⟨hx, hb, hml, hown, hts⟩ (sx_X12_within l G ad I J  a2 0 4 _) (va_cwS 3 hts gX12_note_X12_within rfl rfl rfl hy_X12_within.2 ⟨Nat.le_of_ble_eq_true rfl, Nat.le_of_ble_eq_true rfl⟩) (z_preS hK hW) rfl rfl hl.1 rfl (lv_room (Nat.le_of_ble_eq_true rfl)) dX12_note_11 ⟨Nat.le_of_ble_eq_true rfl, Nat.le_of_ble_eq_true rfl⟩) (fun r u1 H locs hp hW hS => ?_)
    obtain ⟨e9, hp⟩ := hp
    rw [e9] at hW
    rcases hp with ⟨rfl, h4, h5⟩ | rfl
    · have h4 := z_t_le z_l0 rfl h4
      have h5 := z_t_le rfl z_l4 h5
      refine lv_if_eq (tgt := 34) hx hb dX12_note_14 (by decide) (fun c6 => absurd c6 (by decide)) (fun c6 => ?_)
      refine lv_iload_n hx hb dX12_note_17 rfl (lv_at hl 3 rfl) ?_
      refine z_ci hW hS hA (va_runS (As := [.int a3]) (rest := []) ⟨hx, hb, hml, hown, hts⟩ (sx_X12_isDay l G ad I J  a3 _) (va_cwS 1 hts gX12_note_X12_isDay rfl rfl rfl hy_X12_isDay.2 ⟨Nat.le_of_ble_eq_true rfl, Nat.le_of_ble_eq_true rfl⟩) (z_preS hK hW) rfl rfl hl.1 rfl (lv_room (Nat.le_of_ble_eq_true rfl)) dX12_note_18 ⟨Nat.le_of_ble_eq_true rfl, Nat.le_of_ble_eq_true rfl⟩) (fun r u1 H locs hp hW hS => ?_)
      obtain ⟨e9, hp⟩ := hp
      rw [e9] at hW
      rcases hp with ⟨rfl, h7, h8⟩ | rfl
      · refine lv_if_eq (tgt := 34) hx hb dX12_note_21 (by decide) (fun c9 => absurd c9 (by decide)) (fun c9 => ?_)
        refine lv_aload_n hx hb dX12_note_24 rfl (lv_at hl 0 rfl) ?_
        have r10 : 0 ≤ (I 0 2).toInt ∧ (I 0 2).toInt ≤ 200 := hma.2.2
        refine z_get (T := TX12) (N := 96) (ci := 12) (i := 0) (v := .int (I 0 2)) hx hb hts zj_X12_note_X12 hown hK hW rfl rfl 2 (by decide) (hts (.fieldLink RX12 246 "PetrolBoardModel" "notes" "I") (me_s (me_l (List.mem_of_getElem? (i := 0) rfl)))) (fun _ h => h) rfl dX12_note_25 ?_
        refine lv_sipush (v := 200) hx hb dX12_note_28 (by decide) ?_
        refine lv_icmp_ne (tgt := 36) hx hb dX12_note_31 (by decide) (fun c11 => ?_) (fun c11 => ?_)
        · have g12 := z_f_ne rfl z_l200 c11
          refine lv_aload_n hx hb dX12_note_36 rfl (lv_at hl 0 rfl) ?_
          refine z_get (T := TX12) (N := 96) (ci := 12) (i := 0) (v := .ref (ad 6)) hx hb hts zj_X12_note_X12 hown hK hW rfl rfl 8 (by decide) (hts (.fieldLink RX12 25 "PetrolBoardModel" "noteWho" "[I") (me_s (me_l (List.mem_of_getElem? (i := 1) rfl)))) (fun _ h => h) rfl dX12_note_37 ?_
          refine lv_aload_n hx hb dX12_note_40 rfl (lv_at hl 0 rfl) ?_
          refine z_get (T := TX12) (N := 96) (ci := 12) (i := 0) (v := .int (I 0 2)) hx hb hts zj_X12_note_X12 hown hK hW rfl rfl 2 (by decide) (hts (.fieldLink RX12 246 "PetrolBoardModel" "notes" "I") (me_s (me_l (List.mem_of_getElem? (i := 0) rfl)))) (fun _ h => h) rfl dX12_note_41 ?_
          refine lv_iload_n hx hb dX12_note_44 rfl (lv_at hl 1 rfl) ?_
          refine z_iast (i := 6) hx hb hK hW hS rfl (z_ix rfl (by omega) (by omega)) dX12_note_45 (fun H locs hz1 hW hS => ?_)
          obtain ⟨I13, eI13⟩ : ∃ K : z_I, K = z_up I 6 (I 0 2).toNatClampNeg a1 := ⟨_, rfl⟩
          rw [← eI13] at hW
          have f14 := z_fr_a z_fr_0 (show z_wa L_X12_note 6 = true by decide) eI13
          refine lv_aload_n hx hb dX12_note_46 rfl (lv_at hl 0 rfl) ?_
          refine z_get (T := TX12) (N := 96) (ci := 12) (i := 0) (v := .ref (ad 7)) hx hb hts zj_X12_note_X12 hown hK hW rfl rfl 9 (by decide) (hts (.fieldLink RX12 28 "PetrolBoardModel" "noteClass" "[I") (me_s (me_l (List.mem_of_getElem? (i := 2) rfl)))) (fun _ h => h) rfl dX12_note_47 ?_
          refine lv_aload_n hx hb dX12_note_50 rfl (lv_at hl 0 rfl) ?_
          refine z_get (T := TX12) (N := 96) (ci := 12) (i := 0) (v := .int (I 0 2)) hx hb hts zj_X12_note_X12 hown hK hW rfl rfl 2 (by decide) (hts (.fieldLink RX12 246 "PetrolBoardModel" "notes" "I") (me_s (me_l (List.mem_of_getElem? (i := 0) rfl)))) (fun _ h => h) (congrArg Value.int (by rw [eI13, z_up_n (by decide)])) dX12_note_51 ?_
          refine lv_iload_n hx hb dX12_note_54 rfl (lv_at hl 2 rfl) ?_
          refine z_iast (i := 7) hx hb hK hW hS rfl (z_ix rfl (by omega) (by omega)) dX12_note_55 (fun H locs hz1 hW hS => ?_)
          obtain ⟨I15, eI15⟩ : ∃ K : z_I, K = z_up I13 7 (I 0 2).toNatClampNeg a2 := ⟨_, rfl⟩
          rw [← eI15] at hW
          have f16 := z_fr_a f14 (show z_wa L_X12_note 7 = true by decide) eI15
          refine lv_aload_n hx hb dX12_note_56 rfl (lv_at hl 0 rfl) ?_
          refine z_get (T := TX12) (N := 96) (ci := 12) (i := 0) (v := .ref (ad 8)) hx hb hts zj_X12_note_X12 hown hK hW rfl rfl 10 (by decide) (hts (.fieldLink RX12 31 "PetrolBoardModel" "noteFrom" "[I") (me_s (me_l (List.mem_of_getElem? (i := 3) rfl)))) (fun _ h => h) rfl dX12_note_57 ?_
          refine lv_aload_n hx hb dX12_note_60 rfl (lv_at hl 0 rfl) ?_
          refine z_get (T := TX12) (N := 96) (ci := 12) (i := 0) (v := .int (I 0 2)) hx hb hts zj_X12_note_X12 hown hK hW rfl rfl 2 (by decide) (hts (.fieldLink RX12 246 "PetrolBoardModel" "notes" "I") (me_s (me_l (List.mem_of_getElem? (i := 0) rfl)))) (fun _ h => h) (congrArg Value.int (by rw [eI15, z_up_n (by decide), eI13, z_up_n (by decide)])) dX12_note_61 ?_
          refine lv_iload_n hx hb dX12_note_64 rfl (lv_at hl 3 rfl) ?_
          refine z_iast (i := 8) hx hb hK hW hS rfl (z_ix rfl (by omega) (by omega)) dX12_note_65 (fun H locs hz1 hW hS => ?_)
          obtain ⟨I17, eI17⟩ : ∃ K : z_I, K = z_up I15 8 (I 0 2).toNatClampNeg a3 := ⟨_, rfl⟩
          rw [← eI17] at hW
          have f18 := z_fr_a f16 (show z_wa L_X12_note 8 = true by decide) eI17
          refine lv_aload_n hx hb dX12_note_66 rfl (lv_at hl 0 rfl) ?_
          refine z_get (T := TX12) (N := 96) (ci := 12) (i := 0) (v := .ref (ad 9)) hx hb hts zj_X12_note_X12 hown hK hW rfl rfl 11 (by decide) (hts (.fieldLink RX12 34 "PetrolBoardModel" "noteTold" "[I") (me_s (me_l (List.mem_of_getElem? (i := 4) rfl)))) (fun _ h => h) rfl dX12_note_67 ?_
          refine lv_aload_n hx hb dX12_note_70 rfl (lv_at hl 0 rfl) ?_
          refine z_get (T := TX12) (N := 96) (ci := 12) (i := 0) (v := .int (I 0 2)) hx hb hts zj_X12_note_X12 hown hK hW rfl rfl 2 (by decide) (hts (.fieldLink RX12 246 "PetrolBoardModel" "notes" "I") (me_s (me_l (List.mem_of_getElem? (i := 0) rfl)))) (fun _ h => h) (congrArg Value.int (by rw [eI17, z_up_n (by decide), eI15, z_up_n (by decide), eI13, z_up_n (by decide)])) dX12_note_71 ?_
          refine lv_aload_n hx hb dX12_note_74 rfl (lv_at hl 0 rfl) ?_
          have r19 : 0 ≤ (I 0 0).toInt ∧ (I 0 0).toInt ≤ 719 := hma.1
          refine z_get (T := TX12) (N := 96) (ci := 12) (i := 0) (v := .int (I 0 0)) hx hb hts zj_X12_note_X12 hown hK hW rfl rfl 0 (by decide) (hts (.fieldLink RX12 232 "PetrolBoardModel" "today" "I") (me_s (me_l (List.mem_of_getElem? (i := 5) rfl)))) (fun _ h => h) (congrArg Value.int (by rw [eI17, z_up_n (by decide), eI15, z_up_n (by decide), eI13, z_up_n (by decide)])) dX12_note_75 ?_
          refine z_iast (i := 9) hx hb hK hW hS rfl (z_ix rfl (by omega) (by omega)) dX12_note_78 (fun H locs hz1 hW hS => ?_)
          obtain ⟨I20, eI20⟩ : ∃ K : z_I, K = z_up I17 9 (I 0 2).toNatClampNeg (I 0 0) := ⟨_, rfl⟩
          rw [← eI20] at hW
          have f21 := z_fr_a f18 (show z_wa L_X12_note 9 = true by decide) eI20
          refine lv_aload_n hx hb dX12_note_79 rfl (lv_at hl 0 rfl) ?_
          refine z_get (T := TX12) (N := 96) (ci := 12) (i := 0) (v := .ref (ad 10)) hx hb hts zj_X12_note_X12 hown hK hW rfl rfl 12 (by decide) (hts (.fieldLink RX12 37 "PetrolBoardModel" "noteGone" "[I") (me_s (me_l (List.mem_of_getElem? (i := 6) rfl)))) (fun _ h => h) rfl dX12_note_80 ?_
          refine lv_aload_n hx hb dX12_note_83 rfl (lv_at hl 0 rfl) ?_
          refine z_get (T := TX12) (N := 96) (ci := 12) (i := 0) (v := .int (I 0 2)) hx hb hts zj_X12_note_X12 hown hK hW rfl rfl 2 (by decide) (hts (.fieldLink RX12 246 "PetrolBoardModel" "notes" "I") (me_s (me_l (List.mem_of_getElem? (i := 0) rfl)))) (fun _ h => h) (congrArg Value.int (by rw [eI20, z_up_n (by decide), eI17, z_up_n (by decide), eI15, z_up_n (by decide), eI13, z_up_n (by decide)])) dX12_note_84 ?_
          refine lv_iconst (v := (-1)) hx hb dX12_note_87 (by decide) ?_
          refine z_iast (i := 10) hx hb hK hW hS rfl (z_ix rfl (by omega) (by omega)) dX12_note_88 (fun H locs hz1 hW hS => ?_)
          obtain ⟨I22, eI22⟩ : ∃ K : z_I, K = z_up I20 10 (I 0 2).toNatClampNeg (-1) := ⟨_, rfl⟩
          rw [← eI22] at hW
          have f23 := z_fr_a f21 (show z_wa L_X12_note 10 = true by decide) eI22
          refine lv_aload_n hx hb dX12_note_89 rfl (lv_at hl 0 rfl) ?_
          refine lv_dup hx hb dX12_note_90 rfl ?_
          refine z_get (T := TX12) (N := 96) (ci := 12) (i := 0) (v := .int (I 0 2)) hx hb hts zj_X12_note_X12 hown hK hW rfl rfl 2 (by decide) (hts (.fieldLink RX12 246 "PetrolBoardModel" "notes" "I") (me_s (me_l (List.mem_of_getElem? (i := 0) rfl)))) (fun _ h => h) (congrArg Value.int (by rw [eI22, z_up_n (by decide), eI20, z_up_n (by decide), eI17, z_up_n (by decide), eI15, z_up_n (by decide), eI13, z_up_n (by decide)])) dX12_note_91 ?_
          refine lv_iconst (v := 1) hx hb dX12_note_94 (by decide) ?_
          refine lv_iadd hx hb dX12_note_95 ?_
          refine lv_topi (fun x24 ex24 => ?_)
          have tx24 : x24.toInt = (I 0 2).toInt + 1 := z_tadd ex24 rfl z_l1 (by omega) (by omega)
          refine z_put (T := TX12) (N := 96) (ci := 12) (i := 0) (v := .int x24) (I1 := z_up I22 0 2 x24) (J1 := J) (P1 := PM ad) hx hb hts zj_X12_note_X12 tyX12 tyX12_ok nmX12 hown hK hW hS rfl rfl 2 (by decide) (hts (.fieldLink RX12 246 "PetrolBoardModel" "notes" "I") (me_s (me_l (List.mem_of_getElem? (i := 0) rfl)))) (fun _ h => h) rfl rfl rfl (by first | rfl | exact congrArg _ z_up_s) (fun a b h ty => z_vI h ty) dX12_note_96 (fun H locs hz1 hW hS => ?_)
          obtain ⟨I25, eI25⟩ : ∃ K : z_I, K = z_up I22 0 2 x24 := ⟨_, rfl⟩
          rw [← eI25] at hW
          have f26 := z_fr_k f23 (show z_wr L_X12_note 0 2 = true by decide) eI25
          refine lv_aload_n hx hb dX12_note_99 rfl (lv_at hl 0 rfl) ?_
          refine z_get (T := TX12) (N := 96) (ci := 12) (i := 0) (v := .int x24) hx hb hts zj_X12_note_X12 hown hK hW rfl rfl 2 (by decide) (hts (.fieldLink RX12 246 "PetrolBoardModel" "notes" "I") (me_s (me_l (List.mem_of_getElem? (i := 0) rfl)))) (fun _ h => h) (congrArg Value.int (by rw [eI25, z_up_s])) dX12_note_100 ?_
          refine lv_iconst (v := 1) hx hb dX12_note_103 (by decide) ?_
          refine lv_isub hx hb dX12_note_104 ?_
          refine lv_topi (fun x27 ex27 => ?_)
          have tx27 : x27.toInt = x24.toInt - 1 := z_tsub ex27 rfl z_l1 (by omega) (by omega)
          exact z_iret hx hb hr hK hS (Nat.le_of_ble_eq_true rfl) (Nat.le_of_ble_eq_true rfl) hlocks dX12_note_105 (shM, ad, I25, J, PM ad) hW ⟨I25, J, rfl, ⟨(by show 0 ≤ (I25 0 0).toInt ∧ (I25 0 0).toInt ≤ 719; rw [eI25, z_up_k (by decide), eI22, z_up_n (by decide), eI20, z_up_n (by decide), eI17, z_up_n (by decide), eI15, z_up_n (by decide), eI13, z_up_n (by decide)]; exact hma.1), (by show 0 ≤ (I25 0 1).toInt ∧ (I25 0 1).toInt ≤ 30; rw [eI25, z_up_k (by decide), eI22, z_up_n (by decide), eI20, z_up_n (by decide), eI17, z_up_n (by decide), eI15, z_up_n (by decide), eI13, z_up_n (by decide)]; exact hma.2.1), (by show 0 ≤ (I25 0 2).toInt ∧ (I25 0 2).toInt ≤ 200; rw [eI25, z_up_s]; omega)⟩, f26⟩
        · have g28 := z_f_eq rfl z_l200 c11
          refine lv_iconst (v := (-1)) hx hb dX12_note_34 (by decide) ?_
          exact z_iret hx hb hr hK hS (Nat.le_of_ble_eq_true rfl) (Nat.le_of_ble_eq_true rfl) hlocks dX12_note_35 (shM, ad, I, J, PM ad) hW ⟨I, J, rfl, ⟨(by show 0 ≤ (I 0 0).toInt ∧ (I 0 0).toInt ≤ 719; exact hma.1), (by show 0 ≤ (I 0 1).toInt ∧ (I 0 1).toInt ≤ 30; exact hma.2.1), (by show 0 ≤ (I 0 2).toInt ∧ (I 0 2).toInt ≤ 200; exact hma.2.2)⟩, z_fr_0⟩
      · refine lv_if_eq (tgt := 34) hx hb dX12_note_21 (by decide) (fun c29 => ?_) (fun c29 => absurd (by decide) c29)
        refine lv_iconst (v := (-1)) hx hb dX12_note_34 (by decide) ?_
        exact z_iret hx hb hr hK hS (Nat.le_of_ble_eq_true rfl) (Nat.le_of_ble_eq_true rfl) hlocks dX12_note_35 (shM, ad, I, J, PM ad) hW ⟨I, J, rfl, ⟨(by show 0 ≤ (I 0 0).toInt ∧ (I 0 0).toInt ≤ 719; exact hma.1), (by show 0 ≤ (I 0 1).toInt ∧ (I 0 1).toInt ≤ 30; exact hma.2.1), (by show 0 ≤ (I 0 2).toInt ∧ (I 0 2).toInt ≤ 200; exact hma.2.2)⟩, z_fr_0⟩
    · refine lv_if_eq (tgt := 34) hx hb dX12_note_14 (by decide) (fun c30 => ?_) (fun c30 => absurd (by decide) c30)
      refine lv_iconst (v := (-1)) hx hb dX12_note_34 (by decide) ?_
      exact z_iret hx hb hr hK hS (Nat.le_of_ble_eq_true rfl) (Nat.le_of_ble_eq_true rfl) hlocks dX12_note_35 (shM, ad, I, J, PM ad) hW ⟨I, J, rfl, ⟨(by show 0 ≤ (I 0 0).toInt ∧ (I 0 0).toInt ≤ 719; exact hma.1), (by show 0 ≤ (I 0 1).toInt ∧ (I 0 1).toInt ≤ 30; exact hma.2.1), (by show 0 ≤ (I 0 2).toInt ∧ (I 0 2).toInt ≤ 200; exact hma.2.2)⟩, z_fr_0⟩
  · refine lv_if_eq (tgt := 34) hx hb dX12_note_5 (by decide) (fun c31 => ?_) (fun c31 => absurd (by decide) c31)
    refine lv_iconst (v := (-1)) hx hb dX12_note_34 (by decide) ?_
    exact z_iret hx hb hr hK hS (Nat.le_of_ble_eq_true rfl) (Nat.le_of_ble_eq_true rfl) hlocks dX12_note_35 (shM, ad, I, J, PM ad) hW ⟨I, J, rfl, ⟨(by show 0 ≤ (I 0 0).toInt ∧ (I 0 0).toInt ≤ 719; exact hma.1), (by show 0 ≤ (I 0 1).toInt ∧ (I 0 1).toInt ≤ 30; exact hma.2.1), (by show 0 ≤ (I 0 2).toInt ∧ (I 0 2).toInt ≤ 200; exact hma.2.2)⟩, z_fr_0⟩
noncomputable def L_X12_undo : z_L := [(10, 999)]
theorem zj_X12_undo_X12 : ∀ w ∈ wsX120, w ∈ wsX12_undo := fun w h => (List.mem_cons_of_mem _ (List.mem_append_right _ h))
set_option maxHeartbeats 8000000 in
set_option maxRecDepth 100000 in
theorem sx_X12_undo (l : Launch) (G : z_G) (ad : Nat → Nat) (I : z_I) (J : z_J) (hma : z_ima I) (a1 : Int32) : z_M l yX12_undo wsX12_undo { frames := 1, cells := 0, slots := 0, locals := 12 } [.ref (ad 0), .int a1] G (shM, ad, I, J, PM ad) (fun r u1 => ∃ (I1 : z_I) (J1 : z_J), u1 = (shM, ad, I1, J1, PM ad) ∧ z_ima I1 ∧ z_fr L_X12_undo I1 I ∧ (r = 1 ∨ r = 0)) 0 0 := by
  intro sz
  refine z_headQ (cc := cX12_undo) (maxL := 2) (ret := (some .boolean)) (by decide) rfl (Nat.le_of_ble_eq_true rfl) ?_
  intro p e s m below meth c0 ls hIn hK hsz hW hl
  obtain ⟨hx, hb, hr, hml, hown, hts, hlocks, hname⟩ := hIn
  subst hsz
  have hown : s.vm.findClass RX12 = some m.cls := hown
  have hA : ∀ q : Nat, s.heap.size ≤ q → z_A (shM, ad, I, J, PM ad) s.heap.size q := fun q h => Or.inr h
  generalize hAe : z_A (shM, ad, I, J, PM ad) s.heap.size = A at *
  have hS : va_S A s.heap s.heap [] := va_S.rf
  have hl : lv_has ls 2 [(0, .ref (ad 0)), (1, .int a1)] := hl
  refine lv_iload_n hx hb dX12_undo_0 rfl (lv_at hl 1 rfl) ?_
  refine lv_if_lt (tgt := 21) hx hb dX12_undo_1 (by decide) (fun c1 => ?_) (fun c1 => ?_)
  · have g2 := z_f_lt rfl z_l0 c1
    have b3 := Int32.toInt_lt a1
    refine lv_iconst (v := 0) hx hb dX12_undo_21 (by decide) ?_
    exact z_zret hx hb hr (by decide) hK hS (Nat.le_of_ble_eq_true rfl) (Nat.le_of_ble_eq_true rfl) hlocks dX12_undo_22 (shM, ad, I, J, PM ad) hW ⟨I, J, rfl, ⟨(by show 0 ≤ (I 0 0).toInt ∧ (I 0 0).toInt ≤ 719; exact hma.1), (by show 0 ≤ (I 0 1).toInt ∧ (I 0 1).toInt ≤ 30; exact hma.2.1), (by show 0 ≤ (I 0 2).toInt ∧ (I 0 2).toInt ≤ 200; exact hma.2.2)⟩, z_fr_0, Or.inr rfl⟩
  · have g4 := z_f_nlt rfl z_l0 c1
    have b5 := Int32.toInt_lt a1
    refine lv_iload_n hx hb dX12_undo_4 rfl (lv_at hl 1 rfl) ?_
    refine lv_aload_n hx hb dX12_undo_5 rfl (lv_at hl 0 rfl) ?_
    have r6 : 0 ≤ (I 0 2).toInt ∧ (I 0 2).toInt ≤ 200 := hma.2.2
    refine z_get (T := TX12) (N := 96) (ci := 12) (i := 0) (v := .int (I 0 2)) hx hb hts zj_X12_undo_X12 hown hK hW rfl rfl 2 (by decide) (hts (.fieldLink RX12 246 "PetrolBoardModel" "notes" "I") (me_s (me_l (List.mem_of_getElem? (i := 0) rfl)))) (fun _ h => h) rfl dX12_undo_6 ?_
    refine lv_icmp_ge (tgt := 21) hx hb dX12_undo_9 (by decide) (fun c7 => ?_) (fun c7 => ?_)
    · have g8 := z_f_ge rfl rfl c7
      refine lv_iconst (v := 0) hx hb dX12_undo_21 (by decide) ?_
      exact z_zret hx hb hr (by decide) hK hS (Nat.le_of_ble_eq_true rfl) (Nat.le_of_ble_eq_true rfl) hlocks dX12_undo_22 (shM, ad, I, J, PM ad) hW ⟨I, J, rfl, ⟨(by show 0 ≤ (I 0 0).toInt ∧ (I 0 0).toInt ≤ 719; exact hma.1), (by show 0 ≤ (I 0 1).toInt ∧ (I 0 1).toInt ≤ 30; exact hma.2.1), (by show 0 ≤ (I 0 2).toInt ∧ (I 0 2).toInt ≤ 200; exact hma.2.2)⟩, z_fr_0, Or.inr rfl⟩
    · have g9 := z_f_nge rfl rfl c7
      refine lv_aload_n hx hb dX12_undo_12 rfl (lv_at hl 0 rfl) ?_
      refine z_get (T := TX12) (N := 96) (ci := 12) (i := 0) (v := .ref (ad 10)) hx hb hts zj_X12_undo_X12 hown hK hW rfl rfl 12 (by decide) (hts (.fieldLink RX12 37 "PetrolBoardModel" "noteGone" "[I") (me_s (me_l (List.mem_of_getElem? (i := 1) rfl)))) (fun _ h => h) rfl dX12_undo_13 ?_
      refine lv_iload_n hx hb dX12_undo_16 rfl (lv_at hl 1 rfl) ?_
      refine z_iald (i := 10) hx hb hK hW rfl (z_ix rfl (by omega) (by omega)) dX12_undo_17 ?_
      refine lv_topi (fun x10 ex10 => ?_)
      refine lv_if_lt (tgt := 23) hx hb dX12_undo_18 (by decide) (fun c11 => ?_) (fun c11 => ?_)
      · have g12 := z_f_lt rfl z_l0 c11
        have b13 := Int32.toInt_lt x10
        refine lv_aload_n hx hb dX12_undo_23 rfl (lv_at hl 0 rfl) ?_
        refine z_get (T := TX12) (N := 96) (ci := 12) (i := 0) (v := .ref (ad 10)) hx hb hts zj_X12_undo_X12 hown hK hW rfl rfl 12 (by decide) (hts (.fieldLink RX12 37 "PetrolBoardModel" "noteGone" "[I") (me_s (me_l (List.mem_of_getElem? (i := 1) rfl)))) (fun _ h => h) rfl dX12_undo_24 ?_
        refine lv_iload_n hx hb dX12_undo_27 rfl (lv_at hl 1 rfl) ?_
        refine lv_aload_n hx hb dX12_undo_28 rfl (lv_at hl 0 rfl) ?_
        have r14 : 0 ≤ (I 0 0).toInt ∧ (I 0 0).toInt ≤ 719 := hma.1
        refine z_get (T := TX12) (N := 96) (ci := 12) (i := 0) (v := .int (I 0 0)) hx hb hts zj_X12_undo_X12 hown hK hW rfl rfl 0 (by decide) (hts (.fieldLink RX12 232 "PetrolBoardModel" "today" "I") (me_s (me_l (List.mem_of_getElem? (i := 2) rfl)))) (fun _ h => h) rfl dX12_undo_29 ?_
        refine z_iast (i := 10) hx hb hK hW hS rfl (z_ix rfl (by omega) (by omega)) dX12_undo_32 (fun H locs hz1 hW hS => ?_)
        obtain ⟨I15, eI15⟩ : ∃ K : z_I, K = z_up I 10 a1.toNatClampNeg (I 0 0) := ⟨_, rfl⟩
        rw [← eI15] at hW
        have f16 := z_fr_a z_fr_0 (show z_wa L_X12_undo 10 = true by decide) eI15
        refine lv_iconst (v := 1) hx hb dX12_undo_33 (by decide) ?_
        exact z_zret hx hb hr (by decide) hK hS (Nat.le_of_ble_eq_true rfl) (Nat.le_of_ble_eq_true rfl) hlocks dX12_undo_34 (shM, ad, I15, J, PM ad) hW ⟨I15, J, rfl, ⟨(by show 0 ≤ (I15 0 0).toInt ∧ (I15 0 0).toInt ≤ 719; rw [eI15, z_up_n (by decide)]; exact hma.1), (by show 0 ≤ (I15 0 1).toInt ∧ (I15 0 1).toInt ≤ 30; rw [eI15, z_up_n (by decide)]; exact hma.2.1), (by show 0 ≤ (I15 0 2).toInt ∧ (I15 0 2).toInt ≤ 200; rw [eI15, z_up_n (by decide)]; exact hma.2.2)⟩, f16, Or.inl rfl⟩
      · have g17 := z_f_nlt rfl z_l0 c11
        have b18 := Int32.toInt_lt x10
        refine lv_iconst (v := 0) hx hb dX12_undo_21 (by decide) ?_
        exact z_zret hx hb hr (by decide) hK hS (Nat.le_of_ble_eq_true rfl) (Nat.le_of_ble_eq_true rfl) hlocks dX12_undo_22 (shM, ad, I, J, PM ad) hW ⟨I, J, rfl, ⟨(by show 0 ≤ (I 0 0).toInt ∧ (I 0 0).toInt ≤ 719; exact hma.1), (by show 0 ≤ (I 0 1).toInt ∧ (I 0 1).toInt ≤ 30; exact hma.2.1), (by show 0 ≤ (I 0 2).toInt ∧ (I 0 2).toInt ≤ 200; exact hma.2.2)⟩, z_fr_0, Or.inr rfl⟩
theorem zj_X12_kindOn_X12 : ∀ w ∈ wsX120, w ∈ wsX12_kindOn := fun w h => (List.mem_cons_of_mem _ (List.mem_append_right _ h))
set_option maxHeartbeats 8000000 in
set_option maxRecDepth 100000 in
theorem sx_X12_kindOn (l : Launch) (G : z_G) (ad : Nat → Nat) (I : z_I) (J : z_J) (hma : z_ima I) (a1 : Int32) (a2 : Int32) (a3 : Int32) : z_M l yX12_kindOn wsX12_kindOn { frames := 1, cells := 0, slots := 0, locals := 12 } [.ref (ad 0), .int a1, .int a2, .int a3] G (shM, ad, I, J, PM ad) (fun r u1 => u1 = (shM, ad, I, J, PM ad)) 0 0 := by
  intro sz
  refine z_headQ (cc := cX12_kindOn) (maxL := 6) (ret := (some .int)) (by decide) rfl (Nat.le_of_ble_eq_true rfl) ?_
  intro p e s m below meth c0 ls hIn hK hsz hW hl
  obtain ⟨hx, hb, hr, hml, hown, hts, hlocks, hname⟩ := hIn
  subst hsz
  have hown : s.vm.findClass RX12 = some m.cls := hown
  have hA : ∀ q : Nat, s.heap.size ≤ q → z_A (shM, ad, I, J, PM ad) s.heap.size q := fun q h => Or.inr h
  generalize hAe : z_A (shM, ad, I, J, PM ad) s.heap.size = A at *
  have hS : va_S A s.heap s.heap [] := va_S.rf
  have hl : lv_has ls 6 [(0, .ref (ad 0)), (1, .int a1), (2, .int a2), (3, .int a3)] := hl
  refine lv_iconst (v := (-1)) hx hb dX12_kindOn_0 (by decide) ?_
  refine lv_istore (lv' := [(4, .int (-1)), (0, .ref (ad 0)), (1, .int a1), (2, .int a2), (3, .int a3)]) hx hb dX12_kindOn_1 hl (by decide) rfl (fun ls hl => ?_)
  refine lv_iconst (v := 0) hx hb dX12_kindOn_3 (by decide) ?_
  refine lv_istore (lv' := [(5, .int 0), (4, .int (-1)), (0, .ref (ad 0)), (1, .int a1), (2, .int a2), (3, .int a3)]) hx hb dX12_kindOn_4 hl (by decide) rfl (fun ls hl => ?_)
  have lp1 : ∀ (f : Nat) (y2 : Int32) (y3 : Int32) (H : Heap) (locs : List Loc) (ls : Array Slot), (2147483647 < y2.toInt + (f : Int)) → (0 ≤ y2.toInt) → ((-1) ≤ y3.toInt) → (y3.toInt ≤ 199) → z_W G A (shM, ad, I, J, PM ad) H → va_S A s.heap H locs → lv_has ls 6 [(5, .int y2), (4, .int y3), (0, .ref (ad 0)), (1, .int a1), (2, .int a2), (3, .int a3)] → W p l e (headSpec wsX12_kindOn { frames := 1, cells := 0, slots := 0, locals := 12 }).room s m ([.ref (ad 0), .int a1, .int a2, .int a3] : List Value).toArray below meth c0 H locs 0 0 (MQ below (va_Qi (fun (r : Int32) (u1 : z_U) => u1 = (shM, ad, I, J, PM ad)) (z_B G A) A) ([.ref (ad 0), .int a1, .int a2, .int a3] : List Value).toArray s 0 0 A) (F0 m 6 ls []) := by
    intro f
    induction f with
    | zero => intro y2 y3 H locs ls lp1m lp1l5 lp1l4 lp1u4 hW hS hl; exact absurd lp1m (by have := Int32.toInt_lt y2; have := Int32.le_toInt y2; omega)
    | succ f lp1ih =>
      intro y2 y3 H locs ls lp1m lp1l5 lp1l4 lp1u4 hW hS hl
      refine lv_iload hx hb dX12_kindOn_6 (lv_at hl 0 rfl) ?_
      refine lv_aload_n hx hb dX12_kindOn_8 rfl (lv_at hl 2 rfl) ?_
      have r4 : 0 ≤ (I 0 2).toInt ∧ (I 0 2).toInt ≤ 200 := hma.2.2
      refine z_get (T := TX12) (N := 96) (ci := 12) (i := 0) (v := .int (I 0 2)) hx hb hts zj_X12_kindOn_X12 hown hK hW rfl rfl 2 (by decide) (hts (.fieldLink RX12 246 "PetrolBoardModel" "notes" "I") (me_s (me_l (List.mem_of_getElem? (i := 0) rfl)))) (fun _ h => h) rfl dX12_kindOn_9 ?_
      refine lv_icmp_ge (tgt := 104) hx hb dX12_kindOn_12 (by decide) (fun c5 => ?_) (fun c5 => ?_)
      · have g6 := z_f_ge rfl rfl c5
        have b7 := Int32.toInt_lt y2
        refine lv_iload hx hb dX12_kindOn_104 (lv_at hl 1 rfl) ?_
        refine lv_if_ge (tgt := 113) hx hb dX12_kindOn_106 (by decide) (fun c8 => ?_) (fun c8 => ?_)
        · have g9 := z_f_ge rfl z_l0 c8
          refine lv_aload_n hx hb dX12_kindOn_113 rfl (lv_at hl 2 rfl) ?_
          refine z_get (T := TX12) (N := 96) (ci := 12) (i := 0) (v := .ref (ad 7)) hx hb hts zj_X12_kindOn_X12 hown hK hW rfl rfl 9 (by decide) (hts (.fieldLink RX12 28 "PetrolBoardModel" "noteClass" "[I") (me_s (me_l (List.mem_of_getElem? (i := 5) rfl)))) (fun _ h => h) rfl dX12_kindOn_114 ?_
          refine lv_iload hx hb dX12_kindOn_117 (lv_at hl 1 rfl) ?_
          refine z_iald (i := 7) hx hb hK hW rfl (z_ix rfl (by omega) (by omega)) dX12_kindOn_119 ?_
          refine lv_topi (fun x10 ex10 => ?_)
          exact z_iret hx hb hr hK hS (Nat.le_of_ble_eq_true rfl) (Nat.le_of_ble_eq_true rfl) hlocks dX12_kindOn_120 (shM, ad, I, J, PM ad) hW rfl
        · have g11 := z_f_nge rfl z_l0 c8
          refine lv_iconst (v := 0) hx hb dX12_kindOn_109 (by decide) ?_
          refine lv_goto (tgt := 120) hx hb dX12_kindOn_110 (by decide) ?_
          exact z_iret hx hb hr hK hS (Nat.le_of_ble_eq_true rfl) (Nat.le_of_ble_eq_true rfl) hlocks dX12_kindOn_120 (shM, ad, I, J, PM ad) hW rfl
      · have g12 := z_f_nge rfl rfl c5
        have b13 := Int32.toInt_lt y2
        refine lv_aload_n hx hb dX12_kindOn_15 rfl (lv_at hl 2 rfl) ?_
        refine z_get (T := TX12) (N := 96) (ci := 12) (i := 0) (v := .ref (ad 6)) hx hb hts zj_X12_kindOn_X12 hown hK hW rfl rfl 8 (by decide) (hts (.fieldLink RX12 25 "PetrolBoardModel" "noteWho" "[I") (me_s (me_l (List.mem_of_getElem? (i := 1) rfl)))) (fun _ h => h) rfl dX12_kindOn_16 ?_
        refine lv_iload hx hb dX12_kindOn_19 (lv_at hl 0 rfl) ?_
        refine z_iald (i := 6) hx hb hK hW rfl (z_ix rfl (by omega) (by omega)) dX12_kindOn_21 ?_
        refine lv_topi (fun x14 ex14 => ?_)
        refine lv_iload_n hx hb dX12_kindOn_22 rfl (lv_at hl 3 rfl) ?_
        refine lv_icmp_ne (tgt := 98) hx hb dX12_kindOn_23 (by decide) (fun c15 => ?_) (fun c15 => ?_)
        · have g16 := z_f_ne rfl rfl c15
          have b17 := Int32.toInt_lt x14
          have b18 := Int32.toInt_lt a1
          obtain ⟨x19, ex19⟩ : ∃ y : Int32, y = y2 + 1 := ⟨_, rfl⟩
          have tx19 : x19.toInt = y2.toInt + 1 := z_tadd ex19 rfl z_l1 (by omega) (by omega)
          refine lv_iinc (v := x19) (lv' := [(5, .int x19), (4, .int y3), (0, .ref (ad 0)), (1, .int a1), (2, .int a2), (3, .int a3)]) hx hb dX12_kindOn_98 hl (k := 0) rfl (by rw [ex19]; rfl) (by decide) rfl (fun ls hl => ?_)
          refine lv_goto (tgt := 6) hx hb dX12_kindOn_101 (by decide) ?_
          exact lp1ih x19 y3 _ _ _ (by omega) (by omega) (by omega) (by omega) hW hS (lv_sub hl [0, 1, 2, 3, 4, 5] rfl)
        · have g20 := z_f_eq rfl rfl c15
          have b21 := Int32.toInt_lt x14
          have b22 := Int32.toInt_lt a1
          refine lv_aload_n hx hb dX12_kindOn_26 rfl (lv_at hl 2 rfl) ?_
          refine z_get (T := TX12) (N := 96) (ci := 12) (i := 0) (v := .ref (ad 8)) hx hb hts zj_X12_kindOn_X12 hown hK hW rfl rfl 10 (by decide) (hts (.fieldLink RX12 31 "PetrolBoardModel" "noteFrom" "[I") (me_s (me_l (List.mem_of_getElem? (i := 2) rfl)))) (fun _ h => h) rfl dX12_kindOn_27 ?_
          refine lv_iload hx hb dX12_kindOn_30 (lv_at hl 0 rfl) ?_
          refine z_iald (i := 8) hx hb hK hW rfl (z_ix rfl (by omega) (by omega)) dX12_kindOn_32 ?_
          refine lv_topi (fun x23 ex23 => ?_)
          refine lv_iload_n hx hb dX12_kindOn_33 rfl (lv_at hl 4 rfl) ?_
          refine lv_icmp_gt (tgt := 98) hx hb dX12_kindOn_34 (by decide) (fun c24 => ?_) (fun c24 => ?_)
          · have g25 := z_f_gt rfl rfl c24
            have b26 := Int32.toInt_lt x23
            have b27 := Int32.toInt_lt a2
            obtain ⟨x28, ex28⟩ : ∃ y : Int32, y = y2 + 1 := ⟨_, rfl⟩
            have tx28 : x28.toInt = y2.toInt + 1 := z_tadd ex28 rfl z_l1 (by omega) (by omega)
            refine lv_iinc (v := x28) (lv' := [(5, .int x28), (4, .int y3), (0, .ref (ad 0)), (1, .int a1), (2, .int a2), (3, .int a3)]) hx hb dX12_kindOn_98 hl (k := 0) rfl (by rw [ex28]; rfl) (by decide) rfl (fun ls hl => ?_)
            refine lv_goto (tgt := 6) hx hb dX12_kindOn_101 (by decide) ?_
            exact lp1ih x28 y3 _ _ _ (by omega) (by omega) (by omega) (by omega) hW hS (lv_sub hl [0, 1, 2, 3, 4, 5] rfl)
          · have g29 := z_f_ngt rfl rfl c24
            have b30 := Int32.toInt_lt x23
            have b31 := Int32.toInt_lt a2
            refine lv_aload_n hx hb dX12_kindOn_37 rfl (lv_at hl 2 rfl) ?_
            refine z_get (T := TX12) (N := 96) (ci := 12) (i := 0) (v := .ref (ad 9)) hx hb hts zj_X12_kindOn_X12 hown hK hW rfl rfl 11 (by decide) (hts (.fieldLink RX12 34 "PetrolBoardModel" "noteTold" "[I") (me_s (me_l (List.mem_of_getElem? (i := 3) rfl)))) (fun _ h => h) rfl dX12_kindOn_38 ?_
            refine lv_iload hx hb dX12_kindOn_41 (lv_at hl 0 rfl) ?_
            refine z_iald (i := 9) hx hb hK hW rfl (z_ix rfl (by omega) (by omega)) dX12_kindOn_43 ?_
            refine lv_topi (fun x32 ex32 => ?_)
            refine lv_iload_n hx hb dX12_kindOn_44 rfl (lv_at hl 5 rfl) ?_
            refine lv_icmp_gt (tgt := 98) hx hb dX12_kindOn_45 (by decide) (fun c33 => ?_) (fun c33 => ?_)
            · have g34 := z_f_gt rfl rfl c33
              have b35 := Int32.toInt_lt x32
              have b36 := Int32.toInt_lt a3
              obtain ⟨x37, ex37⟩ : ∃ y : Int32, y = y2 + 1 := ⟨_, rfl⟩
              have tx37 : x37.toInt = y2.toInt + 1 := z_tadd ex37 rfl z_l1 (by omega) (by omega)
              refine lv_iinc (v := x37) (lv' := [(5, .int x37), (4, .int y3), (0, .ref (ad 0)), (1, .int a1), (2, .int a2), (3, .int a3)]) hx hb dX12_kindOn_98 hl (k := 0) rfl (by rw [ex37]; rfl) (by decide) rfl (fun ls hl => ?_)
              refine lv_goto (tgt := 6) hx hb dX12_kindOn_101 (by decide) ?_
              exact lp1ih x37 y3 _ _ _ (by omega) (by omega) (by omega) (by omega) hW hS (lv_sub hl [0, 1, 2, 3, 4, 5] rfl)
            · have g38 := z_f_ngt rfl rfl c33
              have b39 := Int32.toInt_lt x32
              have b40 := Int32.toInt_lt a3
              refine lv_aload_n hx hb dX12_kindOn_48 rfl (lv_at hl 2 rfl) ?_
              refine z_get (T := TX12) (N := 96) (ci := 12) (i := 0) (v := .ref (ad 10)) hx hb hts zj_X12_kindOn_X12 hown hK hW rfl rfl 12 (by decide) (hts (.fieldLink RX12 37 "PetrolBoardModel" "noteGone" "[I") (me_s (me_l (List.mem_of_getElem? (i := 4) rfl)))) (fun _ h => h) rfl dX12_kindOn_49 ?_
              refine lv_iload hx hb dX12_kindOn_52 (lv_at hl 0 rfl) ?_
              refine z_iald (i := 10) hx hb hK hW rfl (z_ix rfl (by omega) (by omega)) dX12_kindOn_54 ?_
              refine lv_topi (fun x41 ex41 => ?_)
              refine lv_if_lt (tgt := 72) hx hb dX12_kindOn_55 (by decide) (fun c42 => ?_) (fun c42 => ?_)
              · have g43 := z_f_lt rfl z_l0 c42
                have b44 := Int32.toInt_lt x41
                refine lv_iload hx hb dX12_kindOn_72 (lv_at hl 1 rfl) ?_
                refine lv_if_lt (tgt := 94) hx hb dX12_kindOn_74 (by decide) (fun c45 => ?_) (fun c45 => ?_)
                · have g46 := z_f_lt rfl z_l0 c45
                  refine lv_iload hx hb dX12_kindOn_94 (lv_at hl 0 rfl) ?_
                  refine lv_istore (lv' := [(4, .int y2), (5, .int y2), (0, .ref (ad 0)), (1, .int a1), (2, .int a2), (3, .int a3)]) hx hb dX12_kindOn_96 hl (by decide) rfl (fun ls hl => ?_)
                  obtain ⟨x47, ex47⟩ : ∃ y : Int32, y = y2 + 1 := ⟨_, rfl⟩
                  have tx47 : x47.toInt = y2.toInt + 1 := z_tadd ex47 rfl z_l1 (by omega) (by omega)
                  refine lv_iinc (v := x47) (lv' := [(5, .int x47), (4, .int y2), (0, .ref (ad 0)), (1, .int a1), (2, .int a2), (3, .int a3)]) hx hb dX12_kindOn_98 hl (k := 1) rfl (by rw [ex47]; rfl) (by decide) rfl (fun ls hl => ?_)
                  refine lv_goto (tgt := 6) hx hb dX12_kindOn_101 (by decide) ?_
                  exact lp1ih x47 y2 _ _ _ (by omega) (by omega) (by omega) (by omega) hW hS (lv_sub hl [0, 1, 2, 3, 4, 5] rfl)
                · have g48 := z_f_nlt rfl z_l0 c45
                  refine lv_aload_n hx hb dX12_kindOn_77 rfl (lv_at hl 2 rfl) ?_
                  refine z_get (T := TX12) (N := 96) (ci := 12) (i := 0) (v := .ref (ad 8)) hx hb hts zj_X12_kindOn_X12 hown hK hW rfl rfl 10 (by decide) (hts (.fieldLink RX12 31 "PetrolBoardModel" "noteFrom" "[I") (me_s (me_l (List.mem_of_getElem? (i := 2) rfl)))) (fun _ h => h) rfl dX12_kindOn_78 ?_
                  refine lv_iload hx hb dX12_kindOn_81 (lv_at hl 0 rfl) ?_
                  refine z_iald (i := 8) hx hb hK hW rfl (z_ix rfl (by omega) (by omega)) dX12_kindOn_83 ?_
                  refine z_topi (v := x23) ex23.symm ?_
                  refine lv_aload_n hx hb dX12_kindOn_84 rfl (lv_at hl 2 rfl) ?_
                  refine z_get (T := TX12) (N := 96) (ci := 12) (i := 0) (v := .ref (ad 8)) hx hb hts zj_X12_kindOn_X12 hown hK hW rfl rfl 10 (by decide) (hts (.fieldLink RX12 31 "PetrolBoardModel" "noteFrom" "[I") (me_s (me_l (List.mem_of_getElem? (i := 2) rfl)))) (fun _ h => h) rfl dX12_kindOn_85 ?_
                  refine lv_iload hx hb dX12_kindOn_88 (lv_at hl 1 rfl) ?_
                  refine z_iald (i := 8) hx hb hK hW rfl (z_ix rfl (by omega) (by omega)) dX12_kindOn_90 ?_
                  refine lv_topi (fun x49 ex49 => ?_)
                  refine lv_icmp_lt (tgt := 98) hx hb dX12_kindOn_91 (by decide) (fun c50 => ?_) (fun c50 => ?_)
                  · have g51 := z_f_lt rfl rfl c50
                    have b52 := Int32.toInt_lt x49
                    obtain ⟨x53, ex53⟩ : ∃ y : Int32, y = y2 + 1 := ⟨_, rfl⟩
                    have tx53 : x53.toInt = y2.toInt + 1 := z_tadd ex53 rfl z_l1 (by omega) (by omega)
                    refine lv_iinc (v := x53) (lv' := [(5, .int x53), (4, .int y3), (0, .ref (ad 0)), (1, .int a1), (2, .int a2), (3, .int a3)]) hx hb dX12_kindOn_98 hl (k := 0) rfl (by rw [ex53]; rfl) (by decide) rfl (fun ls hl => ?_)
                    refine lv_goto (tgt := 6) hx hb dX12_kindOn_101 (by decide) ?_
                    exact lp1ih x53 y3 _ _ _ (by omega) (by omega) (by omega) (by omega) hW hS (lv_sub hl [0, 1, 2, 3, 4, 5] rfl)
                  · have g54 := z_f_nlt rfl rfl c50
                    have b55 := Int32.toInt_lt x49
                    refine lv_iload hx hb dX12_kindOn_94 (lv_at hl 0 rfl) ?_
                    refine lv_istore (lv' := [(4, .int y2), (5, .int y2), (0, .ref (ad 0)), (1, .int a1), (2, .int a2), (3, .int a3)]) hx hb dX12_kindOn_96 hl (by decide) rfl (fun ls hl => ?_)
                    obtain ⟨x56, ex56⟩ : ∃ y : Int32, y = y2 + 1 := ⟨_, rfl⟩
                    have tx56 : x56.toInt = y2.toInt + 1 := z_tadd ex56 rfl z_l1 (by omega) (by omega)
                    refine lv_iinc (v := x56) (lv' := [(5, .int x56), (4, .int y2), (0, .ref (ad 0)), (1, .int a1), (2, .int a2), (3, .int a3)]) hx hb dX12_kindOn_98 hl (k := 1) rfl (by rw [ex56]; rfl) (by decide) rfl (fun ls hl => ?_)
                    refine lv_goto (tgt := 6) hx hb dX12_kindOn_101 (by decide) ?_
                    exact lp1ih x56 y2 _ _ _ (by omega) (by omega) (by omega) (by omega) hW hS (lv_sub hl [0, 1, 2, 3, 4, 5] rfl)
              · have g57 := z_f_nlt rfl z_l0 c42
                have b58 := Int32.toInt_lt x41
                refine lv_aload_n hx hb dX12_kindOn_58 rfl (lv_at hl 2 rfl) ?_
                refine z_get (T := TX12) (N := 96) (ci := 12) (i := 0) (v := .ref (ad 10)) hx hb hts zj_X12_kindOn_X12 hown hK hW rfl rfl 12 (by decide) (hts (.fieldLink RX12 37 "PetrolBoardModel" "noteGone" "[I") (me_s (me_l (List.mem_of_getElem? (i := 4) rfl)))) (fun _ h => h) rfl dX12_kindOn_59 ?_
                refine lv_iload hx hb dX12_kindOn_62 (lv_at hl 0 rfl) ?_
                refine z_iald (i := 10) hx hb hK hW rfl (z_ix rfl (by omega) (by omega)) dX12_kindOn_64 ?_
                refine z_topi (v := x41) ex41.symm ?_
                refine lv_iload_n hx hb dX12_kindOn_65 rfl (lv_at hl 5 rfl) ?_
                refine lv_icmp_gt (tgt := 72) hx hb dX12_kindOn_66 (by decide) (fun c59 => ?_) (fun c59 => ?_)
                · have g60 := z_f_gt rfl rfl c59
                  refine lv_iload hx hb dX12_kindOn_72 (lv_at hl 1 rfl) ?_
                  refine lv_if_lt (tgt := 94) hx hb dX12_kindOn_74 (by decide) (fun c61 => ?_) (fun c61 => ?_)
                  · have g62 := z_f_lt rfl z_l0 c61
                    refine lv_iload hx hb dX12_kindOn_94 (lv_at hl 0 rfl) ?_
                    refine lv_istore (lv' := [(4, .int y2), (5, .int y2), (0, .ref (ad 0)), (1, .int a1), (2, .int a2), (3, .int a3)]) hx hb dX12_kindOn_96 hl (by decide) rfl (fun ls hl => ?_)
                    obtain ⟨x63, ex63⟩ : ∃ y : Int32, y = y2 + 1 := ⟨_, rfl⟩
                    have tx63 : x63.toInt = y2.toInt + 1 := z_tadd ex63 rfl z_l1 (by omega) (by omega)
                    refine lv_iinc (v := x63) (lv' := [(5, .int x63), (4, .int y2), (0, .ref (ad 0)), (1, .int a1), (2, .int a2), (3, .int a3)]) hx hb dX12_kindOn_98 hl (k := 1) rfl (by rw [ex63]; rfl) (by decide) rfl (fun ls hl => ?_)
                    refine lv_goto (tgt := 6) hx hb dX12_kindOn_101 (by decide) ?_
                    exact lp1ih x63 y2 _ _ _ (by omega) (by omega) (by omega) (by omega) hW hS (lv_sub hl [0, 1, 2, 3, 4, 5] rfl)
                  · have g64 := z_f_nlt rfl z_l0 c61
                    refine lv_aload_n hx hb dX12_kindOn_77 rfl (lv_at hl 2 rfl) ?_
                    refine z_get (T := TX12) (N := 96) (ci := 12) (i := 0) (v := .ref (ad 8)) hx hb hts zj_X12_kindOn_X12 hown hK hW rfl rfl 10 (by decide) (hts (.fieldLink RX12 31 "PetrolBoardModel" "noteFrom" "[I") (me_s (me_l (List.mem_of_getElem? (i := 2) rfl)))) (fun _ h => h) rfl dX12_kindOn_78 ?_
                    refine lv_iload hx hb dX12_kindOn_81 (lv_at hl 0 rfl) ?_
                    refine z_iald (i := 8) hx hb hK hW rfl (z_ix rfl (by omega) (by omega)) dX12_kindOn_83 ?_
                    refine z_topi (v := x23) ex23.symm ?_
                    refine lv_aload_n hx hb dX12_kindOn_84 rfl (lv_at hl 2 rfl) ?_
                    refine z_get (T := TX12) (N := 96) (ci := 12) (i := 0) (v := .ref (ad 8)) hx hb hts zj_X12_kindOn_X12 hown hK hW rfl rfl 10 (by decide) (hts (.fieldLink RX12 31 "PetrolBoardModel" "noteFrom" "[I") (me_s (me_l (List.mem_of_getElem? (i := 2) rfl)))) (fun _ h => h) rfl dX12_kindOn_85 ?_
                    refine lv_iload hx hb dX12_kindOn_88 (lv_at hl 1 rfl) ?_
                    refine z_iald (i := 8) hx hb hK hW rfl (z_ix rfl (by omega) (by omega)) dX12_kindOn_90 ?_
                    refine lv_topi (fun x65 ex65 => ?_)
                    refine lv_icmp_lt (tgt := 98) hx hb dX12_kindOn_91 (by decide) (fun c66 => ?_) (fun c66 => ?_)
                    · have g67 := z_f_lt rfl rfl c66
                      have b68 := Int32.toInt_lt x65
                      obtain ⟨x69, ex69⟩ : ∃ y : Int32, y = y2 + 1 := ⟨_, rfl⟩
                      have tx69 : x69.toInt = y2.toInt + 1 := z_tadd ex69 rfl z_l1 (by omega) (by omega)
                      refine lv_iinc (v := x69) (lv' := [(5, .int x69), (4, .int y3), (0, .ref (ad 0)), (1, .int a1), (2, .int a2), (3, .int a3)]) hx hb dX12_kindOn_98 hl (k := 0) rfl (by rw [ex69]; rfl) (by decide) rfl (fun ls hl => ?_)
                      refine lv_goto (tgt := 6) hx hb dX12_kindOn_101 (by decide) ?_
                      exact lp1ih x69 y3 _ _ _ (by omega) (by omega) (by omega) (by omega) hW hS (lv_sub hl [0, 1, 2, 3, 4, 5] rfl)
                    · have g70 := z_f_nlt rfl rfl c66
                      have b71 := Int32.toInt_lt x65
                      refine lv_iload hx hb dX12_kindOn_94 (lv_at hl 0 rfl) ?_
                      refine lv_istore (lv' := [(4, .int y2), (5, .int y2), (0, .ref (ad 0)), (1, .int a1), (2, .int a2), (3, .int a3)]) hx hb dX12_kindOn_96 hl (by decide) rfl (fun ls hl => ?_)
                      obtain ⟨x72, ex72⟩ : ∃ y : Int32, y = y2 + 1 := ⟨_, rfl⟩
                      have tx72 : x72.toInt = y2.toInt + 1 := z_tadd ex72 rfl z_l1 (by omega) (by omega)
                      refine lv_iinc (v := x72) (lv' := [(5, .int x72), (4, .int y2), (0, .ref (ad 0)), (1, .int a1), (2, .int a2), (3, .int a3)]) hx hb dX12_kindOn_98 hl (k := 1) rfl (by rw [ex72]; rfl) (by decide) rfl (fun ls hl => ?_)
                      refine lv_goto (tgt := 6) hx hb dX12_kindOn_101 (by decide) ?_
                      exact lp1ih x72 y2 _ _ _ (by omega) (by omega) (by omega) (by omega) hW hS (lv_sub hl [0, 1, 2, 3, 4, 5] rfl)
                · have g73 := z_f_ngt rfl rfl c59
                  refine lv_goto (tgt := 98) hx hb dX12_kindOn_69 (by decide) ?_
                  obtain ⟨x74, ex74⟩ : ∃ y : Int32, y = y2 + 1 := ⟨_, rfl⟩
                  have tx74 : x74.toInt = y2.toInt + 1 := z_tadd ex74 rfl z_l1 (by omega) (by omega)
                  refine lv_iinc (v := x74) (lv' := [(5, .int x74), (4, .int y3), (0, .ref (ad 0)), (1, .int a1), (2, .int a2), (3, .int a3)]) hx hb dX12_kindOn_98 hl (k := 0) rfl (by rw [ex74]; rfl) (by decide) rfl (fun ls hl => ?_)
                  refine lv_goto (tgt := 6) hx hb dX12_kindOn_101 (by decide) ?_
                  exact lp1ih x74 y3 _ _ _ (by omega) (by omega) (by omega) (by omega) hW hS (lv_sub hl [0, 1, 2, 3, 4, 5] rfl)
  exact lp1 4294967296 (0) ((-1)) _ _ _ (z_m0u _) (by rw [z_l0]; omega) (by rw [z_lm1]; omega) (by rw [z_lm1]; omega) hW hS (lv_sub hl [0, 1, 2, 3, 4, 5] rfl)
set_option maxHeartbeats 8000000 in
set_option maxRecDepth 100000 in
theorem sx_X12_classOf (l : Launch) (G : z_G) (ad : Nat → Nat) (I : z_I) (J : z_J) (hma : z_ima I) (a1 : Int32) (a2 : Int32) (a3 : Int32) : z_M l yX12_classOf wsX12_classOf { frames := 2, cells := 0, slots := 0, locals := 37 } [.ref (ad 0), .int a1, .int a2, .int a3] G (shM, ad, I, J, PM ad) (fun r u1 => u1 = (shM, ad, I, J, PM ad)) 0 0 := by
  intro sz
  refine z_headQ (cc := cX12_classOf) (maxL := 4) (ret := (some .int)) (by decide) rfl (Nat.le_of_ble_eq_true rfl) ?_
  intro p e s m below meth c0 ls hIn hK hsz hW hl
  obtain ⟨hx, hb, hr, hml, hown, hts, hlocks, hname⟩ := hIn
  subst hsz
  have hown : s.vm.findClass RX12 = some m.cls := hown
  have hA : ∀ q : Nat, s.heap.size ≤ q → z_A (shM, ad, I, J, PM ad) s.heap.size q := fun q h => Or.inr h
  generalize hAe : z_A (shM, ad, I, J, PM ad) s.heap.size = A at *
  have hS : va_S A s.heap s.heap [] := va_S.rf
  have hl : lv_has ls 4 [(0, .ref (ad 0)), (1, .int a1), (2, .int a2), (3, .int a3)] := hl
  refine lv_aload_n hx hb dX12_classOf_0 rfl (lv_at hl 0 rfl) ?_
  refine lv_iload_n hx hb dX12_classOf_1 rfl (lv_at hl 1 rfl) ?_
  refine z_ci hW hS hA (va_runV (As := [.int a1]) (rest := []) ⟨hx, hb, hml, hown, hts⟩ (sx_X12_isHolder l G ad I J ⟨(by show 0 ≤ (I 0 0).toInt ∧ (I 0 0).toInt ≤ 719; exact hma.1), (by show 0 ≤ (I 0 1).toInt ∧ (I 0 1).toInt ≤ 30; exact hma.2.1), (by show 0 ≤ (I 0 2).toInt ∧ (I 0 2).toInt ≤ 200; exact hma.2.2)⟩ a1 _) (cwV 1 hts gX12_classOf_X12_isHolder rfl rfl rfl hy_X12_isHolder ⟨Nat.le_of_ble_eq_true rfl, Nat.le_of_ble_eq_true rfl⟩) (z_preV (i := 0) hK hW rfl rfl) rfl rfl hl.1 rfl (lv_room (Nat.le_of_ble_eq_true rfl)) dX12_classOf_2 ⟨Nat.le_of_ble_eq_true rfl, Nat.le_of_ble_eq_true rfl⟩) (fun r u1 H locs hp hW hS => ?_)
  obtain ⟨e9, hp⟩ := hp
  rw [e9] at hW
  rcases hp with ⟨rfl, h1, h2⟩ | rfl
  · refine lv_if_eq (tgt := 32) hx hb dX12_classOf_5 (by decide) (fun c3 => absurd c3 (by decide)) (fun c3 => ?_)
    refine lv_iload_n hx hb dX12_classOf_8 rfl (lv_at hl 2 rfl) ?_
    refine z_ci hW hS hA (va_runS (As := [.int a2]) (rest := []) ⟨hx, hb, hml, hown, hts⟩ (sx_X12_isDay l G ad I J  a2 _) (va_cwS 1 hts gX12_classOf_X12_isDay rfl rfl rfl hy_X12_isDay.2 ⟨Nat.le_of_ble_eq_true rfl, Nat.le_of_ble_eq_true rfl⟩) (z_preS hK hW) rfl rfl hl.1 rfl (lv_room (Nat.le_of_ble_eq_true rfl)) dX12_classOf_9 ⟨Nat.le_of_ble_eq_true rfl, Nat.le_of_ble_eq_true rfl⟩) (fun r u1 H locs hp hW hS => ?_)
    obtain ⟨e9, hp⟩ := hp
    rw [e9] at hW
    rcases hp with ⟨rfl, h4, h5⟩ | rfl
    · refine lv_if_eq (tgt := 32) hx hb dX12_classOf_12 (by decide) (fun c6 => absurd c6 (by decide)) (fun c6 => ?_)
      refine lv_iload_n hx hb dX12_classOf_15 rfl (lv_at hl 3 rfl) ?_
      refine z_ci hW hS hA (va_runS (As := [.int a3]) (rest := []) ⟨hx, hb, hml, hown, hts⟩ (sx_X12_isDay l G ad I J  a3 _) (va_cwS 1 hts gX12_classOf_X12_isDay rfl rfl rfl hy_X12_isDay.2 ⟨Nat.le_of_ble_eq_true rfl, Nat.le_of_ble_eq_true rfl⟩) (z_preS hK hW) rfl rfl hl.1 rfl (lv_room (Nat.le_of_ble_eq_true rfl)) dX12_classOf_16 ⟨Nat.le_of_ble_eq_true rfl, Nat.le_of_ble_eq_true rfl⟩) (fun r u1 H locs hp hW hS => ?_)
      obtain ⟨e9, hp⟩ := hp
      rw [e9] at hW
      rcases hp with ⟨rfl, h7, h8⟩ | rfl
      · refine lv_if_eq (tgt := 32) hx hb dX12_classOf_19 (by decide) (fun c9 => absurd c9 (by decide)) (fun c9 => ?_)
        refine lv_aload_n hx hb dX12_classOf_22 rfl (lv_at hl 0 rfl) ?_
        refine lv_iload_n hx hb dX12_classOf_23 rfl (lv_at hl 1 rfl) ?_
        refine lv_iload_n hx hb dX12_classOf_24 rfl (lv_at hl 2 rfl) ?_
        refine lv_iload_n hx hb dX12_classOf_25 rfl (lv_at hl 3 rfl) ?_
        refine z_ci hW hS hA (va_runV (As := [.int a1, .int a2, .int a3]) (rest := []) ⟨hx, hb, hml, hown, hts⟩ (sx_X12_kindOn l G ad I J ⟨(by show 0 ≤ (I 0 0).toInt ∧ (I 0 0).toInt ≤ 719; exact hma.1), (by show 0 ≤ (I 0 1).toInt ∧ (I 0 1).toInt ≤ 30; exact hma.2.1), (by show 0 ≤ (I 0 2).toInt ∧ (I 0 2).toInt ≤ 200; exact hma.2.2)⟩ a1 a2 a3 _) (cwV 3 hts gX12_classOf_X12_kindOn rfl rfl rfl hy_X12_kindOn ⟨Nat.le_of_ble_eq_true rfl, Nat.le_of_ble_eq_true rfl⟩) (z_preV (i := 0) hK hW rfl rfl) rfl rfl hl.1 rfl (lv_room (Nat.le_of_ble_eq_true rfl)) dX12_classOf_26 ⟨Nat.le_of_ble_eq_true rfl, Nat.le_of_ble_eq_true rfl⟩) (fun r u1 H locs hp hW hS => ?_)
        rw [hp] at hW
        refine lv_topi (fun x10 ex10 => ?_)
        refine lv_goto (tgt := 33) hx hb dX12_classOf_29 (by decide) ?_
        exact z_iret hx hb hr hK hS (Nat.le_of_ble_eq_true rfl) (Nat.le_of_ble_eq_true rfl) hlocks dX12_classOf_33 (shM, ad, I, J, PM ad) hW rfl
      · refine lv_if_eq (tgt := 32) hx hb dX12_classOf_19 (by decide) (fun c11 => ?_) (fun c11 => absurd (by decide) c11)
        refine lv_iconst (v := (-1)) hx hb dX12_classOf_32 (by decide) ?_
        exact z_iret hx hb hr hK hS (Nat.le_of_ble_eq_true rfl) (Nat.le_of_ble_eq_true rfl) hlocks dX12_classOf_33 (shM, ad, I, J, PM ad) hW rfl
    · refine lv_if_eq (tgt := 32) hx hb dX12_classOf_12 (by decide) (fun c12 => ?_) (fun c12 => absurd (by decide) c12)
      refine lv_iconst (v := (-1)) hx hb dX12_classOf_32 (by decide) ?_
      exact z_iret hx hb hr hK hS (Nat.le_of_ble_eq_true rfl) (Nat.le_of_ble_eq_true rfl) hlocks dX12_classOf_33 (shM, ad, I, J, PM ad) hW rfl
  · refine lv_if_eq (tgt := 32) hx hb dX12_classOf_5 (by decide) (fun c13 => ?_) (fun c13 => absurd (by decide) c13)
    refine lv_iconst (v := (-1)) hx hb dX12_classOf_32 (by decide) ?_
    exact z_iret hx hb hr hK hS (Nat.le_of_ble_eq_true rfl) (Nat.le_of_ble_eq_true rfl) hlocks dX12_classOf_33 (shM, ad, I, J, PM ad) hW rfl
theorem zj_X12_fault_X12 : ∀ w ∈ wsX120, w ∈ wsX12_fault := fun w h => (List.mem_cons_of_mem _ (List.mem_append_right _ h))
set_option maxHeartbeats 8000000 in
set_option maxRecDepth 100000 in
theorem sx_X12_fault (l : Launch) (G : z_G) (ad : Nat → Nat) (I : z_I) (J : z_J) : z_M l yX12_fault wsX12_fault { frames := 1, cells := 0, slots := 0, locals := 12 } [.ref (ad 0)] G (shM, ad, I, J, PM ad) (fun r u1 => u1 = (shM, ad, I, J, PM ad)) 0 0 := by
  intro sz
  refine z_headQ (cc := cX12_fault) (maxL := 1) (ret := (some .int)) (by decide) rfl (Nat.le_of_ble_eq_true rfl) ?_
  intro p e s m below meth c0 ls hIn hK hsz hW hl
  obtain ⟨hx, hb, hr, hml, hown, hts, hlocks, hname⟩ := hIn
  subst hsz
  have hown : s.vm.findClass RX12 = some m.cls := hown
  have hA : ∀ q : Nat, s.heap.size ≤ q → z_A (shM, ad, I, J, PM ad) s.heap.size q := fun q h => Or.inr h
  generalize hAe : z_A (shM, ad, I, J, PM ad) s.heap.size = A at *
  have hS : va_S A s.heap s.heap [] := va_S.rf
  have hl : lv_has ls 1 [(0, .ref (ad 0))] := hl
  refine lv_aload_n hx hb dX12_fault_0 rfl (lv_at hl 0 rfl) ?_
  refine z_get (T := TX12) (N := 96) (ci := 12) (i := 0) (v := .int (I 0 32)) hx hb hts zj_X12_fault_X12 hown hK hW rfl rfl 32 (by decide) (hts (.fieldLink RX12 87 "PetrolBoardModel" "faultAt" "I") (me_s (me_l (List.mem_of_getElem? (i := 0) rfl)))) (fun _ h => h) rfl dX12_fault_1 ?_
  exact z_iret hx hb hr hK hS (Nat.le_of_ble_eq_true rfl) (Nat.le_of_ble_eq_true rfl) hlocks dX12_fault_4 (shM, ad, I, J, PM ad) hW rfl
theorem zj_X12_inForce_X12 : ∀ w ∈ wsX120, w ∈ wsX12_inForce := fun w h => (List.mem_cons_of_mem _ (List.mem_append_right _ h))
set_option maxHeartbeats 8000000 in
set_option maxRecDepth 100000 in
theorem sx_X12_inForce (l : Launch) (G : z_G) (ad : Nat → Nat) (I : z_I) (J : z_J) (hmb : z_imb I) (a1 : Int32) (a2 : Int32) : z_M l yX12_inForce wsX12_inForce { frames := 1, cells := 0, slots := 0, locals := 12 } [.ref (ad 0), .int a1, .int a2] G (shM, ad, I, J, PM ad) (fun r u1 => u1 = (shM, ad, I, J, PM ad) ∧ (-1 ≤ r.toInt ∧ r.toInt ≤ 11)) 0 0 := by
  intro sz
  refine z_headQ (cc := cX12_inForce) (maxL := 5) (ret := (some .int)) (by decide) rfl (Nat.le_of_ble_eq_true rfl) ?_
  intro p e s m below meth c0 ls hIn hK hsz hW hl
  obtain ⟨hx, hb, hr, hml, hown, hts, hlocks, hname⟩ := hIn
  subst hsz
  have hown : s.vm.findClass RX12 = some m.cls := hown
  have hA : ∀ q : Nat, s.heap.size ≤ q → z_A (shM, ad, I, J, PM ad) s.heap.size q := fun q h => Or.inr h
  generalize hAe : z_A (shM, ad, I, J, PM ad) s.heap.size = A at *
  have hS : va_S A s.heap s.heap [] := va_S.rf
  have hl : lv_has ls 5 [(0, .ref (ad 0)), (1, .int a1), (2, .int a2)] := hl
  refine lv_iconst (v := (-1)) hx hb dX12_inForce_0 (by decide) ?_
  refine lv_istore_n (lv' := [(3, .int (-1)), (0, .ref (ad 0)), (1, .int a1), (2, .int a2)]) hx hb dX12_inForce_1 rfl hl (by decide) rfl (fun ls hl => ?_)
  refine lv_iconst (v := 0) hx hb dX12_inForce_2 (by decide) ?_
  refine lv_istore (lv' := [(4, .int 0), (3, .int (-1)), (0, .ref (ad 0)), (1, .int a1), (2, .int a2)]) hx hb dX12_inForce_3 hl (by decide) rfl (fun ls hl => ?_)
  have lp1 : ∀ (f : Nat) (y2 : Int32) (y3 : Int32) (H : Heap) (locs : List Loc) (ls : Array Slot), (2147483647 < y2.toInt + (f : Int)) → (0 ≤ y2.toInt) → ((-1) ≤ y3.toInt) → (y3.toInt ≤ 11) → z_W G A (shM, ad, I, J, PM ad) H → va_S A s.heap H locs → lv_has ls 5 [(4, .int y2), (3, .int y3), (0, .ref (ad 0)), (1, .int a1), (2, .int a2)] → W p l e (headSpec wsX12_inForce { frames := 1, cells := 0, slots := 0, locals := 12 }).room s m ([.ref (ad 0), .int a1, .int a2] : List Value).toArray below meth c0 H locs 0 0 (MQ below (va_Qi (fun (r : Int32) (u1 : z_U) => u1 = (shM, ad, I, J, PM ad) ∧ (-1 ≤ r.toInt ∧ r.toInt ≤ 11)) (z_B G A) A) ([.ref (ad 0), .int a1, .int a2] : List Value).toArray s 0 0 A) (F0 m 5 ls []) := by
    intro f
    induction f with
    | zero => intro y2 y3 H locs ls lp1m lp1l4 lp1l3 lp1u3 hW hS hl; exact absurd lp1m (by have := Int32.toInt_lt y2; have := Int32.le_toInt y2; omega)
    | succ f lp1ih =>
      intro y2 y3 H locs ls lp1m lp1l4 lp1l3 lp1u3 hW hS hl
      refine lv_iload hx hb dX12_inForce_5 (lv_at hl 0 rfl) ?_
      refine lv_aload_n hx hb dX12_inForce_7 rfl (lv_at hl 2 rfl) ?_
      have r4 : 0 ≤ (I 0 13).toInt ∧ (I 0 13).toInt ≤ 12 := hmb.1
      refine z_get (T := TX12) (N := 96) (ci := 12) (i := 0) (v := .int (I 0 13)) hx hb hts zj_X12_inForce_X12 hown hK hW rfl rfl 13 (by decide) (hts (.fieldLink RX12 408 "PetrolBoardModel" "texts" "I") (me_s (me_l (List.mem_of_getElem? (i := 0) rfl)))) (fun _ h => h) rfl dX12_inForce_8 ?_
      refine lv_icmp_ge (tgt := 65) hx hb dX12_inForce_11 (by decide) (fun c5 => ?_) (fun c5 => ?_)
      · have g6 := z_f_ge rfl rfl c5
        have b7 := Int32.toInt_lt y2
        refine lv_iload_n hx hb dX12_inForce_65 rfl (lv_at hl 1 rfl) ?_
        exact z_iret hx hb hr hK hS (Nat.le_of_ble_eq_true rfl) (Nat.le_of_ble_eq_true rfl) hlocks dX12_inForce_66 (shM, ad, I, J, PM ad) hW ⟨rfl, (by omega)⟩
      · have g8 := z_f_nge rfl rfl c5
        have b9 := Int32.toInt_lt y2
        refine lv_aload_n hx hb dX12_inForce_14 rfl (lv_at hl 2 rfl) ?_
        refine z_get (T := TX12) (N := 96) (ci := 12) (i := 0) (v := .ref (ad 14)) hx hb hts zj_X12_inForce_X12 hown hK hW rfl rfl 19 (by decide) (hts (.fieldLink RX12 49 "PetrolBoardModel" "textTold" "[I") (me_s (me_l (List.mem_of_getElem? (i := 1) rfl)))) (fun _ h => h) rfl dX12_inForce_15 ?_
        refine lv_iload hx hb dX12_inForce_18 (lv_at hl 0 rfl) ?_
        refine z_iald (i := 14) hx hb hK hW rfl (z_ix rfl (by omega) (by omega)) dX12_inForce_20 ?_
        refine lv_topi (fun x10 ex10 => ?_)
        refine lv_iload_n hx hb dX12_inForce_21 rfl (lv_at hl 4 rfl) ?_
        refine lv_icmp_gt (tgt := 59) hx hb dX12_inForce_22 (by decide) (fun c11 => ?_) (fun c11 => ?_)
        · have g12 := z_f_gt rfl rfl c11
          have b13 := Int32.toInt_lt x10
          have b14 := Int32.toInt_lt a2
          obtain ⟨x15, ex15⟩ : ∃ y : Int32, y = y2 + 1 := ⟨_, rfl⟩
          have tx15 : x15.toInt = y2.toInt + 1 := z_tadd ex15 rfl z_l1 (by omega) (by omega)
          refine lv_iinc (v := x15) (lv' := [(4, .int x15), (3, .int y3), (0, .ref (ad 0)), (1, .int a1), (2, .int a2)]) hx hb dX12_inForce_59 hl (k := 0) rfl (by rw [ex15]; rfl) (by decide) rfl (fun ls hl => ?_)
          refine lv_goto (tgt := 5) hx hb dX12_inForce_62 (by decide) ?_
          exact lp1ih x15 y3 _ _ _ (by omega) (by omega) (by omega) (by omega) hW hS (lv_sub hl [0, 1, 2, 3, 4] rfl)
        · have g16 := z_f_ngt rfl rfl c11
          have b17 := Int32.toInt_lt x10
          have b18 := Int32.toInt_lt a2
          refine lv_aload_n hx hb dX12_inForce_25 rfl (lv_at hl 2 rfl) ?_
          refine z_get (T := TX12) (N := 96) (ci := 12) (i := 0) (v := .ref (ad 13)) hx hb hts zj_X12_inForce_X12 hown hK hW rfl rfl 18 (by decide) (hts (.fieldLink RX12 46 "PetrolBoardModel" "textMonth" "[I") (me_s (me_l (List.mem_of_getElem? (i := 2) rfl)))) (fun _ h => h) rfl dX12_inForce_26 ?_
          refine lv_iload hx hb dX12_inForce_29 (lv_at hl 0 rfl) ?_
          refine z_iald (i := 13) hx hb hK hW rfl (z_ix rfl (by omega) (by omega)) dX12_inForce_31 ?_
          refine lv_topi (fun x19 ex19 => ?_)
          refine lv_iload_n hx hb dX12_inForce_32 rfl (lv_at hl 3 rfl) ?_
          refine lv_icmp_gt (tgt := 59) hx hb dX12_inForce_33 (by decide) (fun c20 => ?_) (fun c20 => ?_)
          · have g21 := z_f_gt rfl rfl c20
            have b22 := Int32.toInt_lt x19
            have b23 := Int32.toInt_lt a1
            obtain ⟨x24, ex24⟩ : ∃ y : Int32, y = y2 + 1 := ⟨_, rfl⟩
            have tx24 : x24.toInt = y2.toInt + 1 := z_tadd ex24 rfl z_l1 (by omega) (by omega)
            refine lv_iinc (v := x24) (lv' := [(4, .int x24), (3, .int y3), (0, .ref (ad 0)), (1, .int a1), (2, .int a2)]) hx hb dX12_inForce_59 hl (k := 0) rfl (by rw [ex24]; rfl) (by decide) rfl (fun ls hl => ?_)
            refine lv_goto (tgt := 5) hx hb dX12_inForce_62 (by decide) ?_
            exact lp1ih x24 y3 _ _ _ (by omega) (by omega) (by omega) (by omega) hW hS (lv_sub hl [0, 1, 2, 3, 4] rfl)
          · have g25 := z_f_ngt rfl rfl c20
            have b26 := Int32.toInt_lt x19
            have b27 := Int32.toInt_lt a1
            refine lv_iload_n hx hb dX12_inForce_36 rfl (lv_at hl 1 rfl) ?_
            refine lv_if_lt (tgt := 56) hx hb dX12_inForce_37 (by decide) (fun c28 => ?_) (fun c28 => ?_)
            · have g29 := z_f_lt rfl z_l0 c28
              refine lv_iload hx hb dX12_inForce_56 (lv_at hl 0 rfl) ?_
              refine lv_istore_n (lv' := [(3, .int y2), (4, .int y2), (0, .ref (ad 0)), (1, .int a1), (2, .int a2)]) hx hb dX12_inForce_58 rfl hl (by decide) rfl (fun ls hl => ?_)
              obtain ⟨x30, ex30⟩ : ∃ y : Int32, y = y2 + 1 := ⟨_, rfl⟩
              have tx30 : x30.toInt = y2.toInt + 1 := z_tadd ex30 rfl z_l1 (by omega) (by omega)
              refine lv_iinc (v := x30) (lv' := [(4, .int x30), (3, .int y2), (0, .ref (ad 0)), (1, .int a1), (2, .int a2)]) hx hb dX12_inForce_59 hl (k := 1) rfl (by rw [ex30]; rfl) (by decide) rfl (fun ls hl => ?_)
              refine lv_goto (tgt := 5) hx hb dX12_inForce_62 (by decide) ?_
              exact lp1ih x30 y2 _ _ _ (by omega) (by omega) (by omega) (by omega) hW hS (lv_sub hl [0, 1, 2, 3, 4] rfl)
            · have g31 := z_f_nlt rfl z_l0 c28
              refine lv_aload_n hx hb dX12_inForce_40 rfl (lv_at hl 2 rfl) ?_
              refine z_get (T := TX12) (N := 96) (ci := 12) (i := 0) (v := .ref (ad 13)) hx hb hts zj_X12_inForce_X12 hown hK hW rfl rfl 18 (by decide) (hts (.fieldLink RX12 46 "PetrolBoardModel" "textMonth" "[I") (me_s (me_l (List.mem_of_getElem? (i := 2) rfl)))) (fun _ h => h) rfl dX12_inForce_41 ?_
              refine lv_iload hx hb dX12_inForce_44 (lv_at hl 0 rfl) ?_
              refine z_iald (i := 13) hx hb hK hW rfl (z_ix rfl (by omega) (by omega)) dX12_inForce_46 ?_
              refine z_topi (v := x19) ex19.symm ?_
              refine lv_aload_n hx hb dX12_inForce_47 rfl (lv_at hl 2 rfl) ?_
              refine z_get (T := TX12) (N := 96) (ci := 12) (i := 0) (v := .ref (ad 13)) hx hb hts zj_X12_inForce_X12 hown hK hW rfl rfl 18 (by decide) (hts (.fieldLink RX12 46 "PetrolBoardModel" "textMonth" "[I") (me_s (me_l (List.mem_of_getElem? (i := 2) rfl)))) (fun _ h => h) rfl dX12_inForce_48 ?_
              refine lv_iload_n hx hb dX12_inForce_51 rfl (lv_at hl 1 rfl) ?_
              refine z_iald (i := 13) hx hb hK hW rfl (z_ix rfl (by omega) (by omega)) dX12_inForce_52 ?_
              refine lv_topi (fun x32 ex32 => ?_)
              refine lv_icmp_lt (tgt := 59) hx hb dX12_inForce_53 (by decide) (fun c33 => ?_) (fun c33 => ?_)
              · have g34 := z_f_lt rfl rfl c33
                have b35 := Int32.toInt_lt x32
                obtain ⟨x36, ex36⟩ : ∃ y : Int32, y = y2 + 1 := ⟨_, rfl⟩
                have tx36 : x36.toInt = y2.toInt + 1 := z_tadd ex36 rfl z_l1 (by omega) (by omega)
                refine lv_iinc (v := x36) (lv' := [(4, .int x36), (3, .int y3), (0, .ref (ad 0)), (1, .int a1), (2, .int a2)]) hx hb dX12_inForce_59 hl (k := 0) rfl (by rw [ex36]; rfl) (by decide) rfl (fun ls hl => ?_)
                refine lv_goto (tgt := 5) hx hb dX12_inForce_62 (by decide) ?_
                exact lp1ih x36 y3 _ _ _ (by omega) (by omega) (by omega) (by omega) hW hS (lv_sub hl [0, 1, 2, 3, 4] rfl)
              · have g37 := z_f_nlt rfl rfl c33
                have b38 := Int32.toInt_lt x32
                refine lv_iload hx hb dX12_inForce_56 (lv_at hl 0 rfl) ?_
                refine lv_istore_n (lv' := [(3, .int y2), (4, .int y2), (0, .ref (ad 0)), (1, .int a1), (2, .int a2)]) hx hb dX12_inForce_58 rfl hl (by decide) rfl (fun ls hl => ?_)
                obtain ⟨x39, ex39⟩ : ∃ y : Int32, y = y2 + 1 := ⟨_, rfl⟩
                have tx39 : x39.toInt = y2.toInt + 1 := z_tadd ex39 rfl z_l1 (by omega) (by omega)
                refine lv_iinc (v := x39) (lv' := [(4, .int x39), (3, .int y2), (0, .ref (ad 0)), (1, .int a1), (2, .int a2)]) hx hb dX12_inForce_59 hl (k := 1) rfl (by rw [ex39]; rfl) (by decide) rfl (fun ls hl => ?_)
                refine lv_goto (tgt := 5) hx hb dX12_inForce_62 (by decide) ?_
                exact lp1ih x39 y2 _ _ _ (by omega) (by omega) (by omega) (by omega) hW hS (lv_sub hl [0, 1, 2, 3, 4] rfl)
  exact lp1 4294967296 (0) ((-1)) _ _ _ (z_m0u _) (by rw [z_l0]; omega) (by rw [z_lm1]; omega) (by rw [z_lm1]; omega) hW hS (lv_sub hl [0, 1, 2, 3, 4] rfl)
theorem zj_X12_number_X12 : ∀ w ∈ wsX120, w ∈ wsX12_number := fun w h => (List.mem_cons_of_mem _ (List.mem_append_right _ h))
set_option maxHeartbeats 8000000 in
set_option maxRecDepth 100000 in
theorem sx_X12_number (l : Launch) (G : z_G) (ad : Nat → Nat) (I : z_I) (J : z_J) (hmb : z_imb I) (hAtf : z_rg 11 0 288 I) (hAtm : z_rg 12 0 24 I) (a1 : Int32) (a2 : Int32) (a3 : Int32) : z_M l yX12_number wsX12_number { frames := 2, cells := 0, slots := 0, locals := 36 } [.ref (ad 0), .int a1, .int a2, .int a3] G (shM, ad, I, J, PM ad) (fun r u1 => u1 = (shM, ad, I, J, PM ad)) 0 0 := by
  intro sz
  refine z_headQ (cc := cX12_number) (maxL := 7) (ret := (some .int)) (by decide) rfl (Nat.le_of_ble_eq_true rfl) ?_
  intro p e s m below meth c0 ls hIn hK hsz hW hl
  obtain ⟨hx, hb, hr, hml, hown, hts, hlocks, hname⟩ := hIn
  subst hsz
  have hown : s.vm.findClass RX12 = some m.cls := hown
  have hA : ∀ q : Nat, s.heap.size ≤ q → z_A (shM, ad, I, J, PM ad) s.heap.size q := fun q h => Or.inr h
  generalize hAe : z_A (shM, ad, I, J, PM ad) s.heap.size = A at *
  have hS : va_S A s.heap s.heap [] := va_S.rf
  have hl : lv_has ls 7 [(0, .ref (ad 0)), (1, .int a1), (2, .int a2), (3, .int a3)] := hl
  refine lv_iload_n hx hb dX12_number_0 rfl (lv_at hl 3 rfl) ?_
  refine lv_iconst (v := 3) hx hb dX12_number_1 (by decide) ?_
  refine lv_icmp_ne (tgt := 10) hx hb dX12_number_2 (by decide) (fun c1 => ?_) (fun c1 => ?_)
  · have g2 := z_f_ne rfl z_l3 c1
    have b3 := Int32.toInt_lt a3
    refine lv_iload_n hx hb dX12_number_10 rfl (lv_at hl 3 rfl) ?_
    refine lv_iconst (v := 4) hx hb dX12_number_11 (by decide) ?_
    refine lv_icmp_ne (tgt := 19) hx hb dX12_number_12 (by decide) (fun c4 => ?_) (fun c4 => ?_)
    · have g5 := z_f_ne rfl z_l4 c4
      refine lv_iload_n hx hb dX12_number_19 rfl (lv_at hl 3 rfl) ?_
      refine lv_iconst (v := 5) hx hb dX12_number_20 (by decide) ?_
      refine lv_icmp_ne (tgt := 28) hx hb dX12_number_21 (by decide) (fun c6 => ?_) (fun c6 => ?_)
      · have g7 := z_f_ne rfl z_l5 c6
        refine lv_iload_n hx hb dX12_number_28 rfl (lv_at hl 3 rfl) ?_
        refine lv_bipush (v := 6) hx hb dX12_number_29 (by decide) ?_
        refine lv_icmp_ne (tgt := 38) hx hb dX12_number_31 (by decide) (fun c8 => ?_) (fun c8 => ?_)
        · have g9 := z_f_ne rfl z_l6 c8
          refine lv_bipush (v := 20) hx hb dX12_number_38 (by decide) ?_
          refine lv_istore (lv' := [(4, .int 20), (0, .ref (ad 0)), (1, .int a1), (2, .int a2), (3, .int a3)]) hx hb dX12_number_40 hl (by decide) rfl (fun ls hl => ?_)
          refine lv_aload_n hx hb dX12_number_42 rfl (lv_at hl 1 rfl) ?_
          refine lv_iload_n hx hb dX12_number_43 rfl (lv_at hl 2 rfl) ?_
          refine lv_iload_n hx hb dX12_number_44 rfl (lv_at hl 3 rfl) ?_
          refine z_ci hW hS hA (va_runV (As := [.int a1, .int a2]) (rest := []) ⟨hx, hb, hml, hown, hts⟩ (sx_X12_inForce l G ad I J ⟨(by show 0 ≤ (I 0 13).toInt ∧ (I 0 13).toInt ≤ 12; exact hmb.1), (by show 0 ≤ (I 0 14).toInt ∧ (I 0 14).toInt ≤ 288; exact hmb.2)⟩ a1 a2 _) (cwV 2 hts gX12_number_X12_inForce rfl rfl rfl hy_X12_inForce ⟨Nat.le_of_ble_eq_true rfl, Nat.le_of_ble_eq_true rfl⟩) (z_preV (i := 0) hK hW rfl rfl) rfl rfl hl.1 rfl (lv_room (Nat.le_of_ble_eq_true rfl)) dX12_number_45 ⟨Nat.le_of_ble_eq_true rfl, Nat.le_of_ble_eq_true rfl⟩) (fun r u1 H locs hp hW hS => ?_)
          obtain ⟨e9, hp⟩ := hp
          rw [e9] at hW
          have hq := hp
          generalize r = x10 at hq ⊢
          have h11 := hq
          refine lv_istore (lv' := [(5, .int x10), (4, .int 20), (0, .ref (ad 0)), (1, .int a1), (2, .int a2), (3, .int a3)]) hx hb dX12_number_48 hl (by decide) rfl (fun ls hl => ?_)
          refine lv_iload hx hb dX12_number_50 (lv_at hl 0 rfl) ?_
          refine lv_if_ge (tgt := 58) hx hb dX12_number_52 (by decide) (fun c12 => ?_) (fun c12 => ?_)
          · have g13 := z_f_ge rfl z_l0 c12
            refine lv_aload_n hx hb dX12_number_58 rfl (lv_at hl 2 rfl) ?_
            refine z_get (T := TX12) (N := 96) (ci := 12) (i := 0) (v := .ref (ad 11)) hx hb hts zj_X12_number_X12 hown hK hW rfl rfl 16 (by decide) (hts (.fieldLink RX12 40 "PetrolBoardModel" "textFirst" "[I") (me_s (me_l (List.mem_of_getElem? (i := 0) rfl)))) (fun _ h => h) rfl dX12_number_59 ?_
            refine lv_iload hx hb dX12_number_62 (lv_at hl 0 rfl) ?_
            refine z_iald (i := 11) hx hb hK hW rfl (z_ix rfl (by omega) (by omega)) dX12_number_64 ?_
            refine lv_topi (fun x14 ex14 => ?_)
            have h15 : 0 ≤ x14.toInt ∧ x14.toInt ≤ 288 := by rw [ex14]; exact hAtf _
            refine lv_istore (lv' := [(6, .int x14), (5, .int x10), (4, .int 20), (0, .ref (ad 0)), (1, .int a1), (2, .int a2), (3, .int a3)]) hx hb dX12_number_65 hl (by decide) rfl (fun ls hl => ?_)
            have lp16 : ∀ (f : Nat) (y17 : Int32) (y18 : Int32) (H : Heap) (locs : List Loc) (ls : Array Slot), (2147483647 < y17.toInt + (f : Int)) → (0 ≤ y17.toInt) → (x14.toInt ≤ y17.toInt) → z_W G A (shM, ad, I, J, PM ad) H → va_S A s.heap H locs → lv_has ls 7 [(6, .int y17), (5, .int x10), (4, .int y18), (0, .ref (ad 0)), (1, .int a1), (2, .int a2), (3, .int a3)] → W p l e (headSpec wsX12_number { frames := 2, cells := 0, slots := 0, locals := 36 }).room s m ([.ref (ad 0), .int a1, .int a2, .int a3] : List Value).toArray below meth c0 H locs 0 0 (MQ below (va_Qi (fun (r : Int32) (u1 : z_U) => u1 = (shM, ad, I, J, PM ad)) (z_B G A) A) ([.ref (ad 0), .int a1, .int a2, .int a3] : List Value).toArray s 0 0 A) (F0 m 67 ls []) := by
              intro f
              induction f with
              | zero => intro y17 y18 H locs ls lp16m lp16l6 lp16z hW hS hl; exact absurd lp16m (by have := Int32.toInt_lt y17; have := Int32.le_toInt y17; omega)
              | succ f lp16ih =>
                intro y17 y18 H locs ls lp16m lp16l6 lp16z hW hS hl
                refine lv_iload hx hb dX12_number_67 (lv_at hl 0 rfl) ?_
                refine lv_aload_n hx hb dX12_number_69 rfl (lv_at hl 3 rfl) ?_
                refine z_get (T := TX12) (N := 96) (ci := 12) (i := 0) (v := .ref (ad 11)) hx hb hts zj_X12_number_X12 hown hK hW rfl rfl 16 (by decide) (hts (.fieldLink RX12 40 "PetrolBoardModel" "textFirst" "[I") (me_s (me_l (List.mem_of_getElem? (i := 0) rfl)))) (fun _ h => h) rfl dX12_number_70 ?_
                refine lv_iload hx hb dX12_number_73 (lv_at hl 1 rfl) ?_
                refine z_iald (i := 11) hx hb hK hW rfl (z_ix rfl (by omega) (by omega)) dX12_number_75 ?_
                refine z_topi (v := x14) ex14.symm ?_
                refine lv_aload_n hx hb dX12_number_76 rfl (lv_at hl 3 rfl) ?_
                refine z_get (T := TX12) (N := 96) (ci := 12) (i := 0) (v := .ref (ad 12)) hx hb hts zj_X12_number_X12 hown hK hW rfl rfl 17 (by decide) (hts (.fieldLink RX12 43 "PetrolBoardModel" "textMany" "[I") (me_s (me_l (List.mem_of_getElem? (i := 1) rfl)))) (fun _ h => h) rfl dX12_number_77 ?_
                refine lv_iload hx hb dX12_number_80 (lv_at hl 1 rfl) ?_
                refine z_iald (i := 12) hx hb hK hW rfl (z_ix rfl (by omega) (by omega)) dX12_number_82 ?_
                refine lv_topi (fun x19 ex19 => ?_)
                have h20 : 0 ≤ x19.toInt ∧ x19.toInt ≤ 24 := by rw [ex19]; exact hAtm _
                refine lv_iadd hx hb dX12_number_83 ?_
                refine lv_topi (fun x21 ex21 => ?_)
                have tx21 : x21.toInt = x14.toInt + x19.toInt := z_tadd ex21 rfl rfl (by omega) (by omega)
                refine lv_icmp_ge (tgt := 113) hx hb dX12_number_84 (by decide) (fun c22 => ?_) (fun c22 => ?_)
                · have g23 := z_f_ge rfl rfl c22
                  have b24 := Int32.toInt_lt y17
                  refine lv_iload hx hb dX12_number_113 (lv_at hl 2 rfl) ?_
                  exact z_iret hx hb hr hK hS (Nat.le_of_ble_eq_true rfl) (Nat.le_of_ble_eq_true rfl) hlocks dX12_number_115 (shM, ad, I, J, PM ad) hW rfl
                · have g25 := z_f_nge rfl rfl c22
                  have b26 := Int32.toInt_lt y17
                  refine lv_aload_n hx hb dX12_number_87 rfl (lv_at hl 3 rfl) ?_
                  refine z_get (T := TX12) (N := 96) (ci := 12) (i := 0) (v := .ref (ad 15)) hx hb hts zj_X12_number_X12 hown hK hW rfl rfl 20 (by decide) (hts (.fieldLink RX12 52 "PetrolBoardModel" "stRule" "[I") (me_s (me_l (List.mem_of_getElem? (i := 2) rfl)))) (fun _ h => h) rfl dX12_number_88 ?_
                  refine lv_iload hx hb dX12_number_91 (lv_at hl 0 rfl) ?_
                  refine z_iald (i := 15) hx hb hK hW rfl (z_ix rfl (by omega) (by omega)) dX12_number_93 ?_
                  refine lv_topi (fun x27 ex27 => ?_)
                  refine lv_iload_n hx hb dX12_number_94 rfl (lv_at hl 6 rfl) ?_
                  refine lv_icmp_ne (tgt := 107) hx hb dX12_number_95 (by decide) (fun c28 => ?_) (fun c28 => ?_)
                  · have g29 := z_f_ne rfl rfl c28
                    have b30 := Int32.toInt_lt x27
                    obtain ⟨x31, ex31⟩ : ∃ y : Int32, y = y17 + 1 := ⟨_, rfl⟩
                    have tx31 : x31.toInt = y17.toInt + 1 := z_tadd ex31 rfl z_l1 (by omega) (by omega)
                    refine lv_iinc (v := x31) (lv' := [(6, .int x31), (5, .int x10), (4, .int y18), (0, .ref (ad 0)), (1, .int a1), (2, .int a2), (3, .int a3)]) hx hb dX12_number_107 hl (k := 0) rfl (by rw [ex31]; rfl) (by decide) rfl (fun ls hl => ?_)
                    refine lv_goto (tgt := 67) hx hb dX12_number_110 (by decide) ?_
                    exact lp16ih x31 y18 _ _ _ (by omega) (by omega) (by omega) hW hS (lv_sub hl [0, 1, 2, 3, 4, 5, 6] rfl)
                  · have g32 := z_f_eq rfl rfl c28
                    have b33 := Int32.toInt_lt x27
                    refine lv_aload_n hx hb dX12_number_98 rfl (lv_at hl 3 rfl) ?_
                    refine z_get (T := TX12) (N := 96) (ci := 12) (i := 0) (v := .ref (ad 16)) hx hb hts zj_X12_number_X12 hown hK hW rfl rfl 21 (by decide) (hts (.fieldLink RX12 55 "PetrolBoardModel" "stNumber" "[I") (me_s (me_l (List.mem_of_getElem? (i := 3) rfl)))) (fun _ h => h) rfl dX12_number_99 ?_
                    refine lv_iload hx hb dX12_number_102 (lv_at hl 0 rfl) ?_
                    refine z_iald (i := 16) hx hb hK hW rfl (z_ix rfl (by omega) (by omega)) dX12_number_104 ?_
                    refine lv_topi (fun x34 ex34 => ?_)
                    refine lv_istore (lv' := [(4, .int x34), (6, .int y17), (5, .int x10), (0, .ref (ad 0)), (1, .int a1), (2, .int a2), (3, .int a3)]) hx hb dX12_number_105 hl (by decide) rfl (fun ls hl => ?_)
                    obtain ⟨x35, ex35⟩ : ∃ y : Int32, y = y17 + 1 := ⟨_, rfl⟩
                    have tx35 : x35.toInt = y17.toInt + 1 := z_tadd ex35 rfl z_l1 (by omega) (by omega)
                    refine lv_iinc (v := x35) (lv' := [(6, .int x35), (4, .int x34), (5, .int x10), (0, .ref (ad 0)), (1, .int a1), (2, .int a2), (3, .int a3)]) hx hb dX12_number_107 hl (k := 1) rfl (by rw [ex35]; rfl) (by decide) rfl (fun ls hl => ?_)
                    refine lv_goto (tgt := 67) hx hb dX12_number_110 (by decide) ?_
                    exact lp16ih x35 x34 _ _ _ (by omega) (by omega) (by omega) hW hS (lv_sub hl [0, 2, 1, 3, 4, 5, 6] rfl)
            exact lp16 4294967296 x14 (20) _ _ _ (z_m0u _) (by omega) (by omega) hW hS (lv_sub hl [0, 1, 2, 3, 4, 5, 6] rfl)
          · have g36 := z_f_nge rfl z_l0 c12
            refine lv_iload hx hb dX12_number_55 (lv_at hl 1 rfl) ?_
            exact z_iret hx hb hr hK hS (Nat.le_of_ble_eq_true rfl) (Nat.le_of_ble_eq_true rfl) hlocks dX12_number_57 (shM, ad, I, J, PM ad) hW rfl
        · have g37 := z_f_eq rfl z_l6 c8
          refine lv_iconst (v := 0) hx hb dX12_number_34 (by decide) ?_
          refine lv_goto (tgt := 40) hx hb dX12_number_35 (by decide) ?_
          refine lv_istore (lv' := [(4, .int 0), (0, .ref (ad 0)), (1, .int a1), (2, .int a2), (3, .int a3)]) hx hb dX12_number_40 hl (by decide) rfl (fun ls hl => ?_)
          refine lv_aload_n hx hb dX12_number_42 rfl (lv_at hl 1 rfl) ?_
          refine lv_iload_n hx hb dX12_number_43 rfl (lv_at hl 2 rfl) ?_
          refine lv_iload_n hx hb dX12_number_44 rfl (lv_at hl 3 rfl) ?_
          refine z_ci hW hS hA (va_runV (As := [.int a1, .int a2]) (rest := []) ⟨hx, hb, hml, hown, hts⟩ (sx_X12_inForce l G ad I J ⟨(by show 0 ≤ (I 0 13).toInt ∧ (I 0 13).toInt ≤ 12; exact hmb.1), (by show 0 ≤ (I 0 14).toInt ∧ (I 0 14).toInt ≤ 288; exact hmb.2)⟩ a1 a2 _) (cwV 2 hts gX12_number_X12_inForce rfl rfl rfl hy_X12_inForce ⟨Nat.le_of_ble_eq_true rfl, Nat.le_of_ble_eq_true rfl⟩) (z_preV (i := 0) hK hW rfl rfl) rfl rfl hl.1 rfl (lv_room (Nat.le_of_ble_eq_true rfl)) dX12_number_45 ⟨Nat.le_of_ble_eq_true rfl, Nat.le_of_ble_eq_true rfl⟩) (fun r u1 H locs hp hW hS => ?_)
          obtain ⟨e9, hp⟩ := hp
          rw [e9] at hW
          have hq := hp
          generalize r = x38 at hq ⊢
          have h39 := hq
          refine lv_istore (lv' := [(5, .int x38), (4, .int 0), (0, .ref (ad 0)), (1, .int a1), (2, .int a2), (3, .int a3)]) hx hb dX12_number_48 hl (by decide) rfl (fun ls hl => ?_)
          refine lv_iload hx hb dX12_number_50 (lv_at hl 0 rfl) ?_
          refine lv_if_ge (tgt := 58) hx hb dX12_number_52 (by decide) (fun c40 => ?_) (fun c40 => ?_)
          · have g41 := z_f_ge rfl z_l0 c40
            refine lv_aload_n hx hb dX12_number_58 rfl (lv_at hl 2 rfl) ?_
            refine z_get (T := TX12) (N := 96) (ci := 12) (i := 0) (v := .ref (ad 11)) hx hb hts zj_X12_number_X12 hown hK hW rfl rfl 16 (by decide) (hts (.fieldLink RX12 40 "PetrolBoardModel" "textFirst" "[I") (me_s (me_l (List.mem_of_getElem? (i := 0) rfl)))) (fun _ h => h) rfl dX12_number_59 ?_
            refine lv_iload hx hb dX12_number_62 (lv_at hl 0 rfl) ?_
            refine z_iald (i := 11) hx hb hK hW rfl (z_ix rfl (by omega) (by omega)) dX12_number_64 ?_
            refine lv_topi (fun x42 ex42 => ?_)
            have h43 : 0 ≤ x42.toInt ∧ x42.toInt ≤ 288 := by rw [ex42]; exact hAtf _
            refine lv_istore (lv' := [(6, .int x42), (5, .int x38), (4, .int 0), (0, .ref (ad 0)), (1, .int a1), (2, .int a2), (3, .int a3)]) hx hb dX12_number_65 hl (by decide) rfl (fun ls hl => ?_)
            have lp44 : ∀ (f : Nat) (y45 : Int32) (y46 : Int32) (H : Heap) (locs : List Loc) (ls : Array Slot), (2147483647 < y45.toInt + (f : Int)) → (0 ≤ y45.toInt) → (x42.toInt ≤ y45.toInt) → z_W G A (shM, ad, I, J, PM ad) H → va_S A s.heap H locs → lv_has ls 7 [(6, .int y45), (5, .int x38), (4, .int y46), (0, .ref (ad 0)), (1, .int a1), (2, .int a2), (3, .int a3)] → W p l e (headSpec wsX12_number { frames := 2, cells := 0, slots := 0, locals := 36 }).room s m ([.ref (ad 0), .int a1, .int a2, .int a3] : List Value).toArray below meth c0 H locs 0 0 (MQ below (va_Qi (fun (r : Int32) (u1 : z_U) => u1 = (shM, ad, I, J, PM ad)) (z_B G A) A) ([.ref (ad 0), .int a1, .int a2, .int a3] : List Value).toArray s 0 0 A) (F0 m 67 ls []) := by
              intro f
              induction f with
              | zero => intro y45 y46 H locs ls lp44m lp44l6 lp44z hW hS hl; exact absurd lp44m (by have := Int32.toInt_lt y45; have := Int32.le_toInt y45; omega)
              | succ f lp44ih =>
                intro y45 y46 H locs ls lp44m lp44l6 lp44z hW hS hl
                refine lv_iload hx hb dX12_number_67 (lv_at hl 0 rfl) ?_
                refine lv_aload_n hx hb dX12_number_69 rfl (lv_at hl 3 rfl) ?_
                refine z_get (T := TX12) (N := 96) (ci := 12) (i := 0) (v := .ref (ad 11)) hx hb hts zj_X12_number_X12 hown hK hW rfl rfl 16 (by decide) (hts (.fieldLink RX12 40 "PetrolBoardModel" "textFirst" "[I") (me_s (me_l (List.mem_of_getElem? (i := 0) rfl)))) (fun _ h => h) rfl dX12_number_70 ?_
                refine lv_iload hx hb dX12_number_73 (lv_at hl 1 rfl) ?_
                refine z_iald (i := 11) hx hb hK hW rfl (z_ix rfl (by omega) (by omega)) dX12_number_75 ?_
                refine z_topi (v := x42) ex42.symm ?_
                refine lv_aload_n hx hb dX12_number_76 rfl (lv_at hl 3 rfl) ?_
                refine z_get (T := TX12) (N := 96) (ci := 12) (i := 0) (v := .ref (ad 12)) hx hb hts zj_X12_number_X12 hown hK hW rfl rfl 17 (by decide) (hts (.fieldLink RX12 43 "PetrolBoardModel" "textMany" "[I") (me_s (me_l (List.mem_of_getElem? (i := 1) rfl)))) (fun _ h => h) rfl dX12_number_77 ?_
                refine lv_iload hx hb dX12_number_80 (lv_at hl 1 rfl) ?_
                refine z_iald (i := 12) hx hb hK hW rfl (z_ix rfl (by omega) (by omega)) dX12_number_82 ?_
                refine lv_topi (fun x47 ex47 => ?_)
                have h48 : 0 ≤ x47.toInt ∧ x47.toInt ≤ 24 := by rw [ex47]; exact hAtm _
                refine lv_iadd hx hb dX12_number_83 ?_
                refine lv_topi (fun x49 ex49 => ?_)
                have tx49 : x49.toInt = x42.toInt + x47.toInt := z_tadd ex49 rfl rfl (by omega) (by omega)
                refine lv_icmp_ge (tgt := 113) hx hb dX12_number_84 (by decide) (fun c50 => ?_) (fun c50 => ?_)
                · have g51 := z_f_ge rfl rfl c50
                  have b52 := Int32.toInt_lt y45
                  refine lv_iload hx hb dX12_number_113 (lv_at hl 2 rfl) ?_
                  exact z_iret hx hb hr hK hS (Nat.le_of_ble_eq_true rfl) (Nat.le_of_ble_eq_true rfl) hlocks dX12_number_115 (shM, ad, I, J, PM ad) hW rfl
                · have g53 := z_f_nge rfl rfl c50
                  have b54 := Int32.toInt_lt y45
                  refine lv_aload_n hx hb dX12_number_87 rfl (lv_at hl 3 rfl) ?_
                  refine z_get (T := TX12) (N := 96) (ci := 12) (i := 0) (v := .ref (ad 15)) hx hb hts zj_X12_number_X12 hown hK hW rfl rfl 20 (by decide) (hts (.fieldLink RX12 52 "PetrolBoardModel" "stRule" "[I") (me_s (me_l (List.mem_of_getElem? (i := 2) rfl)))) (fun _ h => h) rfl dX12_number_88 ?_
                  refine lv_iload hx hb dX12_number_91 (lv_at hl 0 rfl) ?_
                  refine z_iald (i := 15) hx hb hK hW rfl (z_ix rfl (by omega) (by omega)) dX12_number_93 ?_
                  refine lv_topi (fun x55 ex55 => ?_)
                  refine lv_iload_n hx hb dX12_number_94 rfl (lv_at hl 6 rfl) ?_
                  refine lv_icmp_ne (tgt := 107) hx hb dX12_number_95 (by decide) (fun c56 => ?_) (fun c56 => ?_)
                  · have g57 := z_f_ne rfl rfl c56
                    have b58 := Int32.toInt_lt x55
                    obtain ⟨x59, ex59⟩ : ∃ y : Int32, y = y45 + 1 := ⟨_, rfl⟩
                    have tx59 : x59.toInt = y45.toInt + 1 := z_tadd ex59 rfl z_l1 (by omega) (by omega)
                    refine lv_iinc (v := x59) (lv' := [(6, .int x59), (5, .int x38), (4, .int y46), (0, .ref (ad 0)), (1, .int a1), (2, .int a2), (3, .int a3)]) hx hb dX12_number_107 hl (k := 0) rfl (by rw [ex59]; rfl) (by decide) rfl (fun ls hl => ?_)
                    refine lv_goto (tgt := 67) hx hb dX12_number_110 (by decide) ?_
                    exact lp44ih x59 y46 _ _ _ (by omega) (by omega) (by omega) hW hS (lv_sub hl [0, 1, 2, 3, 4, 5, 6] rfl)
                  · have g60 := z_f_eq rfl rfl c56
                    have b61 := Int32.toInt_lt x55
                    refine lv_aload_n hx hb dX12_number_98 rfl (lv_at hl 3 rfl) ?_
                    refine z_get (T := TX12) (N := 96) (ci := 12) (i := 0) (v := .ref (ad 16)) hx hb hts zj_X12_number_X12 hown hK hW rfl rfl 21 (by decide) (hts (.fieldLink RX12 55 "PetrolBoardModel" "stNumber" "[I") (me_s (me_l (List.mem_of_getElem? (i := 3) rfl)))) (fun _ h => h) rfl dX12_number_99 ?_
                    refine lv_iload hx hb dX12_number_102 (lv_at hl 0 rfl) ?_
                    refine z_iald (i := 16) hx hb hK hW rfl (z_ix rfl (by omega) (by omega)) dX12_number_104 ?_
                    refine lv_topi (fun x62 ex62 => ?_)
                    refine lv_istore (lv' := [(4, .int x62), (6, .int y45), (5, .int x38), (0, .ref (ad 0)), (1, .int a1), (2, .int a2), (3, .int a3)]) hx hb dX12_number_105 hl (by decide) rfl (fun ls hl => ?_)
                    obtain ⟨x63, ex63⟩ : ∃ y : Int32, y = y45 + 1 := ⟨_, rfl⟩
                    have tx63 : x63.toInt = y45.toInt + 1 := z_tadd ex63 rfl z_l1 (by omega) (by omega)
                    refine lv_iinc (v := x63) (lv' := [(6, .int x63), (4, .int x62), (5, .int x38), (0, .ref (ad 0)), (1, .int a1), (2, .int a2), (3, .int a3)]) hx hb dX12_number_107 hl (k := 1) rfl (by rw [ex63]; rfl) (by decide) rfl (fun ls hl => ?_)
                    refine lv_goto (tgt := 67) hx hb dX12_number_110 (by decide) ?_
                    exact lp44ih x63 x62 _ _ _ (by omega) (by omega) (by omega) hW hS (lv_sub hl [0, 2, 1, 3, 4, 5, 6] rfl)
            exact lp44 4294967296 x42 (0) _ _ _ (z_m0u _) (by omega) (by omega) hW hS (lv_sub hl [0, 1, 2, 3, 4, 5, 6] rfl)
          · have g64 := z_f_nge rfl z_l0 c40
            refine lv_iload hx hb dX12_number_55 (lv_at hl 1 rfl) ?_
            exact z_iret hx hb hr hK hS (Nat.le_of_ble_eq_true rfl) (Nat.le_of_ble_eq_true rfl) hlocks dX12_number_57 (shM, ad, I, J, PM ad) hW rfl
      · have g65 := z_f_eq rfl z_l5 c6
        refine lv_iconst (v := 5) hx hb dX12_number_24 (by decide) ?_
        refine lv_goto (tgt := 40) hx hb dX12_number_25 (by decide) ?_
        refine lv_istore (lv' := [(4, .int 5), (0, .ref (ad 0)), (1, .int a1), (2, .int a2), (3, .int a3)]) hx hb dX12_number_40 hl (by decide) rfl (fun ls hl => ?_)
        refine lv_aload_n hx hb dX12_number_42 rfl (lv_at hl 1 rfl) ?_
        refine lv_iload_n hx hb dX12_number_43 rfl (lv_at hl 2 rfl) ?_
        refine lv_iload_n hx hb dX12_number_44 rfl (lv_at hl 3 rfl) ?_
        refine z_ci hW hS hA (va_runV (As := [.int a1, .int a2]) (rest := []) ⟨hx, hb, hml, hown, hts⟩ (sx_X12_inForce l G ad I J ⟨(by show 0 ≤ (I 0 13).toInt ∧ (I 0 13).toInt ≤ 12; exact hmb.1), (by show 0 ≤ (I 0 14).toInt ∧ (I 0 14).toInt ≤ 288; exact hmb.2)⟩ a1 a2 _) (cwV 2 hts gX12_number_X12_inForce rfl rfl rfl hy_X12_inForce ⟨Nat.le_of_ble_eq_true rfl, Nat.le_of_ble_eq_true rfl⟩) (z_preV (i := 0) hK hW rfl rfl) rfl rfl hl.1 rfl (lv_room (Nat.le_of_ble_eq_true rfl)) dX12_number_45 ⟨Nat.le_of_ble_eq_true rfl, Nat.le_of_ble_eq_true rfl⟩) (fun r u1 H locs hp hW hS => ?_)
        obtain ⟨e9, hp⟩ := hp
        rw [e9] at hW
        have hq := hp
        generalize r = x66 at hq ⊢
        have h67 := hq
        refine lv_istore (lv' := [(5, .int x66), (4, .int 5), (0, .ref (ad 0)), (1, .int a1), (2, .int a2), (3, .int a3)]) hx hb dX12_number_48 hl (by decide) rfl (fun ls hl => ?_)
        refine lv_iload hx hb dX12_number_50 (lv_at hl 0 rfl) ?_
        refine lv_if_ge (tgt := 58) hx hb dX12_number_52 (by decide) (fun c68 => ?_) (fun c68 => ?_)
        · have g69 := z_f_ge rfl z_l0 c68
          refine lv_aload_n hx hb dX12_number_58 rfl (lv_at hl 2 rfl) ?_
          refine z_get (T := TX12) (N := 96) (ci := 12) (i := 0) (v := .ref (ad 11)) hx hb hts zj_X12_number_X12 hown hK hW rfl rfl 16 (by decide) (hts (.fieldLink RX12 40 "PetrolBoardModel" "textFirst" "[I") (me_s (me_l (List.mem_of_getElem? (i := 0) rfl)))) (fun _ h => h) rfl dX12_number_59 ?_
          refine lv_iload hx hb dX12_number_62 (lv_at hl 0 rfl) ?_
          refine z_iald (i := 11) hx hb hK hW rfl (z_ix rfl (by omega) (by omega)) dX12_number_64 ?_
          refine lv_topi (fun x70 ex70 => ?_)
          have h71 : 0 ≤ x70.toInt ∧ x70.toInt ≤ 288 := by rw [ex70]; exact hAtf _
          refine lv_istore (lv' := [(6, .int x70), (5, .int x66), (4, .int 5), (0, .ref (ad 0)), (1, .int a1), (2, .int a2), (3, .int a3)]) hx hb dX12_number_65 hl (by decide) rfl (fun ls hl => ?_)
          have lp72 : ∀ (f : Nat) (y73 : Int32) (y74 : Int32) (H : Heap) (locs : List Loc) (ls : Array Slot), (2147483647 < y73.toInt + (f : Int)) → (0 ≤ y73.toInt) → (x70.toInt ≤ y73.toInt) → z_W G A (shM, ad, I, J, PM ad) H → va_S A s.heap H locs → lv_has ls 7 [(6, .int y73), (5, .int x66), (4, .int y74), (0, .ref (ad 0)), (1, .int a1), (2, .int a2), (3, .int a3)] → W p l e (headSpec wsX12_number { frames := 2, cells := 0, slots := 0, locals := 36 }).room s m ([.ref (ad 0), .int a1, .int a2, .int a3] : List Value).toArray below meth c0 H locs 0 0 (MQ below (va_Qi (fun (r : Int32) (u1 : z_U) => u1 = (shM, ad, I, J, PM ad)) (z_B G A) A) ([.ref (ad 0), .int a1, .int a2, .int a3] : List Value).toArray s 0 0 A) (F0 m 67 ls []) := by
            intro f
            induction f with
            | zero => intro y73 y74 H locs ls lp72m lp72l6 lp72z hW hS hl; exact absurd lp72m (by have := Int32.toInt_lt y73; have := Int32.le_toInt y73; omega)
            | succ f lp72ih =>
              intro y73 y74 H locs ls lp72m lp72l6 lp72z hW hS hl
              refine lv_iload hx hb dX12_number_67 (lv_at hl 0 rfl) ?_
              refine lv_aload_n hx hb dX12_number_69 rfl (lv_at hl 3 rfl) ?_
              refine z_get (T := TX12) (N := 96) (ci := 12) (i := 0) (v := .ref (ad 11)) hx hb hts zj_X12_number_X12 hown hK hW rfl rfl 16 (by decide) (hts (.fieldLink RX12 40 "PetrolBoardModel" "textFirst" "[I") (me_s (me_l (List.mem_of_getElem? (i := 0) rfl)))) (fun _ h => h) rfl dX12_number_70 ?_
              refine lv_iload hx hb dX12_number_73 (lv_at hl 1 rfl) ?_
              refine z_iald (i := 11) hx hb hK hW rfl (z_ix rfl (by omega) (by omega)) dX12_number_75 ?_
              refine z_topi (v := x70) ex70.symm ?_
              refine lv_aload_n hx hb dX12_number_76 rfl (lv_at hl 3 rfl) ?_
              refine z_get (T := TX12) (N := 96) (ci := 12) (i := 0) (v := .ref (ad 12)) hx hb hts zj_X12_number_X12 hown hK hW rfl rfl 17 (by decide) (hts (.fieldLink RX12 43 "PetrolBoardModel" "textMany" "[I") (me_s (me_l (List.mem_of_getElem? (i := 1) rfl)))) (fun _ h => h) rfl dX12_number_77 ?_
              refine lv_iload hx hb dX12_number_80 (lv_at hl 1 rfl) ?_
              refine z_iald (i := 12) hx hb hK hW rfl (z_ix rfl (by omega) (by omega)) dX12_number_82 ?_
              refine lv_topi (fun x75 ex75 => ?_)
              have h76 : 0 ≤ x75.toInt ∧ x75.toInt ≤ 24 := by rw [ex75]; exact hAtm _
              refine lv_iadd hx hb dX12_number_83 ?_
              refine lv_topi (fun x77 ex77 => ?_)
              have tx77 : x77.toInt = x70.toInt + x75.toInt := z_tadd ex77 rfl rfl (by omega) (by omega)
              refine lv_icmp_ge (tgt := 113) hx hb dX12_number_84 (by decide) (fun c78 => ?_) (fun c78 => ?_)
              · have g79 := z_f_ge rfl rfl c78
                have b80 := Int32.toInt_lt y73
                refine lv_iload hx hb dX12_number_113 (lv_at hl 2 rfl) ?_
                exact z_iret hx hb hr hK hS (Nat.le_of_ble_eq_true rfl) (Nat.le_of_ble_eq_true rfl) hlocks dX12_number_115 (shM, ad, I, J, PM ad) hW rfl
              · have g81 := z_f_nge rfl rfl c78
                have b82 := Int32.toInt_lt y73
                refine lv_aload_n hx hb dX12_number_87 rfl (lv_at hl 3 rfl) ?_
                refine z_get (T := TX12) (N := 96) (ci := 12) (i := 0) (v := .ref (ad 15)) hx hb hts zj_X12_number_X12 hown hK hW rfl rfl 20 (by decide) (hts (.fieldLink RX12 52 "PetrolBoardModel" "stRule" "[I") (me_s (me_l (List.mem_of_getElem? (i := 2) rfl)))) (fun _ h => h) rfl dX12_number_88 ?_
                refine lv_iload hx hb dX12_number_91 (lv_at hl 0 rfl) ?_
                refine z_iald (i := 15) hx hb hK hW rfl (z_ix rfl (by omega) (by omega)) dX12_number_93 ?_
                refine lv_topi (fun x83 ex83 => ?_)
                refine lv_iload_n hx hb dX12_number_94 rfl (lv_at hl 6 rfl) ?_
                refine lv_icmp_ne (tgt := 107) hx hb dX12_number_95 (by decide) (fun c84 => ?_) (fun c84 => ?_)
                · have g85 := z_f_ne rfl rfl c84
                  have b86 := Int32.toInt_lt x83
                  obtain ⟨x87, ex87⟩ : ∃ y : Int32, y = y73 + 1 := ⟨_, rfl⟩
                  have tx87 : x87.toInt = y73.toInt + 1 := z_tadd ex87 rfl z_l1 (by omega) (by omega)
                  refine lv_iinc (v := x87) (lv' := [(6, .int x87), (5, .int x66), (4, .int y74), (0, .ref (ad 0)), (1, .int a1), (2, .int a2), (3, .int a3)]) hx hb dX12_number_107 hl (k := 0) rfl (by rw [ex87]; rfl) (by decide) rfl (fun ls hl => ?_)
                  refine lv_goto (tgt := 67) hx hb dX12_number_110 (by decide) ?_
                  exact lp72ih x87 y74 _ _ _ (by omega) (by omega) (by omega) hW hS (lv_sub hl [0, 1, 2, 3, 4, 5, 6] rfl)
                · have g88 := z_f_eq rfl rfl c84
                  have b89 := Int32.toInt_lt x83
                  refine lv_aload_n hx hb dX12_number_98 rfl (lv_at hl 3 rfl) ?_
                  refine z_get (T := TX12) (N := 96) (ci := 12) (i := 0) (v := .ref (ad 16)) hx hb hts zj_X12_number_X12 hown hK hW rfl rfl 21 (by decide) (hts (.fieldLink RX12 55 "PetrolBoardModel" "stNumber" "[I") (me_s (me_l (List.mem_of_getElem? (i := 3) rfl)))) (fun _ h => h) rfl dX12_number_99 ?_
                  refine lv_iload hx hb dX12_number_102 (lv_at hl 0 rfl) ?_
                  refine z_iald (i := 16) hx hb hK hW rfl (z_ix rfl (by omega) (by omega)) dX12_number_104 ?_
                  refine lv_topi (fun x90 ex90 => ?_)
                  refine lv_istore (lv' := [(4, .int x90), (6, .int y73), (5, .int x66), (0, .ref (ad 0)), (1, .int a1), (2, .int a2), (3, .int a3)]) hx hb dX12_number_105 hl (by decide) rfl (fun ls hl => ?_)
                  obtain ⟨x91, ex91⟩ : ∃ y : Int32, y = y73 + 1 := ⟨_, rfl⟩
                  have tx91 : x91.toInt = y73.toInt + 1 := z_tadd ex91 rfl z_l1 (by omega) (by omega)
                  refine lv_iinc (v := x91) (lv' := [(6, .int x91), (4, .int x90), (5, .int x66), (0, .ref (ad 0)), (1, .int a1), (2, .int a2), (3, .int a3)]) hx hb dX12_number_107 hl (k := 1) rfl (by rw [ex91]; rfl) (by decide) rfl (fun ls hl => ?_)
                  refine lv_goto (tgt := 67) hx hb dX12_number_110 (by decide) ?_
                  exact lp72ih x91 x90 _ _ _ (by omega) (by omega) (by omega) hW hS (lv_sub hl [0, 2, 1, 3, 4, 5, 6] rfl)
          exact lp72 4294967296 x70 (5) _ _ _ (z_m0u _) (by omega) (by omega) hW hS (lv_sub hl [0, 1, 2, 3, 4, 5, 6] rfl)
        · have g92 := z_f_nge rfl z_l0 c68
          refine lv_iload hx hb dX12_number_55 (lv_at hl 1 rfl) ?_
          exact z_iret hx hb hr hK hS (Nat.le_of_ble_eq_true rfl) (Nat.le_of_ble_eq_true rfl) hlocks dX12_number_57 (shM, ad, I, J, PM ad) hW rfl
    · have g93 := z_f_eq rfl z_l4 c4
      refine lv_iconst (v := 1) hx hb dX12_number_15 (by decide) ?_
      refine lv_goto (tgt := 40) hx hb dX12_number_16 (by decide) ?_
      refine lv_istore (lv' := [(4, .int 1), (0, .ref (ad 0)), (1, .int a1), (2, .int a2), (3, .int a3)]) hx hb dX12_number_40 hl (by decide) rfl (fun ls hl => ?_)
      refine lv_aload_n hx hb dX12_number_42 rfl (lv_at hl 1 rfl) ?_
      refine lv_iload_n hx hb dX12_number_43 rfl (lv_at hl 2 rfl) ?_
      refine lv_iload_n hx hb dX12_number_44 rfl (lv_at hl 3 rfl) ?_
      refine z_ci hW hS hA (va_runV (As := [.int a1, .int a2]) (rest := []) ⟨hx, hb, hml, hown, hts⟩ (sx_X12_inForce l G ad I J ⟨(by show 0 ≤ (I 0 13).toInt ∧ (I 0 13).toInt ≤ 12; exact hmb.1), (by show 0 ≤ (I 0 14).toInt ∧ (I 0 14).toInt ≤ 288; exact hmb.2)⟩ a1 a2 _) (cwV 2 hts gX12_number_X12_inForce rfl rfl rfl hy_X12_inForce ⟨Nat.le_of_ble_eq_true rfl, Nat.le_of_ble_eq_true rfl⟩) (z_preV (i := 0) hK hW rfl rfl) rfl rfl hl.1 rfl (lv_room (Nat.le_of_ble_eq_true rfl)) dX12_number_45 ⟨Nat.le_of_ble_eq_true rfl, Nat.le_of_ble_eq_true rfl⟩) (fun r u1 H locs hp hW hS => ?_)
      obtain ⟨e9, hp⟩ := hp
      rw [e9] at hW
      have hq := hp
      generalize r = x94 at hq ⊢
      have h95 := hq
      refine lv_istore (lv' := [(5, .int x94), (4, .int 1), (0, .ref (ad 0)), (1, .int a1), (2, .int a2), (3, .int a3)]) hx hb dX12_number_48 hl (by decide) rfl (fun ls hl => ?_)
      refine lv_iload hx hb dX12_number_50 (lv_at hl 0 rfl) ?_
      refine lv_if_ge (tgt := 58) hx hb dX12_number_52 (by decide) (fun c96 => ?_) (fun c96 => ?_)
      · have g97 := z_f_ge rfl z_l0 c96
        refine lv_aload_n hx hb dX12_number_58 rfl (lv_at hl 2 rfl) ?_
        refine z_get (T := TX12) (N := 96) (ci := 12) (i := 0) (v := .ref (ad 11)) hx hb hts zj_X12_number_X12 hown hK hW rfl rfl 16 (by decide) (hts (.fieldLink RX12 40 "PetrolBoardModel" "textFirst" "[I") (me_s (me_l (List.mem_of_getElem? (i := 0) rfl)))) (fun _ h => h) rfl dX12_number_59 ?_
        refine lv_iload hx hb dX12_number_62 (lv_at hl 0 rfl) ?_
        refine z_iald (i := 11) hx hb hK hW rfl (z_ix rfl (by omega) (by omega)) dX12_number_64 ?_
        refine lv_topi (fun x98 ex98 => ?_)
        have h99 : 0 ≤ x98.toInt ∧ x98.toInt ≤ 288 := by rw [ex98]; exact hAtf _
        refine lv_istore (lv' := [(6, .int x98), (5, .int x94), (4, .int 1), (0, .ref (ad 0)), (1, .int a1), (2, .int a2), (3, .int a3)]) hx hb dX12_number_65 hl (by decide) rfl (fun ls hl => ?_)
        have lp100 : ∀ (f : Nat) (y101 : Int32) (y102 : Int32) (H : Heap) (locs : List Loc) (ls : Array Slot), (2147483647 < y101.toInt + (f : Int)) → (0 ≤ y101.toInt) → (x98.toInt ≤ y101.toInt) → z_W G A (shM, ad, I, J, PM ad) H → va_S A s.heap H locs → lv_has ls 7 [(6, .int y101), (5, .int x94), (4, .int y102), (0, .ref (ad 0)), (1, .int a1), (2, .int a2), (3, .int a3)] → W p l e (headSpec wsX12_number { frames := 2, cells := 0, slots := 0, locals := 36 }).room s m ([.ref (ad 0), .int a1, .int a2, .int a3] : List Value).toArray below meth c0 H locs 0 0 (MQ below (va_Qi (fun (r : Int32) (u1 : z_U) => u1 = (shM, ad, I, J, PM ad)) (z_B G A) A) ([.ref (ad 0), .int a1, .int a2, .int a3] : List Value).toArray s 0 0 A) (F0 m 67 ls []) := by
          intro f
          induction f with
          | zero => intro y101 y102 H locs ls lp100m lp100l6 lp100z hW hS hl; exact absurd lp100m (by have := Int32.toInt_lt y101; have := Int32.le_toInt y101; omega)
          | succ f lp100ih =>
            intro y101 y102 H locs ls lp100m lp100l6 lp100z hW hS hl
            refine lv_iload hx hb dX12_number_67 (lv_at hl 0 rfl) ?_
            refine lv_aload_n hx hb dX12_number_69 rfl (lv_at hl 3 rfl) ?_
            refine z_get (T := TX12) (N := 96) (ci := 12) (i := 0) (v := .ref (ad 11)) hx hb hts zj_X12_number_X12 hown hK hW rfl rfl 16 (by decide) (hts (.fieldLink RX12 40 "PetrolBoardModel" "textFirst" "[I") (me_s (me_l (List.mem_of_getElem? (i := 0) rfl)))) (fun _ h => h) rfl dX12_number_70 ?_
            refine lv_iload hx hb dX12_number_73 (lv_at hl 1 rfl) ?_
            refine z_iald (i := 11) hx hb hK hW rfl (z_ix rfl (by omega) (by omega)) dX12_number_75 ?_
            refine z_topi (v := x98) ex98.symm ?_
            refine lv_aload_n hx hb dX12_number_76 rfl (lv_at hl 3 rfl) ?_
            refine z_get (T := TX12) (N := 96) (ci := 12) (i := 0) (v := .ref (ad 12)) hx hb hts zj_X12_number_X12 hown hK hW rfl rfl 17 (by decide) (hts (.fieldLink RX12 43 "PetrolBoardModel" "textMany" "[I") (me_s (me_l (List.mem_of_getElem? (i := 1) rfl)))) (fun _ h => h) rfl dX12_number_77 ?_
            refine lv_iload hx hb dX12_number_80 (lv_at hl 1 rfl) ?_
            refine z_iald (i := 12) hx hb hK hW rfl (z_ix rfl (by omega) (by omega)) dX12_number_82 ?_
            refine lv_topi (fun x103 ex103 => ?_)
            have h104 : 0 ≤ x103.toInt ∧ x103.toInt ≤ 24 := by rw [ex103]; exact hAtm _
            refine lv_iadd hx hb dX12_number_83 ?_
            refine lv_topi (fun x105 ex105 => ?_)
            have tx105 : x105.toInt = x98.toInt + x103.toInt := z_tadd ex105 rfl rfl (by omega) (by omega)
            refine lv_icmp_ge (tgt := 113) hx hb dX12_number_84 (by decide) (fun c106 => ?_) (fun c106 => ?_)
            · have g107 := z_f_ge rfl rfl c106
              have b108 := Int32.toInt_lt y101
              refine lv_iload hx hb dX12_number_113 (lv_at hl 2 rfl) ?_
              exact z_iret hx hb hr hK hS (Nat.le_of_ble_eq_true rfl) (Nat.le_of_ble_eq_true rfl) hlocks dX12_number_115 (shM, ad, I, J, PM ad) hW rfl
            · have g109 := z_f_nge rfl rfl c106
              have b110 := Int32.toInt_lt y101
              refine lv_aload_n hx hb dX12_number_87 rfl (lv_at hl 3 rfl) ?_
              refine z_get (T := TX12) (N := 96) (ci := 12) (i := 0) (v := .ref (ad 15)) hx hb hts zj_X12_number_X12 hown hK hW rfl rfl 20 (by decide) (hts (.fieldLink RX12 52 "PetrolBoardModel" "stRule" "[I") (me_s (me_l (List.mem_of_getElem? (i := 2) rfl)))) (fun _ h => h) rfl dX12_number_88 ?_
              refine lv_iload hx hb dX12_number_91 (lv_at hl 0 rfl) ?_
              refine z_iald (i := 15) hx hb hK hW rfl (z_ix rfl (by omega) (by omega)) dX12_number_93 ?_
              refine lv_topi (fun x111 ex111 => ?_)
              refine lv_iload_n hx hb dX12_number_94 rfl (lv_at hl 6 rfl) ?_
              refine lv_icmp_ne (tgt := 107) hx hb dX12_number_95 (by decide) (fun c112 => ?_) (fun c112 => ?_)
              · have g113 := z_f_ne rfl rfl c112
                have b114 := Int32.toInt_lt x111
                obtain ⟨x115, ex115⟩ : ∃ y : Int32, y = y101 + 1 := ⟨_, rfl⟩
                have tx115 : x115.toInt = y101.toInt + 1 := z_tadd ex115 rfl z_l1 (by omega) (by omega)
                refine lv_iinc (v := x115) (lv' := [(6, .int x115), (5, .int x94), (4, .int y102), (0, .ref (ad 0)), (1, .int a1), (2, .int a2), (3, .int a3)]) hx hb dX12_number_107 hl (k := 0) rfl (by rw [ex115]; rfl) (by decide) rfl (fun ls hl => ?_)
                refine lv_goto (tgt := 67) hx hb dX12_number_110 (by decide) ?_
                exact lp100ih x115 y102 _ _ _ (by omega) (by omega) (by omega) hW hS (lv_sub hl [0, 1, 2, 3, 4, 5, 6] rfl)
              · have g116 := z_f_eq rfl rfl c112
                have b117 := Int32.toInt_lt x111
                refine lv_aload_n hx hb dX12_number_98 rfl (lv_at hl 3 rfl) ?_
                refine z_get (T := TX12) (N := 96) (ci := 12) (i := 0) (v := .ref (ad 16)) hx hb hts zj_X12_number_X12 hown hK hW rfl rfl 21 (by decide) (hts (.fieldLink RX12 55 "PetrolBoardModel" "stNumber" "[I") (me_s (me_l (List.mem_of_getElem? (i := 3) rfl)))) (fun _ h => h) rfl dX12_number_99 ?_
                refine lv_iload hx hb dX12_number_102 (lv_at hl 0 rfl) ?_
                refine z_iald (i := 16) hx hb hK hW rfl (z_ix rfl (by omega) (by omega)) dX12_number_104 ?_
                refine lv_topi (fun x118 ex118 => ?_)
                refine lv_istore (lv' := [(4, .int x118), (6, .int y101), (5, .int x94), (0, .ref (ad 0)), (1, .int a1), (2, .int a2), (3, .int a3)]) hx hb dX12_number_105 hl (by decide) rfl (fun ls hl => ?_)
                obtain ⟨x119, ex119⟩ : ∃ y : Int32, y = y101 + 1 := ⟨_, rfl⟩
                have tx119 : x119.toInt = y101.toInt + 1 := z_tadd ex119 rfl z_l1 (by omega) (by omega)
                refine lv_iinc (v := x119) (lv' := [(6, .int x119), (4, .int x118), (5, .int x94), (0, .ref (ad 0)), (1, .int a1), (2, .int a2), (3, .int a3)]) hx hb dX12_number_107 hl (k := 1) rfl (by rw [ex119]; rfl) (by decide) rfl (fun ls hl => ?_)
                refine lv_goto (tgt := 67) hx hb dX12_number_110 (by decide) ?_
                exact lp100ih x119 x118 _ _ _ (by omega) (by omega) (by omega) hW hS (lv_sub hl [0, 2, 1, 3, 4, 5, 6] rfl)
        exact lp100 4294967296 x98 (1) _ _ _ (z_m0u _) (by omega) (by omega) hW hS (lv_sub hl [0, 1, 2, 3, 4, 5, 6] rfl)
      · have g120 := z_f_nge rfl z_l0 c96
        refine lv_iload hx hb dX12_number_55 (lv_at hl 1 rfl) ?_
        exact z_iret hx hb hr hK hS (Nat.le_of_ble_eq_true rfl) (Nat.le_of_ble_eq_true rfl) hlocks dX12_number_57 (shM, ad, I, J, PM ad) hW rfl
  · have g121 := z_f_eq rfl z_l3 c1
    have b122 := Int32.toInt_lt a3
    refine lv_bipush (v := 10) hx hb dX12_number_5 (by decide) ?_
    refine lv_goto (tgt := 40) hx hb dX12_number_7 (by decide) ?_
    refine lv_istore (lv' := [(4, .int 10), (0, .ref (ad 0)), (1, .int a1), (2, .int a2), (3, .int a3)]) hx hb dX12_number_40 hl (by decide) rfl (fun ls hl => ?_)
    refine lv_aload_n hx hb dX12_number_42 rfl (lv_at hl 1 rfl) ?_
    refine lv_iload_n hx hb dX12_number_43 rfl (lv_at hl 2 rfl) ?_
    refine lv_iload_n hx hb dX12_number_44 rfl (lv_at hl 3 rfl) ?_
    refine z_ci hW hS hA (va_runV (As := [.int a1, .int a2]) (rest := []) ⟨hx, hb, hml, hown, hts⟩ (sx_X12_inForce l G ad I J ⟨(by show 0 ≤ (I 0 13).toInt ∧ (I 0 13).toInt ≤ 12; exact hmb.1), (by show 0 ≤ (I 0 14).toInt ∧ (I 0 14).toInt ≤ 288; exact hmb.2)⟩ a1 a2 _) (cwV 2 hts gX12_number_X12_inForce rfl rfl rfl hy_X12_inForce ⟨Nat.le_of_ble_eq_true rfl, Nat.le_of_ble_eq_true rfl⟩) (z_preV (i := 0) hK hW rfl rfl) rfl rfl hl.1 rfl (lv_room (Nat.le_of_ble_eq_true rfl)) dX12_number_45 ⟨Nat.le_of_ble_eq_true rfl, Nat.le_of_ble_eq_true rfl⟩) (fun r u1 H locs hp hW hS => ?_)
    obtain ⟨e9, hp⟩ := hp
    rw [e9] at hW
    have hq := hp
    generalize r = x123 at hq ⊢
    have h124 := hq
    refine lv_istore (lv' := [(5, .int x123), (4, .int 10), (0, .ref (ad 0)), (1, .int a1), (2, .int a2), (3, .int a3)]) hx hb dX12_number_48 hl (by decide) rfl (fun ls hl => ?_)
    refine lv_iload hx hb dX12_number_50 (lv_at hl 0 rfl) ?_
    refine lv_if_ge (tgt := 58) hx hb dX12_number_52 (by decide) (fun c125 => ?_) (fun c125 => ?_)
    · have g126 := z_f_ge rfl z_l0 c125
      refine lv_aload_n hx hb dX12_number_58 rfl (lv_at hl 2 rfl) ?_
      refine z_get (T := TX12) (N := 96) (ci := 12) (i := 0) (v := .ref (ad 11)) hx hb hts zj_X12_number_X12 hown hK hW rfl rfl 16 (by decide) (hts (.fieldLink RX12 40 "PetrolBoardModel" "textFirst" "[I") (me_s (me_l (List.mem_of_getElem? (i := 0) rfl)))) (fun _ h => h) rfl dX12_number_59 ?_
      refine lv_iload hx hb dX12_number_62 (lv_at hl 0 rfl) ?_
      refine z_iald (i := 11) hx hb hK hW rfl (z_ix rfl (by omega) (by omega)) dX12_number_64 ?_
      refine lv_topi (fun x127 ex127 => ?_)
      have h128 : 0 ≤ x127.toInt ∧ x127.toInt ≤ 288 := by rw [ex127]; exact hAtf _
      refine lv_istore (lv' := [(6, .int x127), (5, .int x123), (4, .int 10), (0, .ref (ad 0)), (1, .int a1), (2, .int a2), (3, .int a3)]) hx hb dX12_number_65 hl (by decide) rfl (fun ls hl => ?_)
      have lp129 : ∀ (f : Nat) (y130 : Int32) (y131 : Int32) (H : Heap) (locs : List Loc) (ls : Array Slot), (2147483647 < y130.toInt + (f : Int)) → (0 ≤ y130.toInt) → (x127.toInt ≤ y130.toInt) → z_W G A (shM, ad, I, J, PM ad) H → va_S A s.heap H locs → lv_has ls 7 [(6, .int y130), (5, .int x123), (4, .int y131), (0, .ref (ad 0)), (1, .int a1), (2, .int a2), (3, .int a3)] → W p l e (headSpec wsX12_number { frames := 2, cells := 0, slots := 0, locals := 36 }).room s m ([.ref (ad 0), .int a1, .int a2, .int a3] : List Value).toArray below meth c0 H locs 0 0 (MQ below (va_Qi (fun (r : Int32) (u1 : z_U) => u1 = (shM, ad, I, J, PM ad)) (z_B G A) A) ([.ref (ad 0), .int a1, .int a2, .int a3] : List Value).toArray s 0 0 A) (F0 m 67 ls []) := by
        intro f
        induction f with
        | zero => intro y130 y131 H locs ls lp129m lp129l6 lp129z hW hS hl; exact absurd lp129m (by have := Int32.toInt_lt y130; have := Int32.le_toInt y130; omega)
        | succ f lp129ih =>
          intro y130 y131 H locs ls lp129m lp129l6 lp129z hW hS hl
          refine lv_iload hx hb dX12_number_67 (lv_at hl 0 rfl) ?_
          refine lv_aload_n hx hb dX12_number_69 rfl (lv_at hl 3 rfl) ?_
          refine z_get (T := TX12) (N := 96) (ci := 12) (i := 0) (v := .ref (ad 11)) hx hb hts zj_X12_number_X12 hown hK hW rfl rfl 16 (by decide) (hts (.fieldLink RX12 40 "PetrolBoardModel" "textFirst" "[I") (me_s (me_l (List.mem_of_getElem? (i := 0) rfl)))) (fun _ h => h) rfl dX12_number_70 ?_
          refine lv_iload hx hb dX12_number_73 (lv_at hl 1 rfl) ?_
          refine z_iald (i := 11) hx hb hK hW rfl (z_ix rfl (by omega) (by omega)) dX12_number_75 ?_
          refine z_topi (v := x127) ex127.symm ?_
          refine lv_aload_n hx hb dX12_number_76 rfl (lv_at hl 3 rfl) ?_
          refine z_get (T := TX12) (N := 96) (ci := 12) (i := 0) (v := .ref (ad 12)) hx hb hts zj_X12_number_X12 hown hK hW rfl rfl 17 (by decide) (hts (.fieldLink RX12 43 "PetrolBoardModel" "textMany" "[I") (me_s (me_l (List.mem_of_getElem? (i := 1) rfl)))) (fun _ h => h) rfl dX12_number_77 ?_
          refine lv_iload hx hb dX12_number_80 (lv_at hl 1 rfl) ?_
          refine z_iald (i := 12) hx hb hK hW rfl (z_ix rfl (by omega) (by omega)) dX12_number_82 ?_
          refine lv_topi (fun x132 ex132 => ?_)
          have h133 : 0 ≤ x132.toInt ∧ x132.toInt ≤ 24 := by rw [ex132]; exact hAtm _
          refine lv_iadd hx hb dX12_number_83 ?_
          refine lv_topi (fun x134 ex134 => ?_)
          have tx134 : x134.toInt = x127.toInt + x132.toInt := z_tadd ex134 rfl rfl (by omega) (by omega)
          refine lv_icmp_ge (tgt := 113) hx hb dX12_number_84 (by decide) (fun c135 => ?_) (fun c135 => ?_)
          · have g136 := z_f_ge rfl rfl c135
            have b137 := Int32.toInt_lt y130
            refine lv_iload hx hb dX12_number_113 (lv_at hl 2 rfl) ?_
            exact z_iret hx hb hr hK hS (Nat.le_of_ble_eq_true rfl) (Nat.le_of_ble_eq_true rfl) hlocks dX12_number_115 (shM, ad, I, J, PM ad) hW rfl
          · have g138 := z_f_nge rfl rfl c135
            have b139 := Int32.toInt_lt y130
            refine lv_aload_n hx hb dX12_number_87 rfl (lv_at hl 3 rfl) ?_
            refine z_get (T := TX12) (N := 96) (ci := 12) (i := 0) (v := .ref (ad 15)) hx hb hts zj_X12_number_X12 hown hK hW rfl rfl 20 (by decide) (hts (.fieldLink RX12 52 "PetrolBoardModel" "stRule" "[I") (me_s (me_l (List.mem_of_getElem? (i := 2) rfl)))) (fun _ h => h) rfl dX12_number_88 ?_
            refine lv_iload hx hb dX12_number_91 (lv_at hl 0 rfl) ?_
            refine z_iald (i := 15) hx hb hK hW rfl (z_ix rfl (by omega) (by omega)) dX12_number_93 ?_
            refine lv_topi (fun x140 ex140 => ?_)
            refine lv_iload_n hx hb dX12_number_94 rfl (lv_at hl 6 rfl) ?_
            refine lv_icmp_ne (tgt := 107) hx hb dX12_number_95 (by decide) (fun c141 => ?_) (fun c141 => ?_)
            · have g142 := z_f_ne rfl rfl c141
              have b143 := Int32.toInt_lt x140
              obtain ⟨x144, ex144⟩ : ∃ y : Int32, y = y130 + 1 := ⟨_, rfl⟩
              have tx144 : x144.toInt = y130.toInt + 1 := z_tadd ex144 rfl z_l1 (by omega) (by omega)
              refine lv_iinc (v := x144) (lv' := [(6, .int x144), (5, .int x123), (4, .int y131), (0, .ref (ad 0)), (1, .int a1), (2, .int a2), (3, .int a3)]) hx hb dX12_number_107 hl (k := 0) rfl (by rw [ex144]; rfl) (by decide) rfl (fun ls hl => ?_)
              refine lv_goto (tgt := 67) hx hb dX12_number_110 (by decide) ?_
              exact lp129ih x144 y131 _ _ _ (by omega) (by omega) (by omega) hW hS (lv_sub hl [0, 1, 2, 3, 4, 5, 6] rfl)
            · have g145 := z_f_eq rfl rfl c141
              have b146 := Int32.toInt_lt x140
              refine lv_aload_n hx hb dX12_number_98 rfl (lv_at hl 3 rfl) ?_
              refine z_get (T := TX12) (N := 96) (ci := 12) (i := 0) (v := .ref (ad 16)) hx hb hts zj_X12_number_X12 hown hK hW rfl rfl 21 (by decide) (hts (.fieldLink RX12 55 "PetrolBoardModel" "stNumber" "[I") (me_s (me_l (List.mem_of_getElem? (i := 3) rfl)))) (fun _ h => h) rfl dX12_number_99 ?_
              refine lv_iload hx hb dX12_number_102 (lv_at hl 0 rfl) ?_
              refine z_iald (i := 16) hx hb hK hW rfl (z_ix rfl (by omega) (by omega)) dX12_number_104 ?_
              refine lv_topi (fun x147 ex147 => ?_)
              refine lv_istore (lv' := [(4, .int x147), (6, .int y130), (5, .int x123), (0, .ref (ad 0)), (1, .int a1), (2, .int a2), (3, .int a3)]) hx hb dX12_number_105 hl (by decide) rfl (fun ls hl => ?_)
              obtain ⟨x148, ex148⟩ : ∃ y : Int32, y = y130 + 1 := ⟨_, rfl⟩
              have tx148 : x148.toInt = y130.toInt + 1 := z_tadd ex148 rfl z_l1 (by omega) (by omega)
              refine lv_iinc (v := x148) (lv' := [(6, .int x148), (4, .int x147), (5, .int x123), (0, .ref (ad 0)), (1, .int a1), (2, .int a2), (3, .int a3)]) hx hb dX12_number_107 hl (k := 1) rfl (by rw [ex148]; rfl) (by decide) rfl (fun ls hl => ?_)
              refine lv_goto (tgt := 67) hx hb dX12_number_110 (by decide) ?_
              exact lp129ih x148 x147 _ _ _ (by omega) (by omega) (by omega) hW hS (lv_sub hl [0, 2, 1, 3, 4, 5, 6] rfl)
      exact lp129 4294967296 x127 (10) _ _ _ (z_m0u _) (by omega) (by omega) hW hS (lv_sub hl [0, 1, 2, 3, 4, 5, 6] rfl)
    · have g149 := z_f_nge rfl z_l0 c125
      refine lv_iload hx hb dX12_number_55 (lv_at hl 1 rfl) ?_
      exact z_iret hx hb hr hK hS (Nat.le_of_ble_eq_true rfl) (Nat.le_of_ble_eq_true rfl) hlocks dX12_number_57 (shM, ad, I, J, PM ad) hW rfl
set_option maxHeartbeats 8000000 in
set_option maxRecDepth 100000 in
theorem sx_X12_rule (l : Launch) (G : z_G) (ad : Nat → Nat) (I : z_I) (J : z_J) (hmb : z_imb I) (hAtf : z_rg 11 0 288 I) (hAtm : z_rg 12 0 24 I) (a1 : Int32) (a2 : Int32) (a3 : Int32) : z_M l yX12_rule wsX12_rule { frames := 3, cells := 0, slots := 0, locals := 62 } [.ref (ad 0), .int a1, .int a2, .int a3] G (shM, ad, I, J, PM ad) (fun r u1 => u1 = (shM, ad, I, J, PM ad)) 0 0 := by
  intro sz
  refine z_headQ (cc := cX12_rule) (maxL := 4) (ret := (some .int)) (by decide) rfl (Nat.le_of_ble_eq_true rfl) ?_
  intro p e s m below meth c0 ls hIn hK hsz hW hl
  obtain ⟨hx, hb, hr, hml, hown, hts, hlocks, hname⟩ := hIn
  subst hsz
  have hown : s.vm.findClass RX12 = some m.cls := hown
  have hA : ∀ q : Nat, s.heap.size ≤ q → z_A (shM, ad, I, J, PM ad) s.heap.size q := fun q h => Or.inr h
  generalize hAe : z_A (shM, ad, I, J, PM ad) s.heap.size = A at *
  have hS : va_S A s.heap s.heap [] := va_S.rf
  have hl : lv_has ls 4 [(0, .ref (ad 0)), (1, .int a1), (2, .int a2), (3, .int a3)] := hl
  refine lv_iload_n hx hb dX12_rule_0 rfl (lv_at hl 1 rfl) ?_
  refine z_ci hW hS hA (va_runS (As := [.int a1]) (rest := []) ⟨hx, hb, hml, hown, hts⟩ (sx_X12_isMonth l G ad I J  a1 _) (va_cwS 1 hts gX12_rule_X12_isMonth rfl rfl rfl hy_X12_isMonth.2 ⟨Nat.le_of_ble_eq_true rfl, Nat.le_of_ble_eq_true rfl⟩) (z_preS hK hW) rfl rfl hl.1 rfl (lv_room (Nat.le_of_ble_eq_true rfl)) dX12_rule_1 ⟨Nat.le_of_ble_eq_true rfl, Nat.le_of_ble_eq_true rfl⟩) (fun r u1 H locs hp hW hS => ?_)
  obtain ⟨e9, hp⟩ := hp
  rw [e9] at hW
  rcases hp with ⟨rfl, h1, h2⟩ | rfl
  · refine lv_if_eq (tgt := 14) hx hb dX12_rule_4 (by decide) (fun c3 => absurd c3 (by decide)) (fun c3 => ?_)
    refine lv_iload_n hx hb dX12_rule_7 rfl (lv_at hl 2 rfl) ?_
    refine z_ci hW hS hA (va_runS (As := [.int a2]) (rest := []) ⟨hx, hb, hml, hown, hts⟩ (sx_X12_isDay l G ad I J  a2 _) (va_cwS 1 hts gX12_rule_X12_isDay rfl rfl rfl hy_X12_isDay.2 ⟨Nat.le_of_ble_eq_true rfl, Nat.le_of_ble_eq_true rfl⟩) (z_preS hK hW) rfl rfl hl.1 rfl (lv_room (Nat.le_of_ble_eq_true rfl)) dX12_rule_8 ⟨Nat.le_of_ble_eq_true rfl, Nat.le_of_ble_eq_true rfl⟩) (fun r u1 H locs hp hW hS => ?_)
    obtain ⟨e9, hp⟩ := hp
    rw [e9] at hW
    rcases hp with ⟨rfl, h4, h5⟩ | rfl
    · refine lv_if_ne (tgt := 18) hx hb dX12_rule_11 (by decide) (fun c6 => ?_) (fun c6 => absurd c6 (by decide))
      refine lv_iload_n hx hb dX12_rule_18 rfl (lv_at hl 3 rfl) ?_
      refine lv_iconst (v := 5) hx hb dX12_rule_19 (by decide) ?_
      refine lv_icmp_ne (tgt := 32) hx hb dX12_rule_20 (by decide) (fun c7 => ?_) (fun c7 => ?_)
      · have g8 := z_f_ne rfl z_l5 c7
        have b9 := Int32.toInt_lt a3
        refine lv_iload_n hx hb dX12_rule_32 rfl (lv_at hl 3 rfl) ?_
        refine lv_iconst (v := 0) hx hb dX12_rule_33 (by decide) ?_
        refine lv_iconst (v := 4) hx hb dX12_rule_34 (by decide) ?_
        refine z_ci hW hS hA (va_runS (As := [.int a3, .int 0, .int 4]) (rest := []) ⟨hx, hb, hml, hown, hts⟩ (sx_X12_within l G ad I J  a3 0 4 _) (va_cwS 3 hts gX12_rule_X12_within rfl rfl rfl hy_X12_within.2 ⟨Nat.le_of_ble_eq_true rfl, Nat.le_of_ble_eq_true rfl⟩) (z_preS hK hW) rfl rfl hl.1 rfl (lv_room (Nat.le_of_ble_eq_true rfl)) dX12_rule_35 ⟨Nat.le_of_ble_eq_true rfl, Nat.le_of_ble_eq_true rfl⟩) (fun r u1 H locs hp hW hS => ?_)
        obtain ⟨e9, hp⟩ := hp
        rw [e9] at hW
        rcases hp with ⟨rfl, h11, h12⟩ | rfl
        · have h11 := z_t_le z_l0 rfl h11
          have h12 := z_t_le rfl z_l4 h12
          refine lv_if_eq (tgt := 53) hx hb dX12_rule_38 (by decide) (fun c13 => absurd c13 (by decide)) (fun c13 => ?_)
          refine lv_aload_n hx hb dX12_rule_41 rfl (lv_at hl 0 rfl) ?_
          refine lv_iload_n hx hb dX12_rule_42 rfl (lv_at hl 1 rfl) ?_
          refine lv_iload_n hx hb dX12_rule_43 rfl (lv_at hl 2 rfl) ?_
          refine lv_iconst (v := 3) hx hb dX12_rule_44 (by decide) ?_
          refine lv_iload_n hx hb dX12_rule_45 rfl (lv_at hl 3 rfl) ?_
          refine lv_iadd hx hb dX12_rule_46 ?_
          refine lv_topi (fun x14 ex14 => ?_)
          have tx14 : x14.toInt = 3 + a3.toInt := z_tadd ex14 z_l3 rfl (by omega) (by omega)
          refine z_ci hW hS hA (va_runV (As := [.int a1, .int a2, .int x14]) (rest := []) ⟨hx, hb, hml, hown, hts⟩ (sx_X12_number l G ad I J ⟨(by show 0 ≤ (I 0 13).toInt ∧ (I 0 13).toInt ≤ 12; exact hmb.1), (by show 0 ≤ (I 0 14).toInt ∧ (I 0 14).toInt ≤ 288; exact hmb.2)⟩ hAtf hAtm a1 a2 x14 _) (cwV 3 hts gX12_rule_X12_number rfl rfl rfl hy_X12_number ⟨Nat.le_of_ble_eq_true rfl, Nat.le_of_ble_eq_true rfl⟩) (z_preV (i := 0) hK hW rfl rfl) rfl rfl hl.1 rfl (lv_room (Nat.le_of_ble_eq_true rfl)) dX12_rule_47 ⟨Nat.le_of_ble_eq_true rfl, Nat.le_of_ble_eq_true rfl⟩) (fun r u1 H locs hp hW hS => ?_)
          rw [hp] at hW
          refine lv_topi (fun x15 ex15 => ?_)
          refine lv_goto (tgt := 54) hx hb dX12_rule_50 (by decide) ?_
          exact z_iret hx hb hr hK hS (Nat.le_of_ble_eq_true rfl) (Nat.le_of_ble_eq_true rfl) hlocks dX12_rule_54 (shM, ad, I, J, PM ad) hW rfl
        · refine lv_if_eq (tgt := 53) hx hb dX12_rule_38 (by decide) (fun c16 => ?_) (fun c16 => absurd (by decide) c16)
          refine lv_iconst (v := (-1)) hx hb dX12_rule_53 (by decide) ?_
          exact z_iret hx hb hr hK hS (Nat.le_of_ble_eq_true rfl) (Nat.le_of_ble_eq_true rfl) hlocks dX12_rule_54 (shM, ad, I, J, PM ad) hW rfl
      · have g17 := z_f_eq rfl z_l5 c7
        have b18 := Int32.toInt_lt a3
        refine lv_aload_n hx hb dX12_rule_23 rfl (lv_at hl 0 rfl) ?_
        refine lv_iload_n hx hb dX12_rule_24 rfl (lv_at hl 1 rfl) ?_
        refine lv_iload_n hx hb dX12_rule_25 rfl (lv_at hl 2 rfl) ?_
        refine z_ci hW hS hA (va_runV (As := [.int a1, .int a2]) (rest := []) ⟨hx, hb, hml, hown, hts⟩ (sx_X12_inForce l G ad I J ⟨(by show 0 ≤ (I 0 13).toInt ∧ (I 0 13).toInt ≤ 12; exact hmb.1), (by show 0 ≤ (I 0 14).toInt ∧ (I 0 14).toInt ≤ 288; exact hmb.2)⟩ a1 a2 _) (cwV 2 hts gX12_rule_X12_inForce rfl rfl rfl hy_X12_inForce ⟨Nat.le_of_ble_eq_true rfl, Nat.le_of_ble_eq_true rfl⟩) (z_preV (i := 0) hK hW rfl rfl) rfl rfl hl.1 rfl (lv_room (Nat.le_of_ble_eq_true rfl)) dX12_rule_26 ⟨Nat.le_of_ble_eq_true rfl, Nat.le_of_ble_eq_true rfl⟩) (fun r u1 H locs hp hW hS => ?_)
        obtain ⟨e9, hp⟩ := hp
        rw [e9] at hW
        have hq := hp
        generalize r = x19 at hq ⊢
        have h20 := hq
        refine lv_goto (tgt := 54) hx hb dX12_rule_29 (by decide) ?_
        exact z_iret hx hb hr hK hS (Nat.le_of_ble_eq_true rfl) (Nat.le_of_ble_eq_true rfl) hlocks dX12_rule_54 (shM, ad, I, J, PM ad) hW rfl
    · refine lv_if_ne (tgt := 18) hx hb dX12_rule_11 (by decide) (fun c21 => absurd (by decide) c21) (fun c21 => ?_)
      refine lv_iconst (v := (-1)) hx hb dX12_rule_14 (by decide) ?_
      refine lv_goto (tgt := 54) hx hb dX12_rule_15 (by decide) ?_
      exact z_iret hx hb hr hK hS (Nat.le_of_ble_eq_true rfl) (Nat.le_of_ble_eq_true rfl) hlocks dX12_rule_54 (shM, ad, I, J, PM ad) hW rfl
  · refine lv_if_eq (tgt := 14) hx hb dX12_rule_4 (by decide) (fun c22 => ?_) (fun c22 => absurd (by decide) c22)
    refine lv_iconst (v := (-1)) hx hb dX12_rule_14 (by decide) ?_
    refine lv_goto (tgt := 54) hx hb dX12_rule_15 (by decide) ?_
    exact z_iret hx hb hr hK hS (Nat.le_of_ble_eq_true rfl) (Nat.le_of_ble_eq_true rfl) hlocks dX12_rule_54 (shM, ad, I, J, PM ad) hW rfl
theorem zj_X12_isCoupon_X12 : ∀ w ∈ wsX120, w ∈ wsX12_isCoupon := fun w h => (List.mem_cons_of_mem _ (List.mem_append_right _ h))
set_option maxHeartbeats 8000000 in
set_option maxRecDepth 100000 in
theorem sx_X12_isCoupon (l : Launch) (G : z_G) (ad : Nat → Nat) (I : z_I) (J : z_J) (a1 : Int32) : z_M l yX12_isCoupon wsX12_isCoupon { frames := 1, cells := 0, slots := 0, locals := 12 } [.ref (ad 0), .int a1] G (shM, ad, I, J, PM ad) (fun r u1 => u1 = (shM, ad, I, J, PM ad) ∧ (r = 1 ∧ 0 ≤ a1.toInt ∧ a1.toInt ≤ 71999 ∨ r = 0)) 0 0 := by
  intro sz
  refine z_headQ (cc := cX12_isCoupon) (maxL := 2) (ret := (some .boolean)) (by decide) rfl (Nat.le_of_ble_eq_true rfl) ?_
  intro p e s m below meth c0 ls hIn hK hsz hW hl
  obtain ⟨hx, hb, hr, hml, hown, hts, hlocks, hname⟩ := hIn
  subst hsz
  have hown : s.vm.findClass RX12 = some m.cls := hown
  have hA : ∀ q : Nat, s.heap.size ≤ q → z_A (shM, ad, I, J, PM ad) s.heap.size q := fun q h => Or.inr h
  generalize hAe : z_A (shM, ad, I, J, PM ad) s.heap.size = A at *
  have hS : va_S A s.heap s.heap [] := va_S.rf
  have hl : lv_has ls 2 [(0, .ref (ad 0)), (1, .int a1)] := hl
  refine lv_iload_n hx hb dX12_isCoupon_0 rfl (lv_at hl 1 rfl) ?_
  refine lv_if_lt (tgt := 32) hx hb dX12_isCoupon_1 (by decide) (fun c1 => ?_) (fun c1 => ?_)
  · have g2 := z_f_lt rfl z_l0 c1
    have b3 := Int32.toInt_lt a1
    refine lv_iconst (v := 0) hx hb dX12_isCoupon_32 (by decide) ?_
    exact z_zret hx hb hr (by decide) hK hS (Nat.le_of_ble_eq_true rfl) (Nat.le_of_ble_eq_true rfl) hlocks dX12_isCoupon_33 (shM, ad, I, J, PM ad) hW ⟨rfl, Or.inr rfl⟩
  · have g4 := z_f_nlt rfl z_l0 c1
    have b5 := Int32.toInt_lt a1
    refine lv_iload_n hx hb dX12_isCoupon_4 rfl (lv_at hl 1 rfl) ?_
    refine lv_ldc (v := 72000) hx hb hown (hts (.constant RX12 109 (72000)) (me_s (me_l (List.mem_of_getElem? (i := 0) rfl)))) dX12_isCoupon_5 ?_
    refine lv_icmp_ge (tgt := 32) hx hb dX12_isCoupon_7 (by decide) (fun c6 => ?_) (fun c6 => ?_)
    · have g7 := z_f_ge rfl z_l72000 c6
      refine lv_iconst (v := 0) hx hb dX12_isCoupon_32 (by decide) ?_
      exact z_zret hx hb hr (by decide) hK hS (Nat.le_of_ble_eq_true rfl) (Nat.le_of_ble_eq_true rfl) hlocks dX12_isCoupon_33 (shM, ad, I, J, PM ad) hW ⟨rfl, Or.inr rfl⟩
    · have g8 := z_f_nge rfl z_l72000 c6
      refine lv_aload_n hx hb dX12_isCoupon_10 rfl (lv_at hl 0 rfl) ?_
      refine z_get (T := TX12) (N := 96) (ci := 12) (i := 0) (v := .ref (ad 31)) hx hb hts zj_X12_isCoupon_X12 hown hK hW rfl rfl 49 (by decide) (hts (.fieldLink RX12 106 "PetrolBoardModel" "issued" "[I") (me_s (me_l (List.mem_of_getElem? (i := 1) rfl)))) (fun _ h => h) rfl dX12_isCoupon_11 ?_
      refine lv_iload_n hx hb dX12_isCoupon_14 rfl (lv_at hl 1 rfl) ?_
      refine lv_bipush (v := 100) hx hb dX12_isCoupon_15 (by decide) ?_
      refine lv_idiv hx hb dX12_isCoupon_17 (by decide) ?_
      refine lv_topi (fun x9 ex9 => ?_)
      have tx9 := z_tdiv ex9 rfl z_l100 (by decide)
      refine z_iald (i := 31) hx hb hK hW rfl (z_ix rfl (by omega) (by omega)) dX12_isCoupon_18 ?_
      refine lv_topi (fun x10 ex10 => ?_)
      refine lv_iconst (v := 1) hx hb dX12_isCoupon_19 (by decide) ?_
      refine lv_isub hx hb dX12_isCoupon_20 ?_
      refine lv_topi (fun x11 ex11 => ?_)
      refine lv_iload_n hx hb dX12_isCoupon_21 rfl (lv_at hl 1 rfl) ?_
      refine lv_bipush (v := 100) hx hb dX12_isCoupon_22 (by decide) ?_
      refine lv_irem hx hb dX12_isCoupon_24 (by decide) ?_
      refine lv_topi (fun x12 ex12 => ?_)
      have tx12 := z_trem ex12 rfl z_l100 (by decide)
      refine lv_icmp_le (tgt := 32) hx hb dX12_isCoupon_25 (by decide) (fun c13 => ?_) (fun c13 => ?_)
      · have g14 := z_f_le rfl rfl c13
        have b15 := Int32.toInt_lt x11
        refine lv_iconst (v := 0) hx hb dX12_isCoupon_32 (by decide) ?_
        exact z_zret hx hb hr (by decide) hK hS (Nat.le_of_ble_eq_true rfl) (Nat.le_of_ble_eq_true rfl) hlocks dX12_isCoupon_33 (shM, ad, I, J, PM ad) hW ⟨rfl, Or.inr rfl⟩
      · have g16 := z_f_nle rfl rfl c13
        have b17 := Int32.toInt_lt x11
        refine lv_iconst (v := 1) hx hb dX12_isCoupon_28 (by decide) ?_
        refine lv_goto (tgt := 33) hx hb dX12_isCoupon_29 (by decide) ?_
        exact z_zret hx hb hr (by decide) hK hS (Nat.le_of_ble_eq_true rfl) (Nat.le_of_ble_eq_true rfl) hlocks dX12_isCoupon_33 (shM, ad, I, J, PM ad) hW ⟨rfl, Or.inl ⟨rfl, (by omega), (by omega)⟩⟩
theorem zj_X12_heldBy_X12 : ∀ w ∈ wsX120, w ∈ wsX12_heldBy := fun w h => (List.mem_cons_of_mem _ (List.mem_append_right _ h))
set_option maxHeartbeats 8000000 in
set_option maxRecDepth 100000 in
theorem sx_X12_heldBy (l : Launch) (G : z_G) (ad : Nat → Nat) (I : z_I) (J : z_J) (a1 : Int32) (h1 : 0 ≤ a1.toInt ∧ a1.toInt ≤ 71999) : z_M l yX12_heldBy wsX12_heldBy { frames := 1, cells := 0, slots := 0, locals := 12 } [.ref (ad 0), .int a1] G (shM, ad, I, J, PM ad) (fun r u1 => u1 = (shM, ad, I, J, PM ad)) 0 0 := by
  intro sz
  refine z_headQ (cc := cX12_heldBy) (maxL := 2) (ret := (some .int)) (by decide) rfl (Nat.le_of_ble_eq_true rfl) ?_
  intro p e s m below meth c0 ls hIn hK hsz hW hl
  obtain ⟨hx, hb, hr, hml, hown, hts, hlocks, hname⟩ := hIn
  subst hsz
  have hown : s.vm.findClass RX12 = some m.cls := hown
  have hA : ∀ q : Nat, s.heap.size ≤ q → z_A (shM, ad, I, J, PM ad) s.heap.size q := fun q h => Or.inr h
  generalize hAe : z_A (shM, ad, I, J, PM ad) s.heap.size = A at *
  have hS : va_S A s.heap s.heap [] := va_S.rf
  have hl : lv_has ls 2 [(0, .ref (ad 0)), (1, .int a1)] := hl
  refine lv_aload_n hx hb dX12_heldBy_0 rfl (lv_at hl 0 rfl) ?_
  refine z_get (T := TX12) (N := 96) (ci := 12) (i := 0) (v := .ref (ad 32)) hx hb hts zj_X12_heldBy_X12 hown hK hW rfl rfl 52 (by decide) (hts (.fieldLink RX12 110 "PetrolBoardModel" "lentTo" "[I") (me_s (me_l (List.mem_of_getElem? (i := 0) rfl)))) (fun _ h => h) rfl dX12_heldBy_1 ?_
  refine lv_iload_n hx hb dX12_heldBy_4 rfl (lv_at hl 1 rfl) ?_
  refine z_iald (i := 32) hx hb hK hW rfl (z_ix rfl (by omega) (by omega)) dX12_heldBy_5 ?_
  refine lv_topi (fun x1 ex1 => ?_)
  refine lv_if_le (tgt := 20) hx hb dX12_heldBy_6 (by decide) (fun c2 => ?_) (fun c2 => ?_)
  · have g3 := z_f_le rfl z_l0 c2
    have b4 := Int32.toInt_lt x1
    refine lv_iload_n hx hb dX12_heldBy_20 rfl (lv_at hl 1 rfl) ?_
    refine lv_sipush (v := 2400) hx hb dX12_heldBy_21 (by decide) ?_
    refine lv_idiv hx hb dX12_heldBy_24 (by decide) ?_
    refine lv_topi (fun x5 ex5 => ?_)
    have tx5 := z_tdiv ex5 rfl z_l2400 (by decide)
    exact z_iret hx hb hr hK hS (Nat.le_of_ble_eq_true rfl) (Nat.le_of_ble_eq_true rfl) hlocks dX12_heldBy_25 (shM, ad, I, J, PM ad) hW rfl
  · have g6 := z_f_nle rfl z_l0 c2
    have b7 := Int32.toInt_lt x1
    refine lv_aload_n hx hb dX12_heldBy_9 rfl (lv_at hl 0 rfl) ?_
    refine z_get (T := TX12) (N := 96) (ci := 12) (i := 0) (v := .ref (ad 32)) hx hb hts zj_X12_heldBy_X12 hown hK hW rfl rfl 52 (by decide) (hts (.fieldLink RX12 110 "PetrolBoardModel" "lentTo" "[I") (me_s (me_l (List.mem_of_getElem? (i := 0) rfl)))) (fun _ h => h) rfl dX12_heldBy_10 ?_
    refine lv_iload_n hx hb dX12_heldBy_13 rfl (lv_at hl 1 rfl) ?_
    refine z_iald (i := 32) hx hb hK hW rfl (z_ix rfl (by omega) (by omega)) dX12_heldBy_14 ?_
    refine z_topi (v := x1) ex1.symm ?_
    refine lv_iconst (v := 1) hx hb dX12_heldBy_15 (by decide) ?_
    refine lv_isub hx hb dX12_heldBy_16 ?_
    refine lv_topi (fun x8 ex8 => ?_)
    have tx8 : x8.toInt = x1.toInt - 1 := z_tsub ex8 rfl z_l1 (by have := Int32.le_toInt x1; have := Int32.toInt_lt x1; omega) (by have := Int32.le_toInt x1; have := Int32.toInt_lt x1; omega)
    refine lv_goto (tgt := 25) hx hb dX12_heldBy_17 (by decide) ?_
    exact z_iret hx hb hr hK hS (Nat.le_of_ble_eq_true rfl) (Nat.le_of_ble_eq_true rfl) hlocks dX12_heldBy_25 (shM, ad, I, J, PM ad) hW rfl
noncomputable def L_X12_lend : z_L := [(32, 999), (0, 51)]
theorem zj_X12_lend_X12 : ∀ w ∈ wsX120, w ∈ wsX12_lend := fun w h => (List.mem_cons_of_mem _ (List.mem_append_right _ h))
set_option maxHeartbeats 8000000 in
set_option maxRecDepth 100000 in
theorem sx_X12_lend (l : Launch) (G : z_G) (ad : Nat → Nat) (I : z_I) (J : z_J) (hma : z_ima I) (hmb : z_imb I) (hAtf : z_rg 11 0 288 I) (hAtm : z_rg 12 0 24 I) (a1 : Int32) (a2 : Int32) : z_M l yX12_lend wsX12_lend { frames := 3, cells := 0, slots := 0, locals := 62 } [.ref (ad 0), .int a1, .int a2] G (shM, ad, I, J, PM ad) (fun r u1 => ∃ (I1 : z_I) (J1 : z_J), u1 = (shM, ad, I1, J1, PM ad) ∧ z_ima I1 ∧ z_imb I1 ∧ z_rg 11 0 288 I1 ∧ z_rg 12 0 24 I1 ∧ z_fr L_X12_lend I1 I ∧ (r = 1 ∨ r = 0)) 0 0 := by
  intro sz
  refine z_headQ (cc := cX12_lend) (maxL := 6) (ret := (some .boolean)) (by decide) rfl (Nat.le_of_ble_eq_true rfl) ?_
  intro p e s m below meth c0 ls hIn hK hsz hW hl
  obtain ⟨hx, hb, hr, hml, hown, hts, hlocks, hname⟩ := hIn
  subst hsz
  have hown : s.vm.findClass RX12 = some m.cls := hown
  have hA : ∀ q : Nat, s.heap.size ≤ q → z_A (shM, ad, I, J, PM ad) s.heap.size q := fun q h => Or.inr h
  generalize hAe : z_A (shM, ad, I, J, PM ad) s.heap.size = A at *
  have hS : va_S A s.heap s.heap [] := va_S.rf
  have hl : lv_has ls 6 [(0, .ref (ad 0)), (1, .int a1), (2, .int a2)] := hl
  refine lv_aload_n hx hb dX12_lend_0 rfl (lv_at hl 0 rfl) ?_
  refine lv_iload_n hx hb dX12_lend_1 rfl (lv_at hl 1 rfl) ?_
  refine z_ci hW hS hA (va_runV (As := [.int a1]) (rest := []) ⟨hx, hb, hml, hown, hts⟩ (sx_X12_isCoupon l G ad I J  a1 _) (cwV 1 hts gX12_lend_X12_isCoupon rfl rfl rfl hy_X12_isCoupon ⟨Nat.le_of_ble_eq_true rfl, Nat.le_of_ble_eq_true rfl⟩) (z_preV (i := 0) hK hW rfl rfl) rfl rfl hl.1 rfl (lv_room (Nat.le_of_ble_eq_true rfl)) dX12_lend_2 ⟨Nat.le_of_ble_eq_true rfl, Nat.le_of_ble_eq_true rfl⟩) (fun r u1 H locs hp hW hS => ?_)
  obtain ⟨e9, hp⟩ := hp
  rw [e9] at hW
  rcases hp with ⟨rfl, h1, h2⟩ | rfl
  · refine lv_if_eq (tgt := 43) hx hb dX12_lend_5 (by decide) (fun c3 => absurd c3 (by decide)) (fun c3 => ?_)
    refine lv_aload_n hx hb dX12_lend_8 rfl (lv_at hl 0 rfl) ?_
    refine lv_iload_n hx hb dX12_lend_9 rfl (lv_at hl 2 rfl) ?_
    refine z_ci hW hS hA (va_runV (As := [.int a2]) (rest := []) ⟨hx, hb, hml, hown, hts⟩ (sx_X12_isHolder l G ad I J ⟨(by show 0 ≤ (I 0 0).toInt ∧ (I 0 0).toInt ≤ 719; exact hma.1), (by show 0 ≤ (I 0 1).toInt ∧ (I 0 1).toInt ≤ 30; exact hma.2.1), (by show 0 ≤ (I 0 2).toInt ∧ (I 0 2).toInt ≤ 200; exact hma.2.2)⟩ a2 _) (cwV 1 hts gX12_lend_X12_isHolder rfl rfl rfl hy_X12_isHolder ⟨Nat.le_of_ble_eq_true rfl, Nat.le_of_ble_eq_true rfl⟩) (z_preV (i := 0) hK hW rfl rfl) rfl rfl hl.1 rfl (lv_room (Nat.le_of_ble_eq_true rfl)) dX12_lend_10 ⟨Nat.le_of_ble_eq_true rfl, Nat.le_of_ble_eq_true rfl⟩) (fun r u1 H locs hp hW hS => ?_)
    obtain ⟨e9, hp⟩ := hp
    rw [e9] at hW
    rcases hp with ⟨rfl, h4, h5⟩ | rfl
    · refine lv_if_eq (tgt := 43) hx hb dX12_lend_13 (by decide) (fun c6 => absurd c6 (by decide)) (fun c6 => ?_)
      refine lv_iload_n hx hb dX12_lend_16 rfl (lv_at hl 2 rfl) ?_
      refine lv_iload_n hx hb dX12_lend_17 rfl (lv_at hl 1 rfl) ?_
      refine lv_sipush (v := 2400) hx hb dX12_lend_18 (by decide) ?_
      refine lv_idiv hx hb dX12_lend_21 (by decide) ?_
      refine lv_topi (fun x7 ex7 => ?_)
      have tx7 := z_tdiv ex7 rfl z_l2400 (by decide)
      refine lv_icmp_eq (tgt := 43) hx hb dX12_lend_22 (by decide) (fun c8 => ?_) (fun c8 => ?_)
      · have g9 := z_f_eq rfl rfl c8
        refine lv_iconst (v := 0) hx hb dX12_lend_43 (by decide) ?_
        exact z_zret hx hb hr (by decide) hK hS (Nat.le_of_ble_eq_true rfl) (Nat.le_of_ble_eq_true rfl) hlocks dX12_lend_44 (shM, ad, I, J, PM ad) hW ⟨I, J, rfl, ⟨(by show 0 ≤ (I 0 0).toInt ∧ (I 0 0).toInt ≤ 719; exact hma.1), (by show 0 ≤ (I 0 1).toInt ∧ (I 0 1).toInt ≤ 30; exact hma.2.1), (by show 0 ≤ (I 0 2).toInt ∧ (I 0 2).toInt ≤ 200; exact hma.2.2)⟩, ⟨(by show 0 ≤ (I 0 13).toInt ∧ (I 0 13).toInt ≤ 12; exact hmb.1), (by show 0 ≤ (I 0 14).toInt ∧ (I 0 14).toInt ≤ 288; exact hmb.2)⟩, hAtf, hAtm, z_fr_0, Or.inr rfl⟩
      · have g10 := z_f_ne rfl rfl c8
        refine lv_aload_n hx hb dX12_lend_25 rfl (lv_at hl 0 rfl) ?_
        refine z_get (T := TX12) (N := 96) (ci := 12) (i := 0) (v := .ref (ad 32)) hx hb hts zj_X12_lend_X12 hown hK hW rfl rfl 52 (by decide) (hts (.fieldLink RX12 110 "PetrolBoardModel" "lentTo" "[I") (me_s (me_l (me_l (List.mem_of_getElem? (i := 0) rfl))))) (fun _ h => h) rfl dX12_lend_26 ?_
        refine lv_iload_n hx hb dX12_lend_29 rfl (lv_at hl 1 rfl) ?_
        refine z_iald (i := 32) hx hb hK hW rfl (z_ix rfl (by omega) (by omega)) dX12_lend_30 ?_
        refine lv_topi (fun x11 ex11 => ?_)
        refine lv_if_gt (tgt := 43) hx hb dX12_lend_31 (by decide) (fun c12 => ?_) (fun c12 => ?_)
        · have g13 := z_f_gt rfl z_l0 c12
          have b14 := Int32.toInt_lt x11
          refine lv_iconst (v := 0) hx hb dX12_lend_43 (by decide) ?_
          exact z_zret hx hb hr (by decide) hK hS (Nat.le_of_ble_eq_true rfl) (Nat.le_of_ble_eq_true rfl) hlocks dX12_lend_44 (shM, ad, I, J, PM ad) hW ⟨I, J, rfl, ⟨(by show 0 ≤ (I 0 0).toInt ∧ (I 0 0).toInt ≤ 719; exact hma.1), (by show 0 ≤ (I 0 1).toInt ∧ (I 0 1).toInt ≤ 30; exact hma.2.1), (by show 0 ≤ (I 0 2).toInt ∧ (I 0 2).toInt ≤ 200; exact hma.2.2)⟩, ⟨(by show 0 ≤ (I 0 13).toInt ∧ (I 0 13).toInt ≤ 12; exact hmb.1), (by show 0 ≤ (I 0 14).toInt ∧ (I 0 14).toInt ≤ 288; exact hmb.2)⟩, hAtf, hAtm, z_fr_0, Or.inr rfl⟩
        · have g15 := z_f_ngt rfl z_l0 c12
          have b16 := Int32.toInt_lt x11
          refine lv_aload_n hx hb dX12_lend_34 rfl (lv_at hl 0 rfl) ?_
          refine z_get (T := TX12) (N := 96) (ci := 12) (i := 0) (v := .ref (ad 33)) hx hb hts zj_X12_lend_X12 hown hK hW rfl rfl 53 (by decide) (hts (.fieldLink RX12 114 "PetrolBoardModel" "wasIn" "[Z") (me_s (me_l (me_l (List.mem_of_getElem? (i := 1) rfl))))) (fun _ h => h) rfl dX12_lend_35 ?_
          refine lv_iload_n hx hb dX12_lend_38 rfl (lv_at hl 1 rfl) ?_
          refine z_zald (i := 33) hx hb hK hW rfl (z_ix rfl (by omega) (by omega)) dX12_lend_39 ?_
          refine lv_topi (fun x17 ex17 => ?_)
          refine lv_if_eq (tgt := 45) hx hb dX12_lend_40 (by decide) (fun c18 => ?_) (fun c18 => ?_)
          · have g19 := z_f_eq rfl z_l0 c18
            have b20 := Int32.toInt_lt x17
            refine lv_iload_n hx hb dX12_lend_45 rfl (lv_at hl 1 rfl) ?_
            refine lv_bipush (v := 100) hx hb dX12_lend_46 (by decide) ?_
            refine lv_idiv hx hb dX12_lend_48 (by decide) ?_
            refine lv_topi (fun x21 ex21 => ?_)
            have tx21 := z_tdiv ex21 rfl z_l100 (by decide)
            refine lv_istore_n (lv' := [(3, .int x21), (0, .ref (ad 0)), (1, .int a1), (2, .int a2)]) hx hb dX12_lend_49 rfl hl (by decide) rfl (fun ls hl => ?_)
            refine lv_iconst (v := 0) hx hb dX12_lend_50 (by decide) ?_
            refine lv_istore (lv' := [(4, .int 0), (3, .int x21), (0, .ref (ad 0)), (1, .int a1), (2, .int a2)]) hx hb dX12_lend_51 hl (by decide) rfl (fun ls hl => ?_)
            refine lv_bipush (v := 100) hx hb dX12_lend_53 (by decide) ?_
            refine lv_iload_n hx hb dX12_lend_55 rfl (lv_at hl 1 rfl) ?_
            refine lv_imul hx hb dX12_lend_56 ?_
            refine lv_topi (fun x22 ex22 => ?_)
            have tx22 : x22.toInt = 100 * x21.toInt := z_tmul ex22 z_l100 rfl (by omega) (by omega)
            refine lv_istore (lv' := [(5, .int x22), (4, .int 0), (3, .int x21), (0, .ref (ad 0)), (1, .int a1), (2, .int a2)]) hx hb dX12_lend_57 hl (by decide) rfl (fun ls hl => ?_)
            have lp23 : ∀ (f : Nat) (y24 : Int32) (y25 : Int32) (H : Heap) (locs : List Loc) (ls : Array Slot), (2147483647 < y24.toInt + (f : Int)) → (0 ≤ y24.toInt) → (x22.toInt ≤ y24.toInt) → z_W G A (shM, ad, I, J, PM ad) H → va_S A s.heap H locs → lv_has ls 6 [(5, .int y24), (4, .int y25), (3, .int x21), (0, .ref (ad 0)), (1, .int a1), (2, .int a2)] → W p l e (headSpec wsX12_lend { frames := 3, cells := 0, slots := 0, locals := 62 }).room s m ([.ref (ad 0), .int a1, .int a2] : List Value).toArray below meth c0 H locs 0 0 (MQ below (va_Qi (fun (r : Int32) (u1 : z_U) => ∃ (I1 : z_I) (J1 : z_J), u1 = (shM, ad, I1, J1, PM ad) ∧ z_ima I1 ∧ z_imb I1 ∧ z_rg 11 0 288 I1 ∧ z_rg 12 0 24 I1 ∧ z_fr L_X12_lend I1 I ∧ (r = 1 ∨ r = 0)) (z_B G A) A) ([.ref (ad 0), .int a1, .int a2] : List Value).toArray s 0 0 A) (F0 m 59 ls []) := by
              intro f
              induction f with
              | zero => intro y24 y25 H locs ls lp23m lp23l5 lp23z hW hS hl; exact absurd lp23m (by have := Int32.toInt_lt y24; have := Int32.le_toInt y24; omega)
              | succ f lp23ih =>
                intro y24 y25 H locs ls lp23m lp23l5 lp23z hW hS hl
                refine lv_iload hx hb dX12_lend_59 (lv_at hl 0 rfl) ?_
                refine lv_bipush (v := 100) hx hb dX12_lend_61 (by decide) ?_
                refine lv_iload_n hx hb dX12_lend_63 rfl (lv_at hl 2 rfl) ?_
                refine lv_imul hx hb dX12_lend_64 ?_
                refine lv_topi (fun x26 ex26 => ?_)
                have tx26 : x26.toInt = 100 * x21.toInt := z_tmul ex26 z_l100 rfl (by omega) (by omega)
                refine lv_bipush (v := 100) hx hb dX12_lend_65 (by decide) ?_
                refine lv_iadd hx hb dX12_lend_67 ?_
                refine lv_topi (fun x27 ex27 => ?_)
                have tx27 : x27.toInt = x26.toInt + 100 := z_tadd ex27 rfl z_l100 (by omega) (by omega)
                refine lv_icmp_ge (tgt := 90) hx hb dX12_lend_68 (by decide) (fun c28 => ?_) (fun c28 => ?_)
                · have g29 := z_f_ge rfl rfl c28
                  have b30 := Int32.toInt_lt y24
                  refine lv_iload hx hb dX12_lend_90 (lv_at hl 1 rfl) ?_
                  refine lv_aload_n hx hb dX12_lend_92 rfl (lv_at hl 3 rfl) ?_
                  refine lv_iload_n hx hb dX12_lend_93 rfl (lv_at hl 2 rfl) ?_
                  refine lv_bipush (v := 24) hx hb dX12_lend_94 (by decide) ?_
                  refine lv_irem hx hb dX12_lend_96 (by decide) ?_
                  refine lv_topi (fun x31 ex31 => ?_)
                  have tx31 := z_trem ex31 rfl z_l24 (by decide)
                  refine lv_aload_n hx hb dX12_lend_97 rfl (lv_at hl 3 rfl) ?_
                  have r32 : 0 ≤ (I 0 0).toInt ∧ (I 0 0).toInt ≤ 719 := hma.1
                  refine z_get (T := TX12) (N := 96) (ci := 12) (i := 0) (v := .int (I 0 0)) hx hb hts zj_X12_lend_X12 hown hK hW rfl rfl 0 (by decide) (hts (.fieldLink RX12 232 "PetrolBoardModel" "today" "I") (me_s (me_l (me_l (List.mem_of_getElem? (i := 2) rfl))))) (fun _ h => h) rfl dX12_lend_98 ?_
                  refine lv_iconst (v := 5) hx hb dX12_lend_101 (by decide) ?_
                  refine z_ci hW hS hA (va_runV (As := [.int x31, .int (I 0 0), .int 5]) (rest := [.int y25]) ⟨hx, hb, hml, hown, hts⟩ (sx_X12_number l G ad I J ⟨(by show 0 ≤ (I 0 13).toInt ∧ (I 0 13).toInt ≤ 12; exact hmb.1), (by show 0 ≤ (I 0 14).toInt ∧ (I 0 14).toInt ≤ 288; exact hmb.2)⟩ hAtf hAtm x31 (I 0 0) 5 _) (cwV 3 hts gX12_lend_X12_number rfl rfl rfl hy_X12_number ⟨Nat.le_of_ble_eq_true rfl, Nat.le_of_ble_eq_true rfl⟩) (z_preV (i := 0) hK hW rfl rfl) rfl rfl hl.1 rfl (lv_room (Nat.le_of_ble_eq_true rfl)) dX12_lend_102 ⟨Nat.le_of_ble_eq_true rfl, Nat.le_of_ble_eq_true rfl⟩) (fun r u1 H locs hp hW hS => ?_)
                  rw [hp] at hW
                  refine lv_topi (fun x33 ex33 => ?_)
                  refine lv_icmp_lt (tgt := 110) hx hb dX12_lend_105 (by decide) (fun c34 => ?_) (fun c34 => ?_)
                  · have g35 := z_f_lt rfl rfl c34
                    have b36 := Int32.toInt_lt y25
                    have b37 := Int32.toInt_lt x33
                    refine lv_aload_n hx hb dX12_lend_110 rfl (lv_at hl 3 rfl) ?_
                    refine z_get (T := TX12) (N := 96) (ci := 12) (i := 0) (v := .ref (ad 32)) hx hb hts zj_X12_lend_X12 hown hK hW rfl rfl 52 (by decide) (hts (.fieldLink RX12 110 "PetrolBoardModel" "lentTo" "[I") (me_s (me_l (me_l (List.mem_of_getElem? (i := 0) rfl))))) (fun _ h => h) rfl dX12_lend_111 ?_
                    refine lv_iload_n hx hb dX12_lend_114 rfl (lv_at hl 4 rfl) ?_
                    refine lv_iload_n hx hb dX12_lend_115 rfl (lv_at hl 5 rfl) ?_
                    refine lv_iconst (v := 1) hx hb dX12_lend_116 (by decide) ?_
                    refine lv_iadd hx hb dX12_lend_117 ?_
                    refine lv_topi (fun x38 ex38 => ?_)
                    have tx38 : x38.toInt = a2.toInt + 1 := z_tadd ex38 rfl z_l1 (by omega) (by omega)
                    refine z_iast (i := 32) hx hb hK hW hS rfl (z_ix rfl (by omega) (by omega)) dX12_lend_118 (fun H locs hz1 hW hS => ?_)
                    obtain ⟨I39, eI39⟩ : ∃ K : z_I, K = z_up I 32 a1.toNatClampNeg x38 := ⟨_, rfl⟩
                    rw [← eI39] at hW
                    have f40 := z_fr_a z_fr_0 (show z_wa L_X12_lend 32 = true by decide) eI39
                    have a41 := z_rg_n hAtf (by decide) eI39
                    have a42 := z_rg_n hAtm (by decide) eI39
                    refine lv_aload_n hx hb dX12_lend_119 rfl (lv_at hl 3 rfl) ?_
                    refine lv_dup hx hb dX12_lend_120 rfl ?_
                    refine z_get (T := TX12) (N := 96) (ci := 12) (i := 0) (v := .int (I 0 51)) hx hb hts zj_X12_lend_X12 hown hK hW rfl rfl 51 (by decide) (hts (.fieldLink RX12 455 "PetrolBoardModel" "lentAll" "I") (me_s (me_l (me_l (List.mem_of_getElem? (i := 3) rfl))))) (fun _ h => h) (congrArg Value.int (by rw [eI39, z_up_n (by decide)])) dX12_lend_121 ?_
                    refine lv_iconst (v := 1) hx hb dX12_lend_124 (by decide) ?_
                    refine lv_iadd hx hb dX12_lend_125 ?_
                    refine lv_topi (fun x43 ex43 => ?_)
                    refine z_put (T := TX12) (N := 96) (ci := 12) (i := 0) (v := .int x43) (I1 := z_up I39 0 51 x43) (J1 := J) (P1 := PM ad) hx hb hts zj_X12_lend_X12 tyX12 tyX12_ok nmX12 hown hK hW hS rfl rfl 51 (by decide) (hts (.fieldLink RX12 455 "PetrolBoardModel" "lentAll" "I") (me_s (me_l (me_l (List.mem_of_getElem? (i := 3) rfl))))) (fun _ h => h) rfl rfl rfl (by first | rfl | exact congrArg _ z_up_s) (fun a b h ty => z_vI h ty) dX12_lend_126 (fun H locs hz1 hW hS => ?_)
                    obtain ⟨I44, eI44⟩ : ∃ K : z_I, K = z_up I39 0 51 x43 := ⟨_, rfl⟩
                    rw [← eI44] at hW
                    have f45 := z_fr_k f40 (show z_wr L_X12_lend 0 51 = true by decide) eI44
                    have a46 := z_rg_n a41 (by decide) eI44
                    have a47 := z_rg_n a42 (by decide) eI44
                    refine lv_iconst (v := 1) hx hb dX12_lend_129 (by decide) ?_
                    exact z_zret hx hb hr (by decide) hK hS (Nat.le_of_ble_eq_true rfl) (Nat.le_of_ble_eq_true rfl) hlocks dX12_lend_130 (shM, ad, I44, J, PM ad) hW ⟨I44, J, rfl, ⟨(by show 0 ≤ (I44 0 0).toInt ∧ (I44 0 0).toInt ≤ 719; rw [eI44, z_up_k (by decide), eI39, z_up_n (by decide)]; exact hma.1), (by show 0 ≤ (I44 0 1).toInt ∧ (I44 0 1).toInt ≤ 30; rw [eI44, z_up_k (by decide), eI39, z_up_n (by decide)]; exact hma.2.1), (by show 0 ≤ (I44 0 2).toInt ∧ (I44 0 2).toInt ≤ 200; rw [eI44, z_up_k (by decide), eI39, z_up_n (by decide)]; exact hma.2.2)⟩, ⟨(by show 0 ≤ (I44 0 13).toInt ∧ (I44 0 13).toInt ≤ 12; rw [eI44, z_up_k (by decide), eI39, z_up_n (by decide)]; exact hmb.1), (by show 0 ≤ (I44 0 14).toInt ∧ (I44 0 14).toInt ≤ 288; rw [eI44, z_up_k (by decide), eI39, z_up_n (by decide)]; exact hmb.2)⟩, a46, a47, f45, Or.inl rfl⟩
                  · have g48 := z_f_nlt rfl rfl c34
                    have b49 := Int32.toInt_lt y25
                    have b50 := Int32.toInt_lt x33
                    refine lv_iconst (v := 0) hx hb dX12_lend_108 (by decide) ?_
                    exact z_zret hx hb hr (by decide) hK hS (Nat.le_of_ble_eq_true rfl) (Nat.le_of_ble_eq_true rfl) hlocks dX12_lend_109 (shM, ad, I, J, PM ad) hW ⟨I, J, rfl, ⟨(by show 0 ≤ (I 0 0).toInt ∧ (I 0 0).toInt ≤ 719; exact hma.1), (by show 0 ≤ (I 0 1).toInt ∧ (I 0 1).toInt ≤ 30; exact hma.2.1), (by show 0 ≤ (I 0 2).toInt ∧ (I 0 2).toInt ≤ 200; exact hma.2.2)⟩, ⟨(by show 0 ≤ (I 0 13).toInt ∧ (I 0 13).toInt ≤ 12; exact hmb.1), (by show 0 ≤ (I 0 14).toInt ∧ (I 0 14).toInt ≤ 288; exact hmb.2)⟩, hAtf, hAtm, z_fr_0, Or.inr rfl⟩
                · have g51 := z_f_nge rfl rfl c28
                  have b52 := Int32.toInt_lt y24
                  refine lv_aload_n hx hb dX12_lend_71 rfl (lv_at hl 3 rfl) ?_
                  refine z_get (T := TX12) (N := 96) (ci := 12) (i := 0) (v := .ref (ad 32)) hx hb hts zj_X12_lend_X12 hown hK hW rfl rfl 52 (by decide) (hts (.fieldLink RX12 110 "PetrolBoardModel" "lentTo" "[I") (me_s (me_l (me_l (List.mem_of_getElem? (i := 0) rfl))))) (fun _ h => h) rfl dX12_lend_72 ?_
                  refine lv_iload hx hb dX12_lend_75 (lv_at hl 0 rfl) ?_
                  refine z_iald (i := 32) hx hb hK hW rfl (z_ix rfl (by omega) (by omega)) dX12_lend_77 ?_
                  refine lv_topi (fun x53 ex53 => ?_)
                  refine lv_if_le (tgt := 84) hx hb dX12_lend_78 (by decide) (fun c54 => ?_) (fun c54 => ?_)
                  · have g55 := z_f_le rfl z_l0 c54
                    have b56 := Int32.toInt_lt x53
                    obtain ⟨x57, ex57⟩ : ∃ y : Int32, y = y24 + 1 := ⟨_, rfl⟩
                    have tx57 : x57.toInt = y24.toInt + 1 := z_tadd ex57 rfl z_l1 (by omega) (by omega)
                    refine lv_iinc (v := x57) (lv' := [(5, .int x57), (4, .int y25), (3, .int x21), (0, .ref (ad 0)), (1, .int a1), (2, .int a2)]) hx hb dX12_lend_84 hl (k := 0) rfl (by rw [ex57]; rfl) (by decide) rfl (fun ls hl => ?_)
                    refine lv_goto (tgt := 59) hx hb dX12_lend_87 (by decide) ?_
                    exact lp23ih x57 y25 _ _ _ (by omega) (by omega) (by omega) hW hS (lv_sub hl [0, 1, 2, 3, 4, 5] rfl)
                  · have g58 := z_f_nle rfl z_l0 c54
                    have b59 := Int32.toInt_lt x53
                    obtain ⟨x60, ex60⟩ : ∃ y : Int32, y = y25 + 1 := ⟨_, rfl⟩
                    refine lv_iinc (v := x60) (lv' := [(4, .int x60), (5, .int y24), (3, .int x21), (0, .ref (ad 0)), (1, .int a1), (2, .int a2)]) hx hb dX12_lend_81 hl (k := 1) rfl (by rw [ex60]; rfl) (by decide) rfl (fun ls hl => ?_)
                    obtain ⟨x61, ex61⟩ : ∃ y : Int32, y = y24 + 1 := ⟨_, rfl⟩
                    have tx61 : x61.toInt = y24.toInt + 1 := z_tadd ex61 rfl z_l1 (by omega) (by omega)
                    refine lv_iinc (v := x61) (lv' := [(5, .int x61), (4, .int x60), (3, .int x21), (0, .ref (ad 0)), (1, .int a1), (2, .int a2)]) hx hb dX12_lend_84 hl (k := 1) rfl (by rw [ex61]; rfl) (by decide) rfl (fun ls hl => ?_)
                    refine lv_goto (tgt := 59) hx hb dX12_lend_87 (by decide) ?_
                    exact lp23ih x61 x60 _ _ _ (by omega) (by omega) (by omega) hW hS (lv_sub hl [0, 1, 2, 3, 4, 5] rfl)
            exact lp23 4294967296 x22 (0) _ _ _ (z_m0u _) (by omega) (by omega) hW hS (lv_sub hl [0, 1, 2, 3, 4, 5] rfl)
          · have g62 := z_f_ne rfl z_l0 c18
            have b63 := Int32.toInt_lt x17
            refine lv_iconst (v := 0) hx hb dX12_lend_43 (by decide) ?_
            exact z_zret hx hb hr (by decide) hK hS (Nat.le_of_ble_eq_true rfl) (Nat.le_of_ble_eq_true rfl) hlocks dX12_lend_44 (shM, ad, I, J, PM ad) hW ⟨I, J, rfl, ⟨(by show 0 ≤ (I 0 0).toInt ∧ (I 0 0).toInt ≤ 719; exact hma.1), (by show 0 ≤ (I 0 1).toInt ∧ (I 0 1).toInt ≤ 30; exact hma.2.1), (by show 0 ≤ (I 0 2).toInt ∧ (I 0 2).toInt ≤ 200; exact hma.2.2)⟩, ⟨(by show 0 ≤ (I 0 13).toInt ∧ (I 0 13).toInt ≤ 12; exact hmb.1), (by show 0 ≤ (I 0 14).toInt ∧ (I 0 14).toInt ≤ 288; exact hmb.2)⟩, hAtf, hAtm, z_fr_0, Or.inr rfl⟩
    · refine lv_if_eq (tgt := 43) hx hb dX12_lend_13 (by decide) (fun c64 => ?_) (fun c64 => absurd (by decide) c64)
      refine lv_iconst (v := 0) hx hb dX12_lend_43 (by decide) ?_
      exact z_zret hx hb hr (by decide) hK hS (Nat.le_of_ble_eq_true rfl) (Nat.le_of_ble_eq_true rfl) hlocks dX12_lend_44 (shM, ad, I, J, PM ad) hW ⟨I, J, rfl, ⟨(by show 0 ≤ (I 0 0).toInt ∧ (I 0 0).toInt ≤ 719; exact hma.1), (by show 0 ≤ (I 0 1).toInt ∧ (I 0 1).toInt ≤ 30; exact hma.2.1), (by show 0 ≤ (I 0 2).toInt ∧ (I 0 2).toInt ≤ 200; exact hma.2.2)⟩, ⟨(by show 0 ≤ (I 0 13).toInt ∧ (I 0 13).toInt ≤ 12; exact hmb.1), (by show 0 ≤ (I 0 14).toInt ∧ (I 0 14).toInt ≤ 288; exact hmb.2)⟩, hAtf, hAtm, z_fr_0, Or.inr rfl⟩
  · refine lv_if_eq (tgt := 43) hx hb dX12_lend_5 (by decide) (fun c65 => ?_) (fun c65 => absurd (by decide) c65)
    refine lv_iconst (v := 0) hx hb dX12_lend_43 (by decide) ?_
    exact z_zret hx hb hr (by decide) hK hS (Nat.le_of_ble_eq_true rfl) (Nat.le_of_ble_eq_true rfl) hlocks dX12_lend_44 (shM, ad, I, J, PM ad) hW ⟨I, J, rfl, ⟨(by show 0 ≤ (I 0 0).toInt ∧ (I 0 0).toInt ≤ 719; exact hma.1), (by show 0 ≤ (I 0 1).toInt ∧ (I 0 1).toInt ≤ 30; exact hma.2.1), (by show 0 ≤ (I 0 2).toInt ∧ (I 0 2).toInt ≤ 200; exact hma.2.2)⟩, ⟨(by show 0 ≤ (I 0 13).toInt ∧ (I 0 13).toInt ≤ 12; exact hmb.1), (by show 0 ≤ (I 0 14).toInt ∧ (I 0 14).toInt ≤ 288; exact hmb.2)⟩, hAtf, hAtm, z_fr_0, Or.inr rfl⟩
set_option maxHeartbeats 8000000 in
set_option maxRecDepth 100000 in
theorem sx_X12_owner (l : Launch) (G : z_G) (ad : Nat → Nat) (I : z_I) (J : z_J) (a1 : Int32) : z_M l yX12_owner wsX12_owner { frames := 2, cells := 0, slots := 0, locals := 33 } [.ref (ad 0), .int a1] G (shM, ad, I, J, PM ad) (fun r u1 => u1 = (shM, ad, I, J, PM ad)) 0 0 := by
  intro sz
  refine z_headQ (cc := cX12_owner) (maxL := 2) (ret := (some .int)) (by decide) rfl (Nat.le_of_ble_eq_true rfl) ?_
  intro p e s m below meth c0 ls hIn hK hsz hW hl
  obtain ⟨hx, hb, hr, hml, hown, hts, hlocks, hname⟩ := hIn
  subst hsz
  have hown : s.vm.findClass RX12 = some m.cls := hown
  have hA : ∀ q : Nat, s.heap.size ≤ q → z_A (shM, ad, I, J, PM ad) s.heap.size q := fun q h => Or.inr h
  generalize hAe : z_A (shM, ad, I, J, PM ad) s.heap.size = A at *
  have hS : va_S A s.heap s.heap [] := va_S.rf
  have hl : lv_has ls 2 [(0, .ref (ad 0)), (1, .int a1)] := hl
  refine lv_aload_n hx hb dX12_owner_0 rfl (lv_at hl 0 rfl) ?_
  refine lv_iload_n hx hb dX12_owner_1 rfl (lv_at hl 1 rfl) ?_
  refine z_ci hW hS hA (va_runV (As := [.int a1]) (rest := []) ⟨hx, hb, hml, hown, hts⟩ (sx_X12_isCoupon l G ad I J  a1 _) (cwV 1 hts gX12_owner_X12_isCoupon rfl rfl rfl hy_X12_isCoupon ⟨Nat.le_of_ble_eq_true rfl, Nat.le_of_ble_eq_true rfl⟩) (z_preV (i := 0) hK hW rfl rfl) rfl rfl hl.1 rfl (lv_room (Nat.le_of_ble_eq_true rfl)) dX12_owner_2 ⟨Nat.le_of_ble_eq_true rfl, Nat.le_of_ble_eq_true rfl⟩) (fun r u1 H locs hp hW hS => ?_)
  obtain ⟨e9, hp⟩ := hp
  rw [e9] at hW
  rcases hp with ⟨rfl, h1, h2⟩ | rfl
  · refine lv_if_eq (tgt := 16) hx hb dX12_owner_5 (by decide) (fun c3 => absurd c3 (by decide)) (fun c3 => ?_)
    refine lv_aload_n hx hb dX12_owner_8 rfl (lv_at hl 0 rfl) ?_
    refine lv_iload_n hx hb dX12_owner_9 rfl (lv_at hl 1 rfl) ?_
    refine z_ci hW hS hA (va_runV (As := [.int a1]) (rest := []) ⟨hx, hb, hml, hown, hts⟩ (sx_X12_heldBy l G ad I J a1 (by omega) _) (cwV 1 hts gX12_owner_X12_heldBy rfl rfl rfl hy_X12_heldBy ⟨Nat.le_of_ble_eq_true rfl, Nat.le_of_ble_eq_true rfl⟩) (z_preV (i := 0) hK hW rfl rfl) rfl rfl hl.1 rfl (lv_room (Nat.le_of_ble_eq_true rfl)) dX12_owner_10 ⟨Nat.le_of_ble_eq_true rfl, Nat.le_of_ble_eq_true rfl⟩) (fun r u1 H locs hp hW hS => ?_)
    rw [hp] at hW
    refine lv_topi (fun x4 ex4 => ?_)
    refine lv_goto (tgt := 17) hx hb dX12_owner_13 (by decide) ?_
    exact z_iret hx hb hr hK hS (Nat.le_of_ble_eq_true rfl) (Nat.le_of_ble_eq_true rfl) hlocks dX12_owner_17 (shM, ad, I, J, PM ad) hW rfl
  · refine lv_if_eq (tgt := 16) hx hb dX12_owner_5 (by decide) (fun c5 => ?_) (fun c5 => absurd (by decide) c5)
    refine lv_iconst (v := (-1)) hx hb dX12_owner_16 (by decide) ?_
    exact z_iret hx hb hr hK hS (Nat.le_of_ble_eq_true rfl) (Nat.le_of_ble_eq_true rfl) hlocks dX12_owner_17 (shM, ad, I, J, PM ad) hW rfl
noncomputable def L_X12_station : z_L := [(0, 54)]
theorem zj_X12_station_X12 : ∀ w ∈ wsX120, w ∈ wsX12_station := fun w h => (List.mem_cons_of_mem _ (List.mem_append_right _ h))
set_option maxHeartbeats 8000000 in
set_option maxRecDepth 100000 in
theorem sx_X12_station (l : Launch) (G : z_G) (ad : Nat → Nat) (I : z_I) (J : z_J) (hms : z_ims I) : z_M l yX12_station wsX12_station { frames := 1, cells := 0, slots := 0, locals := 12 } [.ref (ad 0)] G (shM, ad, I, J, PM ad) (fun r u1 => ∃ (I1 : z_I) (J1 : z_J), u1 = (shM, ad, I1, J1, PM ad) ∧ z_ims I1 ∧ z_fr L_X12_station I1 I) 0 0 := by
  intro sz
  refine z_headQ (cc := cX12_station) (maxL := 1) (ret := (some .int)) (by decide) rfl (Nat.le_of_ble_eq_true rfl) ?_
  intro p e s m below meth c0 ls hIn hK hsz hW hl
  obtain ⟨hx, hb, hr, hml, hown, hts, hlocks, hname⟩ := hIn
  subst hsz
  have hown : s.vm.findClass RX12 = some m.cls := hown
  have hA : ∀ q : Nat, s.heap.size ≤ q → z_A (shM, ad, I, J, PM ad) s.heap.size q := fun q h => Or.inr h
  generalize hAe : z_A (shM, ad, I, J, PM ad) s.heap.size = A at *
  have hS : va_S A s.heap s.heap [] := va_S.rf
  have hl : lv_has ls 1 [(0, .ref (ad 0))] := hl
  refine lv_aload_n hx hb dX12_station_0 rfl (lv_at hl 0 rfl) ?_
  have r1 : 0 ≤ (I 0 54).toInt ∧ (I 0 54).toInt ≤ 10 := hms.1
  refine z_get (T := TX12) (N := 96) (ci := 12) (i := 0) (v := .int (I 0 54)) hx hb hts zj_X12_station_X12 hown hK hW rfl rfl 54 (by decide) (hts (.fieldLink RX12 461 "PetrolBoardModel" "stations" "I") (me_s (me_l (List.mem_of_getElem? (i := 0) rfl)))) (fun _ h => h) rfl dX12_station_1 ?_
  refine lv_bipush (v := 10) hx hb dX12_station_4 (by decide) ?_
  refine lv_icmp_ne (tgt := 11) hx hb dX12_station_6 (by decide) (fun c2 => ?_) (fun c2 => ?_)
  · have g3 := z_f_ne rfl z_l10 c2
    refine lv_aload_n hx hb dX12_station_11 rfl (lv_at hl 0 rfl) ?_
    refine lv_dup hx hb dX12_station_12 rfl ?_
    refine z_get (T := TX12) (N := 96) (ci := 12) (i := 0) (v := .int (I 0 54)) hx hb hts zj_X12_station_X12 hown hK hW rfl rfl 54 (by decide) (hts (.fieldLink RX12 461 "PetrolBoardModel" "stations" "I") (me_s (me_l (List.mem_of_getElem? (i := 0) rfl)))) (fun _ h => h) rfl dX12_station_13 ?_
    refine lv_iconst (v := 1) hx hb dX12_station_16 (by decide) ?_
    refine lv_iadd hx hb dX12_station_17 ?_
    refine lv_topi (fun x4 ex4 => ?_)
    have tx4 : x4.toInt = (I 0 54).toInt + 1 := z_tadd ex4 rfl z_l1 (by omega) (by omega)
    refine z_put (T := TX12) (N := 96) (ci := 12) (i := 0) (v := .int x4) (I1 := z_up I 0 54 x4) (J1 := J) (P1 := PM ad) hx hb hts zj_X12_station_X12 tyX12 tyX12_ok nmX12 hown hK hW hS rfl rfl 54 (by decide) (hts (.fieldLink RX12 461 "PetrolBoardModel" "stations" "I") (me_s (me_l (List.mem_of_getElem? (i := 0) rfl)))) (fun _ h => h) rfl rfl rfl (by first | rfl | exact congrArg _ z_up_s) (fun a b h ty => z_vI h ty) dX12_station_18 (fun H locs hz1 hW hS => ?_)
    obtain ⟨I5, eI5⟩ : ∃ K : z_I, K = z_up I 0 54 x4 := ⟨_, rfl⟩
    rw [← eI5] at hW
    have f6 := z_fr_k z_fr_0 (show z_wr L_X12_station 0 54 = true by decide) eI5
    refine lv_aload_n hx hb dX12_station_21 rfl (lv_at hl 0 rfl) ?_
    refine z_get (T := TX12) (N := 96) (ci := 12) (i := 0) (v := .int x4) hx hb hts zj_X12_station_X12 hown hK hW rfl rfl 54 (by decide) (hts (.fieldLink RX12 461 "PetrolBoardModel" "stations" "I") (me_s (me_l (List.mem_of_getElem? (i := 0) rfl)))) (fun _ h => h) (congrArg Value.int (by rw [eI5, z_up_s])) dX12_station_22 ?_
    refine lv_iconst (v := 1) hx hb dX12_station_25 (by decide) ?_
    refine lv_isub hx hb dX12_station_26 ?_
    refine lv_topi (fun x7 ex7 => ?_)
    have tx7 : x7.toInt = x4.toInt - 1 := z_tsub ex7 rfl z_l1 (by omega) (by omega)
    exact z_iret hx hb hr hK hS (Nat.le_of_ble_eq_true rfl) (Nat.le_of_ble_eq_true rfl) hlocks dX12_station_27 (shM, ad, I5, J, PM ad) hW ⟨I5, J, rfl, ⟨(by show 0 ≤ (I5 0 54).toInt ∧ (I5 0 54).toInt ≤ 10; rw [eI5, z_up_s]; omega), (by show 0 ≤ (I5 0 55).toInt ∧ (I5 0 55).toInt ≤ 300; rw [eI5, z_up_k (by decide)]; exact hms.2)⟩, f6⟩
  · have g8 := z_f_eq rfl z_l10 c2
    refine lv_iconst (v := (-1)) hx hb dX12_station_9 (by decide) ?_
    exact z_iret hx hb hr hK hS (Nat.le_of_ble_eq_true rfl) (Nat.le_of_ble_eq_true rfl) hlocks dX12_station_10 (shM, ad, I, J, PM ad) hW ⟨I, J, rfl, ⟨(by show 0 ≤ (I 0 54).toInt ∧ (I 0 54).toInt ≤ 10; exact hms.1), (by show 0 ≤ (I 0 55).toInt ∧ (I 0 55).toInt ≤ 300; exact hms.2)⟩, z_fr_0⟩
theorem zj_X12_poured_X12 : ∀ w ∈ wsX120, w ∈ wsX12_poured := fun w h => (List.mem_cons_of_mem _ (List.mem_append_right _ h))
set_option maxHeartbeats 8000000 in
set_option maxRecDepth 100000 in
theorem sx_X12_poured (l : Launch) (G : z_G) (ad : Nat → Nat) (I : z_I) (J : z_J) (hms : z_ims I) (a1 : Int32) (a2 : Int32) : z_M l yX12_poured wsX12_poured { frames := 1, cells := 0, slots := 0, locals := 12 } [.ref (ad 0), .int a1, .int a2] G (shM, ad, I, J, PM ad) (fun r u1 => u1 = (shM, ad, I, J, PM ad)) 0 0 := by
  intro sz
  refine z_headQ (cc := cX12_poured) (maxL := 3) (ret := (some .int)) (by decide) rfl (Nat.le_of_ble_eq_true rfl) ?_
  intro p e s m below meth c0 ls hIn hK hsz hW hl
  obtain ⟨hx, hb, hr, hml, hown, hts, hlocks, hname⟩ := hIn
  subst hsz
  have hown : s.vm.findClass RX12 = some m.cls := hown
  have hA : ∀ q : Nat, s.heap.size ≤ q → z_A (shM, ad, I, J, PM ad) s.heap.size q := fun q h => Or.inr h
  generalize hAe : z_A (shM, ad, I, J, PM ad) s.heap.size = A at *
  have hS : va_S A s.heap s.heap [] := va_S.rf
  have hl : lv_has ls 3 [(0, .ref (ad 0)), (1, .int a1), (2, .int a2)] := hl
  refine lv_iload_n hx hb dX12_poured_0 rfl (lv_at hl 1 rfl) ?_
  refine lv_if_lt (tgt := 12) hx hb dX12_poured_1 (by decide) (fun c1 => ?_) (fun c1 => ?_)
  · have g2 := z_f_lt rfl z_l0 c1
    have b3 := Int32.toInt_lt a1
    refine lv_iconst (v := (-1)) hx hb dX12_poured_12 (by decide) ?_
    exact z_iret hx hb hr hK hS (Nat.le_of_ble_eq_true rfl) (Nat.le_of_ble_eq_true rfl) hlocks dX12_poured_13 (shM, ad, I, J, PM ad) hW rfl
  · have g4 := z_f_nlt rfl z_l0 c1
    have b5 := Int32.toInt_lt a1
    refine lv_iload_n hx hb dX12_poured_4 rfl (lv_at hl 1 rfl) ?_
    refine lv_aload_n hx hb dX12_poured_5 rfl (lv_at hl 0 rfl) ?_
    have r6 : 0 ≤ (I 0 55).toInt ∧ (I 0 55).toInt ≤ 300 := hms.2
    refine z_get (T := TX12) (N := 96) (ci := 12) (i := 0) (v := .int (I 0 55)) hx hb hts zj_X12_poured_X12 hown hK hW rfl rfl 55 (by decide) (hts (.fieldLink RX12 468 "PetrolBoardModel" "pours" "I") (me_s (me_l (List.mem_of_getElem? (i := 0) rfl)))) (fun _ h => h) rfl dX12_poured_6 ?_
    refine lv_icmp_lt (tgt := 14) hx hb dX12_poured_9 (by decide) (fun c7 => ?_) (fun c7 => ?_)
    · have g8 := z_f_lt rfl rfl c7
      refine lv_iload_n hx hb dX12_poured_14 rfl (lv_at hl 2 rfl) ?_
      by_cases q9 : a2 = 0
      · refine lv_tableIn (tgt := 56) hx hb dX12_poured_15 (by rw [q9]; decide) (by rw [q9]; decide) (by rw [q9]; rfl) (by decide) ?_
        refine lv_aload_n hx hb dX12_poured_56 rfl (lv_at hl 0 rfl) ?_
        refine z_get (T := TX12) (N := 96) (ci := 12) (i := 0) (v := .ref (ad 34)) hx hb hts zj_X12_poured_X12 hown hK hW rfl rfl 57 (by decide) (hts (.fieldLink RX12 118 "PetrolBoardModel" "pourAt" "[I") (me_s (me_l (List.mem_of_getElem? (i := 1) rfl)))) (fun _ h => h) rfl dX12_poured_57 ?_
        refine lv_iload_n hx hb dX12_poured_60 rfl (lv_at hl 1 rfl) ?_
        refine z_iald (i := 34) hx hb hK hW rfl (z_ix rfl (by omega) (by omega)) dX12_poured_61 ?_
        refine lv_topi (fun x10 ex10 => ?_)
        exact z_iret hx hb hr hK hS (Nat.le_of_ble_eq_true rfl) (Nat.le_of_ble_eq_true rfl) hlocks dX12_poured_62 (shM, ad, I, J, PM ad) hW rfl
      by_cases q11 : a2 = 1
      · refine lv_tableIn (tgt := 63) hx hb dX12_poured_15 (by rw [q11]; decide) (by rw [q11]; decide) (by rw [q11]; rfl) (by decide) ?_
        refine lv_aload_n hx hb dX12_poured_63 rfl (lv_at hl 0 rfl) ?_
        refine z_get (T := TX12) (N := 96) (ci := 12) (i := 0) (v := .ref (ad 35)) hx hb hts zj_X12_poured_X12 hown hK hW rfl rfl 58 (by decide) (hts (.fieldLink RX12 121 "PetrolBoardModel" "pourWho" "[I") (me_s (me_l (List.mem_of_getElem? (i := 2) rfl)))) (fun _ h => h) rfl dX12_poured_64 ?_
        refine lv_iload_n hx hb dX12_poured_67 rfl (lv_at hl 1 rfl) ?_
        refine z_iald (i := 35) hx hb hK hW rfl (z_ix rfl (by omega) (by omega)) dX12_poured_68 ?_
        refine lv_topi (fun x12 ex12 => ?_)
        exact z_iret hx hb hr hK hS (Nat.le_of_ble_eq_true rfl) (Nat.le_of_ble_eq_true rfl) hlocks dX12_poured_69 (shM, ad, I, J, PM ad) hW rfl
      by_cases q13 : a2 = 2
      · refine lv_tableIn (tgt := 70) hx hb dX12_poured_15 (by rw [q13]; decide) (by rw [q13]; decide) (by rw [q13]; rfl) (by decide) ?_
        refine lv_aload_n hx hb dX12_poured_70 rfl (lv_at hl 0 rfl) ?_
        refine z_get (T := TX12) (N := 96) (ci := 12) (i := 0) (v := .ref (ad 36)) hx hb hts zj_X12_poured_X12 hown hK hW rfl rfl 59 (by decide) (hts (.fieldLink RX12 124 "PetrolBoardModel" "pourCoupon" "[I") (me_s (me_l (List.mem_of_getElem? (i := 3) rfl)))) (fun _ h => h) rfl dX12_poured_71 ?_
        refine lv_iload_n hx hb dX12_poured_74 rfl (lv_at hl 1 rfl) ?_
        refine z_iald (i := 36) hx hb hK hW rfl (z_ix rfl (by omega) (by omega)) dX12_poured_75 ?_
        refine lv_topi (fun x14 ex14 => ?_)
        exact z_iret hx hb hr hK hS (Nat.le_of_ble_eq_true rfl) (Nat.le_of_ble_eq_true rfl) hlocks dX12_poured_76 (shM, ad, I, J, PM ad) hW rfl
      by_cases q15 : a2 = 3
      · refine lv_tableIn (tgt := 77) hx hb dX12_poured_15 (by rw [q15]; decide) (by rw [q15]; decide) (by rw [q15]; rfl) (by decide) ?_
        refine lv_aload_n hx hb dX12_poured_77 rfl (lv_at hl 0 rfl) ?_
        refine z_get (T := TX12) (N := 96) (ci := 12) (i := 0) (v := .ref (ad 37)) hx hb hts zj_X12_poured_X12 hown hK hW rfl rfl 60 (by decide) (hts (.fieldLink RX12 127 "PetrolBoardModel" "pourDay" "[I") (me_s (me_l (List.mem_of_getElem? (i := 4) rfl)))) (fun _ h => h) rfl dX12_poured_78 ?_
        refine lv_iload_n hx hb dX12_poured_81 rfl (lv_at hl 1 rfl) ?_
        refine z_iald (i := 37) hx hb hK hW rfl (z_ix rfl (by omega) (by omega)) dX12_poured_82 ?_
        refine lv_topi (fun x16 ex16 => ?_)
        exact z_iret hx hb hr hK hS (Nat.le_of_ble_eq_true rfl) (Nat.le_of_ble_eq_true rfl) hlocks dX12_poured_83 (shM, ad, I, J, PM ad) hW rfl
      by_cases q17 : a2 = 4
      · refine lv_tableIn (tgt := 84) hx hb dX12_poured_15 (by rw [q17]; decide) (by rw [q17]; decide) (by rw [q17]; rfl) (by decide) ?_
        refine lv_aload_n hx hb dX12_poured_84 rfl (lv_at hl 0 rfl) ?_
        refine z_get (T := TX12) (N := 96) (ci := 12) (i := 0) (v := .ref (ad 38)) hx hb hts zj_X12_poured_X12 hown hK hW rfl rfl 61 (by decide) (hts (.fieldLink RX12 130 "PetrolBoardModel" "pourTenths" "[I") (me_s (me_l (List.mem_of_getElem? (i := 5) rfl)))) (fun _ h => h) rfl dX12_poured_85 ?_
        refine lv_iload_n hx hb dX12_poured_88 rfl (lv_at hl 1 rfl) ?_
        refine z_iald (i := 38) hx hb hK hW rfl (z_ix rfl (by omega) (by omega)) dX12_poured_89 ?_
        refine lv_topi (fun x18 ex18 => ?_)
        exact z_iret hx hb hr hK hS (Nat.le_of_ble_eq_true rfl) (Nat.le_of_ble_eq_true rfl) hlocks dX12_poured_90 (shM, ad, I, J, PM ad) hW rfl
      by_cases q19 : a2 = 5
      · refine lv_tableIn (tgt := 91) hx hb dX12_poured_15 (by rw [q19]; decide) (by rw [q19]; decide) (by rw [q19]; rfl) (by decide) ?_
        refine lv_aload_n hx hb dX12_poured_91 rfl (lv_at hl 0 rfl) ?_
        refine z_get (T := TX12) (N := 96) (ci := 12) (i := 0) (v := .ref (ad 40)) hx hb hts zj_X12_poured_X12 hown hK hW rfl rfl 63 (by decide) (hts (.fieldLink RX12 136 "PetrolBoardModel" "pourJudged" "[I") (me_s (me_l (List.mem_of_getElem? (i := 6) rfl)))) (fun _ h => h) rfl dX12_poured_92 ?_
        refine lv_iload_n hx hb dX12_poured_95 rfl (lv_at hl 1 rfl) ?_
        refine z_iald (i := 40) hx hb hK hW rfl (z_ix rfl (by omega) (by omega)) dX12_poured_96 ?_
        refine lv_topi (fun x20 ex20 => ?_)
        exact z_iret hx hb hr hK hS (Nat.le_of_ble_eq_true rfl) (Nat.le_of_ble_eq_true rfl) hlocks dX12_poured_97 (shM, ad, I, J, PM ad) hW rfl
      by_cases q21 : a2 = 6
      · refine lv_tableIn (tgt := 98) hx hb dX12_poured_15 (by rw [q21]; decide) (by rw [q21]; decide) (by rw [q21]; rfl) (by decide) ?_
        refine lv_aload_n hx hb dX12_poured_98 rfl (lv_at hl 0 rfl) ?_
        refine z_get (T := TX12) (N := 96) (ci := 12) (i := 0) (v := .ref (ad 42)) hx hb hts zj_X12_poured_X12 hown hK hW rfl rfl 65 (by decide) (hts (.fieldLink RX12 142 "PetrolBoardModel" "pourDyed" "[Z") (me_s (me_l (List.mem_of_getElem? (i := 7) rfl)))) (fun _ h => h) rfl dX12_poured_99 ?_
        refine lv_iload_n hx hb dX12_poured_102 rfl (lv_at hl 1 rfl) ?_
        refine z_zald (i := 42) hx hb hK hW rfl (z_ix rfl (by omega) (by omega)) dX12_poured_103 ?_
        refine lv_topi (fun x22 ex22 => ?_)
        refine lv_if_eq (tgt := 111) hx hb dX12_poured_104 (by decide) (fun c23 => ?_) (fun c23 => ?_)
        · have g24 := z_f_eq rfl z_l0 c23
          have b25 := Int32.toInt_lt x22
          refine lv_iconst (v := 0) hx hb dX12_poured_111 (by decide) ?_
          exact z_iret hx hb hr hK hS (Nat.le_of_ble_eq_true rfl) (Nat.le_of_ble_eq_true rfl) hlocks dX12_poured_112 (shM, ad, I, J, PM ad) hW rfl
        · have g26 := z_f_ne rfl z_l0 c23
          have b27 := Int32.toInt_lt x22
          refine lv_iconst (v := 1) hx hb dX12_poured_107 (by decide) ?_
          refine lv_goto (tgt := 112) hx hb dX12_poured_108 (by decide) ?_
          exact z_iret hx hb hr hK hS (Nat.le_of_ble_eq_true rfl) (Nat.le_of_ble_eq_true rfl) hlocks dX12_poured_112 (shM, ad, I, J, PM ad) hW rfl
      have q9 := z_f_ne rfl z_l0 q9
      have q11 := z_f_ne rfl z_l1 q11
      have q13 := z_f_ne rfl z_l2 q13
      have q15 := z_f_ne rfl z_l3 q15
      have q17 := z_f_ne rfl z_l4 q17
      have q19 := z_f_ne rfl z_l5 q19
      have q21 := z_f_ne rfl z_l6 q21
      refine lv_tableOut (tgt := 113) hx hb dX12_poured_15 (by omega) (by decide) ?_
      refine lv_iconst (v := (-1)) hx hb dX12_poured_113 (by decide) ?_
      exact z_iret hx hb hr hK hS (Nat.le_of_ble_eq_true rfl) (Nat.le_of_ble_eq_true rfl) hlocks dX12_poured_114 (shM, ad, I, J, PM ad) hW rfl
    · have g28 := z_f_nlt rfl rfl c7
      refine lv_iconst (v := (-1)) hx hb dX12_poured_12 (by decide) ?_
      exact z_iret hx hb hr hK hS (Nat.le_of_ble_eq_true rfl) (Nat.le_of_ble_eq_true rfl) hlocks dX12_poured_13 (shM, ad, I, J, PM ad) hW rfl
theorem zj_X12_found_X12 : ∀ w ∈ wsX120, w ∈ wsX12_found := fun w h => (List.mem_cons_of_mem _ (List.mem_append_right _ h))
set_option maxHeartbeats 8000000 in
set_option maxRecDepth 100000 in
theorem sx_X12_found (l : Launch) (G : z_G) (ad : Nat → Nat) (I : z_I) (J : z_J) (hma : z_ima I) (hms : z_ims I) (a1 : Int32) : z_M l yX12_found wsX12_found { frames := 2, cells := 0, slots := 0, locals := 37 } [.ref (ad 0), .int a1] G (shM, ad, I, J, PM ad) (fun r u1 => u1 = (shM, ad, I, J, PM ad)) 0 0 := by
  intro sz
  refine z_headQ (cc := cX12_found) (maxL := 4) (ret := (some .int)) (by decide) rfl (Nat.le_of_ble_eq_true rfl) ?_
  intro p e s m below meth c0 ls hIn hK hsz hW hl
  obtain ⟨hx, hb, hr, hml, hown, hts, hlocks, hname⟩ := hIn
  subst hsz
  have hown : s.vm.findClass RX12 = some m.cls := hown
  have hA : ∀ q : Nat, s.heap.size ≤ q → z_A (shM, ad, I, J, PM ad) s.heap.size q := fun q h => Or.inr h
  generalize hAe : z_A (shM, ad, I, J, PM ad) s.heap.size = A at *
  have hS : va_S A s.heap s.heap [] := va_S.rf
  have hl : lv_has ls 4 [(0, .ref (ad 0)), (1, .int a1)] := hl
  refine lv_aload_n hx hb dX12_found_0 rfl (lv_at hl 0 rfl) ?_
  refine lv_iload_n hx hb dX12_found_1 rfl (lv_at hl 1 rfl) ?_
  refine z_ci hW hS hA (va_runV (As := [.int a1]) (rest := []) ⟨hx, hb, hml, hown, hts⟩ (sx_X12_isHolder l G ad I J ⟨(by show 0 ≤ (I 0 0).toInt ∧ (I 0 0).toInt ≤ 719; exact hma.1), (by show 0 ≤ (I 0 1).toInt ∧ (I 0 1).toInt ≤ 30; exact hma.2.1), (by show 0 ≤ (I 0 2).toInt ∧ (I 0 2).toInt ≤ 200; exact hma.2.2)⟩ a1 _) (cwV 1 hts gX12_found_X12_isHolder rfl rfl rfl hy_X12_isHolder ⟨Nat.le_of_ble_eq_true rfl, Nat.le_of_ble_eq_true rfl⟩) (z_preV (i := 0) hK hW rfl rfl) rfl rfl hl.1 rfl (lv_room (Nat.le_of_ble_eq_true rfl)) dX12_found_2 ⟨Nat.le_of_ble_eq_true rfl, Nat.le_of_ble_eq_true rfl⟩) (fun r u1 H locs hp hW hS => ?_)
  obtain ⟨e9, hp⟩ := hp
  rw [e9] at hW
  rcases hp with ⟨rfl, h1, h2⟩ | rfl
  · refine lv_if_ne (tgt := 10) hx hb dX12_found_5 (by decide) (fun c3 => ?_) (fun c3 => absurd c3 (by decide))
    refine lv_iconst (v := 0) hx hb dX12_found_10 (by decide) ?_
    refine lv_istore_n (lv' := [(2, .int 0), (0, .ref (ad 0)), (1, .int a1)]) hx hb dX12_found_11 rfl hl (by decide) rfl (fun ls hl => ?_)
    refine lv_iconst (v := 0) hx hb dX12_found_12 (by decide) ?_
    refine lv_istore_n (lv' := [(3, .int 0), (2, .int 0), (0, .ref (ad 0)), (1, .int a1)]) hx hb dX12_found_13 rfl hl (by decide) rfl (fun ls hl => ?_)
    have lp4 : ∀ (f : Nat) (y5 : Int32) (y6 : Int32) (H : Heap) (locs : List Loc) (ls : Array Slot), (2147483647 < y5.toInt + (f : Int)) → (0 ≤ y5.toInt) → z_W G A (shM, ad, I, J, PM ad) H → va_S A s.heap H locs → lv_has ls 4 [(3, .int y5), (2, .int y6), (0, .ref (ad 0)), (1, .int a1)] → W p l e (headSpec wsX12_found { frames := 2, cells := 0, slots := 0, locals := 37 }).room s m ([.ref (ad 0), .int a1] : List Value).toArray below meth c0 H locs 0 0 (MQ below (va_Qi (fun (r : Int32) (u1 : z_U) => u1 = (shM, ad, I, J, PM ad)) (z_B G A) A) ([.ref (ad 0), .int a1] : List Value).toArray s 0 0 A) (F0 m 14 ls []) := by
      intro f
      induction f with
      | zero => intro y5 y6 H locs ls lp4m lp4l3 hW hS hl; exact absurd lp4m (by have := Int32.toInt_lt y5; have := Int32.le_toInt y5; omega)
      | succ f lp4ih =>
        intro y5 y6 H locs ls lp4m lp4l3 hW hS hl
        refine lv_iload_n hx hb dX12_found_14 rfl (lv_at hl 0 rfl) ?_
        refine lv_aload_n hx hb dX12_found_15 rfl (lv_at hl 2 rfl) ?_
        have r7 : 0 ≤ (I 0 55).toInt ∧ (I 0 55).toInt ≤ 300 := hms.2
        refine z_get (T := TX12) (N := 96) (ci := 12) (i := 0) (v := .int (I 0 55)) hx hb hts zj_X12_found_X12 hown hK hW rfl rfl 55 (by decide) (hts (.fieldLink RX12 468 "PetrolBoardModel" "pours" "I") (me_s (me_l (List.mem_of_getElem? (i := 0) rfl)))) (fun _ h => h) rfl dX12_found_16 ?_
        refine lv_icmp_ge (tgt := 45) hx hb dX12_found_19 (by decide) (fun c8 => ?_) (fun c8 => ?_)
        · have g9 := z_f_ge rfl rfl c8
          have b10 := Int32.toInt_lt y5
          refine lv_iload_n hx hb dX12_found_45 rfl (lv_at hl 1 rfl) ?_
          refine lv_if_eq (tgt := 70) hx hb dX12_found_46 (by decide) (fun c11 => ?_) (fun c11 => ?_)
          · have g12 := z_f_eq rfl z_l0 c11
            have b13 := Int32.toInt_lt y6
            refine lv_iconst (v := 0) hx hb dX12_found_70 (by decide) ?_
            exact z_iret hx hb hr hK hS (Nat.le_of_ble_eq_true rfl) (Nat.le_of_ble_eq_true rfl) hlocks dX12_found_71 (shM, ad, I, J, PM ad) hW rfl
          · have g14 := z_f_ne rfl z_l0 c11
            have b15 := Int32.toInt_lt y6
            refine lv_aload_n hx hb dX12_found_49 rfl (lv_at hl 2 rfl) ?_
            refine lv_iload_n hx hb dX12_found_50 rfl (lv_at hl 3 rfl) ?_
            refine lv_aload_n hx hb dX12_found_51 rfl (lv_at hl 2 rfl) ?_
            have r16 : 0 ≤ (I 0 0).toInt ∧ (I 0 0).toInt ≤ 719 := hma.1
            refine z_get (T := TX12) (N := 96) (ci := 12) (i := 0) (v := .int (I 0 0)) hx hb hts zj_X12_found_X12 hown hK hW rfl rfl 0 (by decide) (hts (.fieldLink RX12 232 "PetrolBoardModel" "today" "I") (me_s (me_l (List.mem_of_getElem? (i := 3) rfl)))) (fun _ h => h) rfl dX12_found_52 ?_
            refine lv_aload_n hx hb dX12_found_55 rfl (lv_at hl 2 rfl) ?_
            refine z_get (T := TX12) (N := 96) (ci := 12) (i := 0) (v := .int (I 0 0)) hx hb hts zj_X12_found_X12 hown hK hW rfl rfl 0 (by decide) (hts (.fieldLink RX12 232 "PetrolBoardModel" "today" "I") (me_s (me_l (List.mem_of_getElem? (i := 3) rfl)))) (fun _ h => h) rfl dX12_found_56 ?_
            refine z_ci hW hS hA (va_runV (As := [.int a1, .int (I 0 0), .int (I 0 0)]) (rest := []) ⟨hx, hb, hml, hown, hts⟩ (sx_X12_kindOn l G ad I J ⟨(by show 0 ≤ (I 0 0).toInt ∧ (I 0 0).toInt ≤ 719; exact hma.1), (by show 0 ≤ (I 0 1).toInt ∧ (I 0 1).toInt ≤ 30; exact hma.2.1), (by show 0 ≤ (I 0 2).toInt ∧ (I 0 2).toInt ≤ 200; exact hma.2.2)⟩ a1 (I 0 0) (I 0 0) _) (cwV 3 hts gX12_found_X12_kindOn rfl rfl rfl hy_X12_kindOn ⟨Nat.le_of_ble_eq_true rfl, Nat.le_of_ble_eq_true rfl⟩) (z_preV (i := 0) hK hW rfl rfl) rfl rfl hl.1 rfl (lv_room (Nat.le_of_ble_eq_true rfl)) dX12_found_59 ⟨Nat.le_of_ble_eq_true rfl, Nat.le_of_ble_eq_true rfl⟩) (fun r u1 H locs hp hW hS => ?_)
            rw [hp] at hW
            refine lv_topi (fun x17 ex17 => ?_)
            refine lv_iconst (v := 2) hx hb dX12_found_62 (by decide) ?_
            refine lv_icmp_eq (tgt := 70) hx hb dX12_found_63 (by decide) (fun c18 => ?_) (fun c18 => ?_)
            · have g19 := z_f_eq rfl z_l2 c18
              have b20 := Int32.toInt_lt x17
              refine lv_iconst (v := 0) hx hb dX12_found_70 (by decide) ?_
              exact z_iret hx hb hr hK hS (Nat.le_of_ble_eq_true rfl) (Nat.le_of_ble_eq_true rfl) hlocks dX12_found_71 (shM, ad, I, J, PM ad) hW rfl
            · have g21 := z_f_ne rfl z_l2 c18
              have b22 := Int32.toInt_lt x17
              refine lv_iconst (v := 1) hx hb dX12_found_66 (by decide) ?_
              refine lv_goto (tgt := 71) hx hb dX12_found_67 (by decide) ?_
              exact z_iret hx hb hr hK hS (Nat.le_of_ble_eq_true rfl) (Nat.le_of_ble_eq_true rfl) hlocks dX12_found_71 (shM, ad, I, J, PM ad) hW rfl
        · have g23 := z_f_nge rfl rfl c8
          have b24 := Int32.toInt_lt y5
          refine lv_aload_n hx hb dX12_found_22 rfl (lv_at hl 2 rfl) ?_
          refine z_get (T := TX12) (N := 96) (ci := 12) (i := 0) (v := .ref (ad 35)) hx hb hts zj_X12_found_X12 hown hK hW rfl rfl 58 (by decide) (hts (.fieldLink RX12 121 "PetrolBoardModel" "pourWho" "[I") (me_s (me_l (List.mem_of_getElem? (i := 1) rfl)))) (fun _ h => h) rfl dX12_found_23 ?_
          refine lv_iload_n hx hb dX12_found_26 rfl (lv_at hl 0 rfl) ?_
          refine z_iald (i := 35) hx hb hK hW rfl (z_ix rfl (by omega) (by omega)) dX12_found_27 ?_
          refine lv_topi (fun x25 ex25 => ?_)
          refine lv_iload_n hx hb dX12_found_28 rfl (lv_at hl 3 rfl) ?_
          refine lv_icmp_ne (tgt := 39) hx hb dX12_found_29 (by decide) (fun c26 => ?_) (fun c26 => ?_)
          · have g27 := z_f_ne rfl rfl c26
            have b28 := Int32.toInt_lt x25
            obtain ⟨x29, ex29⟩ : ∃ y : Int32, y = y5 + 1 := ⟨_, rfl⟩
            have tx29 : x29.toInt = y5.toInt + 1 := z_tadd ex29 rfl z_l1 (by omega) (by omega)
            refine lv_iinc (v := x29) (lv' := [(3, .int x29), (2, .int y6), (0, .ref (ad 0)), (1, .int a1)]) hx hb dX12_found_39 hl (k := 0) rfl (by rw [ex29]; rfl) (by decide) rfl (fun ls hl => ?_)
            refine lv_goto (tgt := 14) hx hb dX12_found_42 (by decide) ?_
            exact lp4ih x29 y6 _ _ _ (by omega) (by omega) hW hS (lv_sub hl [0, 1, 2, 3] rfl)
          · have g30 := z_f_eq rfl rfl c26
            have b31 := Int32.toInt_lt x25
            refine lv_aload_n hx hb dX12_found_32 rfl (lv_at hl 2 rfl) ?_
            refine z_get (T := TX12) (N := 96) (ci := 12) (i := 0) (v := .ref (ad 42)) hx hb hts zj_X12_found_X12 hown hK hW rfl rfl 65 (by decide) (hts (.fieldLink RX12 142 "PetrolBoardModel" "pourDyed" "[Z") (me_s (me_l (List.mem_of_getElem? (i := 2) rfl)))) (fun _ h => h) rfl dX12_found_33 ?_
            refine lv_iload_n hx hb dX12_found_36 rfl (lv_at hl 0 rfl) ?_
            refine z_zald (i := 42) hx hb hK hW rfl (z_ix rfl (by omega) (by omega)) dX12_found_37 ?_
            refine lv_topi (fun x32 ex32 => ?_)
            refine lv_istore_n (lv' := [(2, .int x32), (3, .int y5), (0, .ref (ad 0)), (1, .int a1)]) hx hb dX12_found_38 rfl hl (by decide) rfl (fun ls hl => ?_)
            obtain ⟨x33, ex33⟩ : ∃ y : Int32, y = y5 + 1 := ⟨_, rfl⟩
            have tx33 : x33.toInt = y5.toInt + 1 := z_tadd ex33 rfl z_l1 (by omega) (by omega)
            refine lv_iinc (v := x33) (lv' := [(3, .int x33), (2, .int x32), (0, .ref (ad 0)), (1, .int a1)]) hx hb dX12_found_39 hl (k := 1) rfl (by rw [ex33]; rfl) (by decide) rfl (fun ls hl => ?_)
            refine lv_goto (tgt := 14) hx hb dX12_found_42 (by decide) ?_
            exact lp4ih x33 x32 _ _ _ (by omega) (by omega) hW hS (lv_sub hl [0, 1, 2, 3] rfl)
    exact lp4 4294967296 (0) (0) _ _ _ (z_m0u _) (by rw [z_l0]; omega) hW hS (lv_sub hl [0, 1, 2, 3] rfl)
  · refine lv_if_ne (tgt := 10) hx hb dX12_found_5 (by decide) (fun c34 => absurd (by decide) c34) (fun c34 => ?_)
    refine lv_iconst (v := (-1)) hx hb dX12_found_8 (by decide) ?_
    exact z_iret hx hb hr hK hS (Nat.le_of_ble_eq_true rfl) (Nat.le_of_ble_eq_true rfl) hlocks dX12_found_9 (shM, ad, I, J, PM ad) hW rfl
noncomputable def L_X12_level : z_L := [(51, 999)]
theorem zj_X12_level_X12 : ∀ w ∈ wsX120, w ∈ wsX12_level := fun w h => (List.mem_cons_of_mem _ (List.mem_append_right _ h))
set_option maxHeartbeats 8000000 in
set_option maxRecDepth 100000 in
theorem sx_X12_level (l : Launch) (G : z_G) (ad : Nat → Nat) (I : z_I) (J : z_J) (a1 : Int32) (a2 : Int32) : z_M l yX12_level wsX12_level { frames := 2, cells := 0, slots := 0, locals := 34 } [.ref (ad 0), .int a1, .int a2] G (shM, ad, I, J, PM ad) (fun r u1 => ∃ (I1 : z_I) (J1 : z_J), u1 = (shM, ad, I1, J1, PM ad) ∧ z_fr L_X12_level I1 I ∧ (r = 1 ∨ r = 0)) 0 0 := by
  intro sz
  refine z_headQ (cc := cX12_level) (maxL := 3) (ret := (some .boolean)) (by decide) rfl (Nat.le_of_ble_eq_true rfl) ?_
  intro p e s m below meth c0 ls hIn hK hsz hW hl
  obtain ⟨hx, hb, hr, hml, hown, hts, hlocks, hname⟩ := hIn
  subst hsz
  have hown : s.vm.findClass RX12 = some m.cls := hown
  have hA : ∀ q : Nat, s.heap.size ≤ q → z_A (shM, ad, I, J, PM ad) s.heap.size q := fun q h => Or.inr h
  generalize hAe : z_A (shM, ad, I, J, PM ad) s.heap.size = A at *
  have hS : va_S A s.heap s.heap [] := va_S.rf
  have hl : lv_has ls 3 [(0, .ref (ad 0)), (1, .int a1), (2, .int a2)] := hl
  refine lv_iload_n hx hb dX12_level_0 rfl (lv_at hl 1 rfl) ?_
  refine lv_iconst (v := 0) hx hb dX12_level_1 (by decide) ?_
  refine lv_bipush (v := 29) hx hb dX12_level_2 (by decide) ?_
  refine z_ci hW hS hA (va_runS (As := [.int a1, .int 0, .int 29]) (rest := []) ⟨hx, hb, hml, hown, hts⟩ (sx_X12_within l G ad I J  a1 0 29 _) (va_cwS 3 hts gX12_level_X12_within rfl rfl rfl hy_X12_within.2 ⟨Nat.le_of_ble_eq_true rfl, Nat.le_of_ble_eq_true rfl⟩) (z_preS hK hW) rfl rfl hl.1 rfl (lv_room (Nat.le_of_ble_eq_true rfl)) dX12_level_4 ⟨Nat.le_of_ble_eq_true rfl, Nat.le_of_ble_eq_true rfl⟩) (fun r u1 H locs hp hW hS => ?_)
  obtain ⟨e9, hp⟩ := hp
  rw [e9] at hW
  rcases hp with ⟨rfl, h1, h2⟩ | rfl
  · have h1 := z_t_le z_l0 rfl h1
    have h2 := z_t_le rfl z_l29 h2
    refine lv_if_eq (tgt := 21) hx hb dX12_level_7 (by decide) (fun c3 => absurd c3 (by decide)) (fun c3 => ?_)
    refine lv_iload_n hx hb dX12_level_10 rfl (lv_at hl 2 rfl) ?_
    refine lv_iconst (v := 0) hx hb dX12_level_11 (by decide) ?_
    refine lv_ldcw (v := 300000) hx hb hown (hts (.constant RX12 492 (300000)) (me_s (me_l (List.mem_of_getElem? (i := 0) rfl)))) dX12_level_12 ?_
    refine z_ci hW hS hA (va_runS (As := [.int a2, .int 0, .int 300000]) (rest := []) ⟨hx, hb, hml, hown, hts⟩ (sx_X12_within l G ad I J  a2 0 300000 _) (va_cwS 3 hts gX12_level_X12_within rfl rfl rfl hy_X12_within.2 ⟨Nat.le_of_ble_eq_true rfl, Nat.le_of_ble_eq_true rfl⟩) (z_preS hK hW) rfl rfl hl.1 rfl (lv_room (Nat.le_of_ble_eq_true rfl)) dX12_level_15 ⟨Nat.le_of_ble_eq_true rfl, Nat.le_of_ble_eq_true rfl⟩) (fun r u1 H locs hp hW hS => ?_)
    obtain ⟨e9, hp⟩ := hp
    rw [e9] at hW
    rcases hp with ⟨rfl, h4, h5⟩ | rfl
    · have h4 := z_t_le z_l0 rfl h4
      have h5 := z_t_le rfl z_l300000 h5
      refine lv_if_ne (tgt := 23) hx hb dX12_level_18 (by decide) (fun c6 => ?_) (fun c6 => absurd c6 (by decide))
      refine lv_aload_n hx hb dX12_level_23 rfl (lv_at hl 0 rfl) ?_
      refine z_get (T := TX12) (N := 96) (ci := 12) (i := 0) (v := .ref (ad 51)) hx hb hts zj_X12_level_X12 hown hK hW rfl rfl 74 (by decide) (hts (.fieldLink RX12 169 "PetrolBoardModel" "levels" "[I") (me_s (me_l (List.mem_of_getElem? (i := 1) rfl)))) (fun _ h => h) rfl dX12_level_24 ?_
      refine lv_iload_n hx hb dX12_level_27 rfl (lv_at hl 1 rfl) ?_
      refine lv_iload_n hx hb dX12_level_28 rfl (lv_at hl 2 rfl) ?_
      refine z_iast (i := 51) hx hb hK hW hS rfl (z_ix rfl (by omega) (by omega)) dX12_level_29 (fun H locs hz1 hW hS => ?_)
      obtain ⟨I7, eI7⟩ : ∃ K : z_I, K = z_up I 51 a1.toNatClampNeg a2 := ⟨_, rfl⟩
      rw [← eI7] at hW
      have f8 := z_fr_a z_fr_0 (show z_wa L_X12_level 51 = true by decide) eI7
      refine lv_iconst (v := 1) hx hb dX12_level_30 (by decide) ?_
      exact z_zret hx hb hr (by decide) hK hS (Nat.le_of_ble_eq_true rfl) (Nat.le_of_ble_eq_true rfl) hlocks dX12_level_31 (shM, ad, I7, J, PM ad) hW ⟨I7, J, rfl, f8, Or.inl rfl⟩
    · refine lv_if_ne (tgt := 23) hx hb dX12_level_18 (by decide) (fun c9 => absurd (by decide) c9) (fun c9 => ?_)
      refine lv_iconst (v := 0) hx hb dX12_level_21 (by decide) ?_
      exact z_zret hx hb hr (by decide) hK hS (Nat.le_of_ble_eq_true rfl) (Nat.le_of_ble_eq_true rfl) hlocks dX12_level_22 (shM, ad, I, J, PM ad) hW ⟨I, J, rfl, z_fr_0, Or.inr rfl⟩
  · refine lv_if_eq (tgt := 21) hx hb dX12_level_7 (by decide) (fun c10 => ?_) (fun c10 => absurd (by decide) c10)
    refine lv_iconst (v := 0) hx hb dX12_level_21 (by decide) ?_
    exact z_zret hx hb hr (by decide) hK hS (Nat.le_of_ble_eq_true rfl) (Nat.le_of_ble_eq_true rfl) hlocks dX12_level_22 (shM, ad, I, J, PM ad) hW ⟨I, J, rfl, z_fr_0, Or.inr rfl⟩
theorem zj_X12_port_X12 : ∀ w ∈ wsX120, w ∈ wsX12_port := fun w h => (List.mem_cons_of_mem _ (List.mem_append_right _ h))
theorem zj_X12_want_X12 : ∀ w ∈ wsX120, w ∈ wsX12_want := fun w h => (List.mem_cons_of_mem _ (List.mem_append_right _ h))
theorem zj_X12_road_X12 : ∀ w ∈ wsX120, w ∈ wsX12_road := fun w h => (List.mem_cons_of_mem _ (List.mem_append_right _ h))