theorem dX4_hasPort_12 : decode cX4_hasPort 12 = .ok (.iload_n 1, 1) := z_dd_27 (by decide +kernel)
theorem dX4_hasPort_13 : decode cX4_hasPort 13 = .ok (.iconst 4, 1) := z_dd_7 (by decide +kernel)
theorem dX4_hasPort_14 : decode cX4_hasPort 14 = .ok (.if_icmp .ge 7, 3) := z_dd_162 (by decide +kernel)
theorem dX4_hasPort_17 : decode cX4_hasPort 17 = .ok (.iconst 1, 1) := z_dd_4 (by decide +kernel)
theorem dX4_hasPort_18 : decode cX4_hasPort 18 = .ok (.goto 4, 3) := z_dd_167 (by decide +kernel)
theorem dX4_isPort_0 : decode cX4_isPort 0 = .ok (.iload_n 0, 1) := z_dd_26 (by decide +kernel)
theorem dX4_isPort_1 : decode cX4_isPort 1 = .ok (.ifCond .lt 12, 3) := z_dd_155 (by decide +kernel)
theorem dX4_isPort_13 : decode cX4_isPort 13 = .ok (.iconst 0, 1) := z_dd_3 (by decide +kernel)
theorem dX4_isPort_14 : decode cX4_isPort 14 = .ok (.ireturn, 1) := z_dd_172 (by decide +kernel)
theorem dX4_isPort_4 : decode cX4_isPort 4 = .ok (.iload_n 0, 1) := z_dd_26 (by decide +kernel)
theorem dX4_isPort_5 : decode cX4_isPort 5 = .ok (.iconst 4, 1) := z_dd_7 (by decide +kernel)
theorem dX4_isPort_6 : decode cX4_isPort 6 = .ok (.if_icmp .ge 7, 3) := z_dd_162 (by decide +kernel)
theorem dX4_isPort_9 : decode cX4_isPort 9 = .ok (.iconst 1, 1) := z_dd_4 (by decide +kernel)
theorem dX4_isPort_10 : decode cX4_isPort 10 = .ok (.goto 4, 3) := z_dd_167 (by decide +kernel)
theorem dX4_isStation_0 : decode cX4_isStation 0 = .ok (.iload_n 0, 1) := z_dd_26 (by decide +kernel)
theorem dX4_isStation_1 : decode cX4_isStation 1 = .ok (.ifCond .lt 13, 3) := z_dd_155 (by decide +kernel)
theorem dX4_isStation_14 : decode cX4_isStation 14 = .ok (.iconst 0, 1) := z_dd_3 (by decide +kernel)
theorem dX4_isStation_15 : decode cX4_isStation 15 = .ok (.ireturn, 1) := z_dd_172 (by decide +kernel)
theorem dX4_isStation_4 : decode cX4_isStation 4 = .ok (.iload_n 0, 1) := z_dd_26 (by decide +kernel)
theorem dX4_isStation_5 : decode cX4_isStation 5 = .ok (.bipush 10, 2) := z_dd_16 (by decide +kernel)
theorem dX4_isStation_7 : decode cX4_isStation 7 = .ok (.if_icmp .ge 7, 3) := z_dd_162 (by decide +kernel)
theorem dX4_isStation_10 : decode cX4_isStation 10 = .ok (.iconst 1, 1) := z_dd_4 (by decide +kernel)
theorem dX4_isStation_11 : decode cX4_isStation 11 = .ok (.goto 4, 3) := z_dd_167 (by decide +kernel)
theorem dX4_addPort_8 : decode cX4_addPort 8 = .ok (.iconst (-1), 1) := z_dd_2 (by decide +kernel)
theorem dX4_addPort_9 : decode cX4_addPort 9 = .ok (.ireturn, 1) := z_dd_172 (by decide +kernel)
theorem dX4_putWant_0 : decode cX4_putWant 0 = .ok (.iload_n 1, 1) := z_dd_27 (by decide +kernel)
theorem dX4_putWant_1 : decode cX4_putWant 1 = .ok (.ifCond .lt 16, 3) := z_dd_155 (by decide +kernel)
theorem dX4_putWant_17 : decode cX4_putWant 17 = .ok (.return_, 1) := z_dd_177 (by decide +kernel)
theorem dX4_putWant_4 : decode cX4_putWant 4 = .ok (.iload_n 1, 1) := z_dd_27 (by decide +kernel)
theorem dX4_putWant_5 : decode cX4_putWant 5 = .ok (.bipush 10, 2) := z_dd_16 (by decide +kernel)
theorem dX4_putWant_7 : decode cX4_putWant 7 = .ok (.if_icmp .ge 10, 3) := z_dd_162 (by decide +kernel)
theorem dX4_putWant_10 : decode cX4_putWant 10 = .ok (.aload_n 0, 1) := z_dd_42 (by decide +kernel)
theorem dX4_putWant_11 : decode cX4_putWant 11 = .ok (.getfield 15, 3) := z_dd_180 (by decide +kernel)
theorem dX4_putWant_14 : decode cX4_putWant 14 = .ok (.iload_n 1, 1) := z_dd_27 (by decide +kernel)
theorem dX4_putWant_15 : decode cX4_putWant 15 = .ok (.iload_n 2, 1) := z_dd_28 (by decide +kernel)
theorem dX4_putWant_16 : decode cX4_putWant 16 = .ok (.iastore, 1) := z_dd_79 (by decide +kernel)
theorem dX4_putRoad_0 : decode cX4_putRoad 0 = .ok (.aload_n 0, 1) := z_dd_42 (by decide +kernel)
theorem dX4_putRoad_1 : decode cX4_putRoad 1 = .ok (.iload_n 1, 1) := z_dd_27 (by decide +kernel)
set_option maxRecDepth 20000 in
theorem ggX4_putRoad_X4_hasPort : GoodIn wsX4_putRoad wsX4_hasPort := goodIn_sub (fa_c (me_s (me_l (List.mem_of_getElem? (i := 5) rfl))) (fa_a (fa_c (me_s (me_l (List.mem_of_getElem? (i := 6) rfl))) fa_n) (fun w h => (me_s (me_r h))))) (by decide +kernel)
set_option maxRecDepth 20000 in
theorem gX4_putRoad_X4_hasPort : GoodIn wsX4_putRoad (wsV RX4 48 RX4 yX4_hasPort wsX4_hasPort) := goodIn_app (goodIn_sub (fa_c (me_s (me_l (List.mem_of_getElem? (i := 1) rfl))) (fa_c (me_s (me_l (List.mem_of_getElem? (i := 2) rfl))) (fa_c (me_s (me_l (List.mem_of_getElem? (i := 3) rfl))) (fa_c (me_s (me_l (List.mem_of_getElem? (i := 4) rfl))) fa_n)))) (by decide +kernel)) ggX4_putRoad_X4_hasPort
theorem dX4_putRoad_2 : decode cX4_putRoad 2 = .ok (.invokevirtual 48, 3) := z_dd_182 (by decide +kernel)
theorem dX4_putRoad_5 : decode cX4_putRoad 5 = .ok (.ifCond .eq 22, 3) := z_dd_153 (by decide +kernel)
theorem dX4_putRoad_8 : decode cX4_putRoad 8 = .ok (.iload_n 2, 1) := z_dd_28 (by decide +kernel)
theorem dX4_putRoad_9 : decode cX4_putRoad 9 = .ok (.ifCond .lt 18, 3) := z_dd_155 (by decide +kernel)
theorem dX4_putRoad_27 : decode cX4_putRoad 27 = .ok (.return_, 1) := z_dd_177 (by decide +kernel)
theorem dX4_putRoad_12 : decode cX4_putRoad 12 = .ok (.iload_n 2, 1) := z_dd_28 (by decide +kernel)
theorem dX4_putRoad_13 : decode cX4_putRoad 13 = .ok (.bipush 10, 2) := z_dd_16 (by decide +kernel)
theorem dX4_putRoad_15 : decode cX4_putRoad 15 = .ok (.if_icmp .ge 12, 3) := z_dd_162 (by decide +kernel)
theorem dX4_putRoad_18 : decode cX4_putRoad 18 = .ok (.aload_n 0, 1) := z_dd_42 (by decide +kernel)
theorem dX4_putRoad_19 : decode cX4_putRoad 19 = .ok (.getfield 20, 3) := z_dd_180 (by decide +kernel)
theorem dX4_putRoad_22 : decode cX4_putRoad 22 = .ok (.iload_n 1, 1) := z_dd_27 (by decide +kernel)
theorem dX4_putRoad_23 : decode cX4_putRoad 23 = .ok (.aaload, 1) := z_dd_50 (by decide +kernel)
theorem dX4_putRoad_24 : decode cX4_putRoad 24 = .ok (.iload_n 2, 1) := z_dd_28 (by decide +kernel)
theorem dX4_putRoad_25 : decode cX4_putRoad 25 = .ok (.iload_n 3, 1) := z_dd_29 (by decide +kernel)
theorem dX4_putRoad_26 : decode cX4_putRoad 26 = .ok (.iastore, 1) := z_dd_79 (by decide +kernel)
theorem dX4_inPorts_0 : decode cX4_inPorts 0 = .ok (.iconst 0, 1) := z_dd_3 (by decide +kernel)
theorem dX4_inPorts_1 : decode cX4_inPorts 1 = .ok (.istore_n 1, 1) := z_dd_60 (by decide +kernel)
theorem dX4_inPorts_2 : decode cX4_inPorts 2 = .ok (.iconst 0, 1) := z_dd_3 (by decide +kernel)
theorem dX4_inPorts_3 : decode cX4_inPorts 3 = .ok (.istore_n 2, 1) := z_dd_61 (by decide +kernel)
theorem dX4_inPorts_4 : decode cX4_inPorts 4 = .ok (.iload_n 2, 1) := z_dd_28 (by decide +kernel)
theorem dX4_inPorts_5 : decode cX4_inPorts 5 = .ok (.aload_n 0, 1) := z_dd_42 (by decide +kernel)
theorem dX4_inPorts_6 : decode cX4_inPorts 6 = .ok (.getfield 44, 3) := z_dd_180 (by decide +kernel)
theorem dX4_inPorts_9 : decode cX4_inPorts 9 = .ok (.if_icmp .ge 23, 3) := z_dd_162 (by decide +kernel)
theorem dX4_inPorts_32 : decode cX4_inPorts 32 = .ok (.iload_n 1, 1) := z_dd_27 (by decide +kernel)
theorem dX4_inPorts_33 : decode cX4_inPorts 33 = .ok (.ireturn, 1) := z_dd_172 (by decide +kernel)
theorem dX4_inPorts_12 : decode cX4_inPorts 12 = .ok (.iload_n 2, 1) := z_dd_28 (by decide +kernel)
theorem dX4_inPorts_13 : decode cX4_inPorts 13 = .ok (.iconst 4, 1) := z_dd_7 (by decide +kernel)
theorem dX4_inPorts_14 : decode cX4_inPorts 14 = .ok (.if_icmp .ge 18, 3) := z_dd_162 (by decide +kernel)
theorem dX4_inPorts_17 : decode cX4_inPorts 17 = .ok (.iload_n 1, 1) := z_dd_27 (by decide +kernel)
theorem dX4_inPorts_18 : decode cX4_inPorts 18 = .ok (.aload_n 0, 1) := z_dd_42 (by decide +kernel)
theorem dX4_inPorts_19 : decode cX4_inPorts 19 = .ok (.getfield 9, 3) := z_dd_180 (by decide +kernel)
theorem dX4_inPorts_22 : decode cX4_inPorts 22 = .ok (.iload_n 2, 1) := z_dd_28 (by decide +kernel)
theorem dX4_inPorts_23 : decode cX4_inPorts 23 = .ok (.iaload, 1) := z_dd_46 (by decide +kernel)
theorem dX4_inPorts_24 : decode cX4_inPorts 24 = .ok (.iadd, 1) := z_dd_96 (by decide +kernel)
theorem dX4_inPorts_25 : decode cX4_inPorts 25 = .ok (.istore_n 1, 1) := z_dd_60 (by decide +kernel)
theorem dX4_inPorts_26 : decode cX4_inPorts 26 = .ok (.iinc 2 1, 3) := z_dd_132 (by decide +kernel)
theorem dX4_inPorts_29 : decode cX4_inPorts 29 = .ok (.goto (-25), 3) := z_dd_167 (by decide +kernel)
theorem dX4_shorten_0 : decode cX4_shorten 0 = .ok (.iconst 0, 1) := z_dd_3 (by decide +kernel)
theorem dX4_shorten_1 : decode cX4_shorten 1 = .ok (.istore_n 1, 1) := z_dd_60 (by decide +kernel)
theorem dX4_shorten_2 : decode cX4_shorten 2 = .ok (.iconst 0, 1) := z_dd_3 (by decide +kernel)
theorem dX4_shorten_3 : decode cX4_shorten 3 = .ok (.istore_n 2, 1) := z_dd_61 (by decide +kernel)
theorem dX4_shorten_4 : decode cX4_shorten 4 = .ok (.iload_n 2, 1) := z_dd_28 (by decide +kernel)
theorem dX4_shorten_5 : decode cX4_shorten 5 = .ok (.iconst 4, 1) := z_dd_7 (by decide +kernel)
theorem dX4_shorten_6 : decode cX4_shorten 6 = .ok (.if_icmp .ge 155, 3) := z_dd_162 (by decide +kernel)
theorem dX4_shorten_161 : decode cX4_shorten 161 = .ok (.iload_n 1, 1) := z_dd_27 (by decide +kernel)
theorem dX4_shorten_162 : decode cX4_shorten 162 = .ok (.ireturn, 1) := z_dd_172 (by decide +kernel)
theorem dX4_shorten_9 : decode cX4_shorten 9 = .ok (.iconst 0, 1) := z_dd_3 (by decide +kernel)
theorem dX4_shorten_10 : decode cX4_shorten 10 = .ok (.istore_n 3, 1) := z_dd_62 (by decide +kernel)
theorem dX4_shorten_11 : decode cX4_shorten 11 = .ok (.iload_n 3, 1) := z_dd_29 (by decide +kernel)
theorem dX4_shorten_12 : decode cX4_shorten 12 = .ok (.bipush 10, 2) := z_dd_16 (by decide +kernel)
theorem dX4_shorten_14 : decode cX4_shorten 14 = .ok (.if_icmp .ge 141, 3) := z_dd_162 (by decide +kernel)
theorem dX4_shorten_155 : decode cX4_shorten 155 = .ok (.iinc 2 1, 3) := z_dd_132 (by decide +kernel)
theorem dX4_shorten_158 : decode cX4_shorten 158 = .ok (.goto (-154), 3) := z_dd_167 (by decide +kernel)
theorem dX4_shorten_17 : decode cX4_shorten 17 = .ok (.aload_n 0, 1) := z_dd_42 (by decide +kernel)
theorem dX4_shorten_18 : decode cX4_shorten 18 = .ok (.getfield 20, 3) := z_dd_180 (by decide +kernel)
theorem dX4_shorten_21 : decode cX4_shorten 21 = .ok (.iload_n 2, 1) := z_dd_28 (by decide +kernel)
theorem dX4_shorten_22 : decode cX4_shorten 22 = .ok (.aaload, 1) := z_dd_50 (by decide +kernel)
theorem dX4_shorten_23 : decode cX4_shorten 23 = .ok (.iload_n 3, 1) := z_dd_29 (by decide +kernel)
theorem dX4_shorten_24 : decode cX4_shorten 24 = .ok (.iaload, 1) := z_dd_46 (by decide +kernel)
theorem dX4_shorten_25 : decode cX4_shorten 25 = .ok (.istore 4, 2) := z_dd_54 (by decide +kernel)
theorem dX4_shorten_27 : decode cX4_shorten 27 = .ok (.iload 4, 2) := z_dd_21 (by decide +kernel)
theorem dX4_shorten_29 : decode cX4_shorten 29 = .ok (.ifCond .le 56, 3) := z_dd_158 (by decide +kernel)
theorem dX4_shorten_85 : decode cX4_shorten 85 = .ok (.aload_n 0, 1) := z_dd_42 (by decide +kernel)
theorem dX4_shorten_86 : decode cX4_shorten 86 = .ok (.getfield 23, 3) := z_dd_180 (by decide +kernel)
theorem dX4_shorten_89 : decode cX4_shorten 89 = .ok (.iload_n 2, 1) := z_dd_28 (by decide +kernel)
theorem dX4_shorten_90 : decode cX4_shorten 90 = .ok (.aaload, 1) := z_dd_50 (by decide +kernel)
theorem dX4_shorten_91 : decode cX4_shorten 91 = .ok (.iload_n 3, 1) := z_dd_29 (by decide +kernel)
theorem dX4_shorten_92 : decode cX4_shorten 92 = .ok (.iaload, 1) := z_dd_46 (by decide +kernel)
theorem dX4_shorten_93 : decode cX4_shorten 93 = .ok (.ifCond .le 56, 3) := z_dd_158 (by decide +kernel)
theorem dX4_shorten_149 : decode cX4_shorten 149 = .ok (.iinc 3 1, 3) := z_dd_132 (by decide +kernel)
theorem dX4_shorten_152 : decode cX4_shorten 152 = .ok (.goto (-141), 3) := z_dd_167 (by decide +kernel)
theorem dX4_shorten_96 : decode cX4_shorten 96 = .ok (.aload_n 0, 1) := z_dd_42 (by decide +kernel)
theorem dX4_shorten_97 : decode cX4_shorten 97 = .ok (.getfield 35, 3) := z_dd_180 (by decide +kernel)
theorem dX4_shorten_100 : decode cX4_shorten 100 = .ok (.iload_n 3, 1) := z_dd_29 (by decide +kernel)
theorem dX4_shorten_101 : decode cX4_shorten 101 = .ok (.iaload, 1) := z_dd_46 (by decide +kernel)
theorem dX4_shorten_102 : decode cX4_shorten 102 = .ok (.ldc 72, 2) := z_dd_18 (by decide +kernel)
theorem dX4_shorten_104 : decode cX4_shorten 104 = .ok (.if_icmp .ge 45, 3) := z_dd_162 (by decide +kernel)
theorem dX4_shorten_107 : decode cX4_shorten 107 = .ok (.aload_n 0, 1) := z_dd_42 (by decide +kernel)
theorem dX4_shorten_108 : decode cX4_shorten 108 = .ok (.getfield 35, 3) := z_dd_180 (by decide +kernel)
theorem dX4_shorten_111 : decode cX4_shorten 111 = .ok (.iload_n 3, 1) := z_dd_29 (by decide +kernel)
theorem dX4_shorten_112 : decode cX4_shorten 112 = .ok (.iaload, 1) := z_dd_46 (by decide +kernel)
theorem dX4_shorten_113 : decode cX4_shorten 113 = .ok (.iload 4, 2) := z_dd_21 (by decide +kernel)
theorem dX4_shorten_115 : decode cX4_shorten 115 = .ok (.isub, 1) := z_dd_100 (by decide +kernel)
theorem dX4_shorten_116 : decode cX4_shorten 116 = .ok (.aload_n 0, 1) := z_dd_42 (by decide +kernel)
theorem dX4_shorten_117 : decode cX4_shorten 117 = .ok (.getfield 32, 3) := z_dd_180 (by decide +kernel)
theorem dX4_shorten_120 : decode cX4_shorten 120 = .ok (.iload_n 2, 1) := z_dd_28 (by decide +kernel)
theorem dX4_shorten_121 : decode cX4_shorten 121 = .ok (.iaload, 1) := z_dd_46 (by decide +kernel)
theorem dX4_shorten_122 : decode cX4_shorten 122 = .ok (.if_icmp .ge 27, 3) := z_dd_162 (by decide +kernel)
theorem dX4_shorten_125 : decode cX4_shorten 125 = .ok (.aload_n 0, 1) := z_dd_42 (by decide +kernel)
theorem dX4_shorten_126 : decode cX4_shorten 126 = .ok (.getfield 32, 3) := z_dd_180 (by decide +kernel)
theorem dX4_shorten_129 : decode cX4_shorten 129 = .ok (.iload_n 2, 1) := z_dd_28 (by decide +kernel)
theorem dX4_shorten_130 : decode cX4_shorten 130 = .ok (.aload_n 0, 1) := z_dd_42 (by decide +kernel)
theorem dX4_shorten_131 : decode cX4_shorten 131 = .ok (.getfield 35, 3) := z_dd_180 (by decide +kernel)
theorem dX4_shorten_134 : decode cX4_shorten 134 = .ok (.iload_n 3, 1) := z_dd_29 (by decide +kernel)
theorem dX4_shorten_135 : decode cX4_shorten 135 = .ok (.iaload, 1) := z_dd_46 (by decide +kernel)
theorem dX4_shorten_136 : decode cX4_shorten 136 = .ok (.iload 4, 2) := z_dd_21 (by decide +kernel)
theorem dX4_shorten_138 : decode cX4_shorten 138 = .ok (.isub, 1) := z_dd_100 (by decide +kernel)
theorem dX4_shorten_139 : decode cX4_shorten 139 = .ok (.iastore, 1) := z_dd_79 (by decide +kernel)
theorem dX4_shorten_140 : decode cX4_shorten 140 = .ok (.aload_n 0, 1) := z_dd_42 (by decide +kernel)
theorem dX4_shorten_141 : decode cX4_shorten 141 = .ok (.getfield 41, 3) := z_dd_180 (by decide +kernel)
theorem dX4_shorten_144 : decode cX4_shorten 144 = .ok (.iload_n 2, 1) := z_dd_28 (by decide +kernel)
theorem dX4_shorten_145 : decode cX4_shorten 145 = .ok (.iload_n 3, 1) := z_dd_29 (by decide +kernel)
theorem dX4_shorten_146 : decode cX4_shorten 146 = .ok (.iastore, 1) := z_dd_79 (by decide +kernel)
theorem dX4_shorten_147 : decode cX4_shorten 147 = .ok (.iconst 1, 1) := z_dd_4 (by decide +kernel)
theorem dX4_shorten_148 : decode cX4_shorten 148 = .ok (.istore_n 1, 1) := z_dd_60 (by decide +kernel)
theorem dX4_shorten_32 : decode cX4_shorten 32 = .ok (.aload_n 0, 1) := z_dd_42 (by decide +kernel)
theorem dX4_shorten_33 : decode cX4_shorten 33 = .ok (.getfield 32, 3) := z_dd_180 (by decide +kernel)
theorem dX4_shorten_36 : decode cX4_shorten 36 = .ok (.iload_n 2, 1) := z_dd_28 (by decide +kernel)
theorem dX4_shorten_37 : decode cX4_shorten 37 = .ok (.iaload, 1) := z_dd_46 (by decide +kernel)
theorem dX4_shorten_38 : decode cX4_shorten 38 = .ok (.ldc 72, 2) := z_dd_18 (by decide +kernel)
theorem dX4_shorten_40 : decode cX4_shorten 40 = .ok (.if_icmp .ge 45, 3) := z_dd_162 (by decide +kernel)
theorem dX4_shorten_43 : decode cX4_shorten 43 = .ok (.aload_n 0, 1) := z_dd_42 (by decide +kernel)
theorem dX4_shorten_44 : decode cX4_shorten 44 = .ok (.getfield 32, 3) := z_dd_180 (by decide +kernel)
theorem dX4_shorten_47 : decode cX4_shorten 47 = .ok (.iload_n 2, 1) := z_dd_28 (by decide +kernel)
theorem dX4_shorten_48 : decode cX4_shorten 48 = .ok (.iaload, 1) := z_dd_46 (by decide +kernel)
theorem dX4_shorten_49 : decode cX4_shorten 49 = .ok (.iload 4, 2) := z_dd_21 (by decide +kernel)
theorem dX4_shorten_51 : decode cX4_shorten 51 = .ok (.iadd, 1) := z_dd_96 (by decide +kernel)
theorem dX4_shorten_52 : decode cX4_shorten 52 = .ok (.aload_n 0, 1) := z_dd_42 (by decide +kernel)
theorem dX4_shorten_53 : decode cX4_shorten 53 = .ok (.getfield 35, 3) := z_dd_180 (by decide +kernel)
theorem dX4_shorten_56 : decode cX4_shorten 56 = .ok (.iload_n 3, 1) := z_dd_29 (by decide +kernel)
theorem dX4_shorten_57 : decode cX4_shorten 57 = .ok (.iaload, 1) := z_dd_46 (by decide +kernel)
theorem dX4_shorten_58 : decode cX4_shorten 58 = .ok (.if_icmp .ge 27, 3) := z_dd_162 (by decide +kernel)
theorem dX4_shorten_61 : decode cX4_shorten 61 = .ok (.aload_n 0, 1) := z_dd_42 (by decide +kernel)
theorem dX4_shorten_62 : decode cX4_shorten 62 = .ok (.getfield 35, 3) := z_dd_180 (by decide +kernel)
theorem dX4_shorten_65 : decode cX4_shorten 65 = .ok (.iload_n 3, 1) := z_dd_29 (by decide +kernel)
theorem dX4_shorten_66 : decode cX4_shorten 66 = .ok (.aload_n 0, 1) := z_dd_42 (by decide +kernel)
theorem dX4_shorten_67 : decode cX4_shorten 67 = .ok (.getfield 32, 3) := z_dd_180 (by decide +kernel)
theorem dX4_shorten_70 : decode cX4_shorten 70 = .ok (.iload_n 2, 1) := z_dd_28 (by decide +kernel)
theorem dX4_shorten_71 : decode cX4_shorten 71 = .ok (.iaload, 1) := z_dd_46 (by decide +kernel)
theorem dX4_shorten_72 : decode cX4_shorten 72 = .ok (.iload 4, 2) := z_dd_21 (by decide +kernel)
theorem dX4_shorten_74 : decode cX4_shorten 74 = .ok (.iadd, 1) := z_dd_96 (by decide +kernel)
theorem dX4_shorten_75 : decode cX4_shorten 75 = .ok (.iastore, 1) := z_dd_79 (by decide +kernel)
theorem dX4_shorten_76 : decode cX4_shorten 76 = .ok (.aload_n 0, 1) := z_dd_42 (by decide +kernel)
theorem dX4_shorten_77 : decode cX4_shorten 77 = .ok (.getfield 38, 3) := z_dd_180 (by decide +kernel)
theorem dX4_shorten_80 : decode cX4_shorten 80 = .ok (.iload_n 3, 1) := z_dd_29 (by decide +kernel)
theorem dX4_shorten_81 : decode cX4_shorten 81 = .ok (.iload_n 2, 1) := z_dd_28 (by decide +kernel)
theorem dX4_shorten_82 : decode cX4_shorten 82 = .ok (.iastore, 1) := z_dd_79 (by decide +kernel)
theorem dX4_shorten_83 : decode cX4_shorten 83 = .ok (.iconst 1, 1) := z_dd_4 (by decide +kernel)
theorem dX4_shorten_84 : decode cX4_shorten 84 = .ok (.istore_n 1, 1) := z_dd_60 (by decide +kernel)
theorem dX4_cheapestEnd_0 : decode cX4_cheapestEnd 0 = .ok (.iconst 0, 1) := z_dd_3 (by decide +kernel)
theorem dX4_cheapestEnd_1 : decode cX4_cheapestEnd 1 = .ok (.istore_n 1, 1) := z_dd_60 (by decide +kernel)
theorem dX4_cheapestEnd_2 : decode cX4_cheapestEnd 2 = .ok (.iload_n 1, 1) := z_dd_27 (by decide +kernel)
theorem dX4_cheapestEnd_3 : decode cX4_cheapestEnd 3 = .ok (.iconst 4, 1) := z_dd_7 (by decide +kernel)
theorem dX4_cheapestEnd_4 : decode cX4_cheapestEnd 4 = .ok (.if_icmp .ge 37, 3) := z_dd_162 (by decide +kernel)
theorem dX4_cheapestEnd_41 : decode cX4_cheapestEnd 41 = .ok (.aload_n 0, 1) := z_dd_42 (by decide +kernel)
theorem dX4_cheapestEnd_42 : decode cX4_cheapestEnd 42 = .ok (.getfield 35, 3) := z_dd_180 (by decide +kernel)
theorem dX4_cheapestEnd_45 : decode cX4_cheapestEnd 45 = .ok (.ldc 72, 2) := z_dd_18 (by decide +kernel)
set_option maxRecDepth 20000 in
theorem ggX4_cheapestEnd_J7_fill_53178 : GoodIn wsX4_cheapestEnd wsJ7_fill_53178 := goodIn_sub (fa_c (me_s (me_l (List.mem_of_getElem? (i := 10) rfl))) fa_n) (by decide +kernel)
set_option maxRecDepth 20000 in
theorem gX4_cheapestEnd_J7_fill_53178 : GoodIn wsX4_cheapestEnd (va_wsS RX4 58 yJ7_fill_53178 wsJ7_fill_53178) := goodIn_app (goodIn_sub (fa_c (me_s (me_l (List.mem_of_getElem? (i := 7) rfl))) (fa_c (me_s (me_l (List.mem_of_getElem? (i := 8) rfl))) (fa_c (me_s (me_l (List.mem_of_getElem? (i := 9) rfl))) fa_n))) (by decide +kernel)) ggX4_cheapestEnd_J7_fill_53178
theorem dX4_cheapestEnd_47 : decode cX4_cheapestEnd 47 = .ok (.invokestatic 58, 3) := z_dd_184 (by decide +kernel)
theorem dX4_cheapestEnd_50 : decode cX4_cheapestEnd 50 = .ok (.aload_n 0, 1) := z_dd_42 (by decide +kernel)
theorem dX4_cheapestEnd_51 : decode cX4_cheapestEnd 51 = .ok (.getfield 38, 3) := z_dd_180 (by decide +kernel)
theorem dX4_cheapestEnd_54 : decode cX4_cheapestEnd 54 = .ok (.iconst (-1), 1) := z_dd_2 (by decide +kernel)
theorem dX4_cheapestEnd_55 : decode cX4_cheapestEnd 55 = .ok (.invokestatic 58, 3) := z_dd_184 (by decide +kernel)
theorem dX4_cheapestEnd_58 : decode cX4_cheapestEnd 58 = .ok (.iconst 1, 1) := z_dd_4 (by decide +kernel)
theorem dX4_cheapestEnd_59 : decode cX4_cheapestEnd 59 = .ok (.istore_n 1, 1) := z_dd_60 (by decide +kernel)
theorem dX4_cheapestEnd_60 : decode cX4_cheapestEnd 60 = .ok (.iconst 0, 1) := z_dd_3 (by decide +kernel)
theorem dX4_cheapestEnd_61 : decode cX4_cheapestEnd 61 = .ok (.istore_n 2, 1) := z_dd_61 (by decide +kernel)
theorem dX4_cheapestEnd_62 : decode cX4_cheapestEnd 62 = .ok (.iload_n 2, 1) := z_dd_28 (by decide +kernel)
theorem dX4_cheapestEnd_63 : decode cX4_cheapestEnd 63 = .ok (.bipush 14, 2) := z_dd_16 (by decide +kernel)
theorem dX4_cheapestEnd_65 : decode cX4_cheapestEnd 65 = .ok (.if_icmp .gt 18, 3) := z_dd_163 (by decide +kernel)
theorem dX4_cheapestEnd_83 : decode cX4_cheapestEnd 83 = .ok (.iconst (-1), 1) := z_dd_2 (by decide +kernel)
theorem dX4_cheapestEnd_84 : decode cX4_cheapestEnd 84 = .ok (.istore_n 2, 1) := z_dd_61 (by decide +kernel)
theorem dX4_cheapestEnd_85 : decode cX4_cheapestEnd 85 = .ok (.iconst 0, 1) := z_dd_3 (by decide +kernel)
theorem dX4_cheapestEnd_86 : decode cX4_cheapestEnd 86 = .ok (.istore_n 3, 1) := z_dd_62 (by decide +kernel)
theorem dX4_cheapestEnd_87 : decode cX4_cheapestEnd 87 = .ok (.iload_n 3, 1) := z_dd_29 (by decide +kernel)
theorem dX4_cheapestEnd_88 : decode cX4_cheapestEnd 88 = .ok (.bipush 10, 2) := z_dd_16 (by decide +kernel)
theorem dX4_cheapestEnd_90 : decode cX4_cheapestEnd 90 = .ok (.if_icmp .ge 63, 3) := z_dd_162 (by decide +kernel)
theorem dX4_cheapestEnd_153 : decode cX4_cheapestEnd 153 = .ok (.iload_n 2, 1) := z_dd_28 (by decide +kernel)
theorem dX4_cheapestEnd_154 : decode cX4_cheapestEnd 154 = .ok (.ireturn, 1) := z_dd_172 (by decide +kernel)
theorem dX4_cheapestEnd_93 : decode cX4_cheapestEnd 93 = .ok (.aload_n 0, 1) := z_dd_42 (by decide +kernel)
theorem dX4_cheapestEnd_94 : decode cX4_cheapestEnd 94 = .ok (.getfield 29, 3) := z_dd_180 (by decide +kernel)
theorem dX4_cheapestEnd_97 : decode cX4_cheapestEnd 97 = .ok (.iload_n 3, 1) := z_dd_29 (by decide +kernel)
theorem dX4_cheapestEnd_98 : decode cX4_cheapestEnd 98 = .ok (.iaload, 1) := z_dd_46 (by decide +kernel)
theorem dX4_cheapestEnd_99 : decode cX4_cheapestEnd 99 = .ok (.ifCond .le 18, 3) := z_dd_158 (by decide +kernel)
theorem dX4_cheapestEnd_117 : decode cX4_cheapestEnd 117 = .ok (.iconst 0, 1) := z_dd_3 (by decide +kernel)
theorem dX4_cheapestEnd_118 : decode cX4_cheapestEnd 118 = .ok (.istore 4, 2) := z_dd_54 (by decide +kernel)
theorem dX4_cheapestEnd_120 : decode cX4_cheapestEnd 120 = .ok (.iload 4, 2) := z_dd_21 (by decide +kernel)
theorem dX4_cheapestEnd_122 : decode cX4_cheapestEnd 122 = .ok (.ifCond .eq 25, 3) := z_dd_153 (by decide +kernel)
theorem dX4_cheapestEnd_147 : decode cX4_cheapestEnd 147 = .ok (.iinc 3 1, 3) := z_dd_132 (by decide +kernel)
theorem dX4_cheapestEnd_150 : decode cX4_cheapestEnd 150 = .ok (.goto (-63), 3) := z_dd_167 (by decide +kernel)
theorem dX4_cheapestEnd_102 : decode cX4_cheapestEnd 102 = .ok (.aload_n 0, 1) := z_dd_42 (by decide +kernel)
theorem dX4_cheapestEnd_103 : decode cX4_cheapestEnd 103 = .ok (.getfield 35, 3) := z_dd_180 (by decide +kernel)
theorem dX4_cheapestEnd_106 : decode cX4_cheapestEnd 106 = .ok (.iload_n 3, 1) := z_dd_29 (by decide +kernel)
theorem dX4_cheapestEnd_107 : decode cX4_cheapestEnd 107 = .ok (.iaload, 1) := z_dd_46 (by decide +kernel)
theorem dX4_cheapestEnd_108 : decode cX4_cheapestEnd 108 = .ok (.ldc 72, 2) := z_dd_18 (by decide +kernel)
theorem dX4_cheapestEnd_110 : decode cX4_cheapestEnd 110 = .ok (.if_icmp .ge 7, 3) := z_dd_162 (by decide +kernel)
theorem dX4_cheapestEnd_113 : decode cX4_cheapestEnd 113 = .ok (.iconst 1, 1) := z_dd_4 (by decide +kernel)
theorem dX4_cheapestEnd_114 : decode cX4_cheapestEnd 114 = .ok (.goto 4, 3) := z_dd_167 (by decide +kernel)
theorem dX4_cheapestEnd_125 : decode cX4_cheapestEnd 125 = .ok (.iload_n 2, 1) := z_dd_28 (by decide +kernel)
theorem dX4_cheapestEnd_126 : decode cX4_cheapestEnd 126 = .ok (.iconst (-1), 1) := z_dd_2 (by decide +kernel)
theorem dX4_cheapestEnd_127 : decode cX4_cheapestEnd 127 = .ok (.if_icmp .eq 18, 3) := z_dd_159 (by decide +kernel)
theorem dX4_cheapestEnd_145 : decode cX4_cheapestEnd 145 = .ok (.iload_n 3, 1) := z_dd_29 (by decide +kernel)
theorem dX4_cheapestEnd_146 : decode cX4_cheapestEnd 146 = .ok (.istore_n 2, 1) := z_dd_61 (by decide +kernel)
theorem dX4_cheapestEnd_130 : decode cX4_cheapestEnd 130 = .ok (.aload_n 0, 1) := z_dd_42 (by decide +kernel)
theorem dX4_cheapestEnd_131 : decode cX4_cheapestEnd 131 = .ok (.getfield 35, 3) := z_dd_180 (by decide +kernel)
theorem dX4_cheapestEnd_134 : decode cX4_cheapestEnd 134 = .ok (.iload_n 3, 1) := z_dd_29 (by decide +kernel)
theorem dX4_cheapestEnd_135 : decode cX4_cheapestEnd 135 = .ok (.iaload, 1) := z_dd_46 (by decide +kernel)
theorem dX4_cheapestEnd_136 : decode cX4_cheapestEnd 136 = .ok (.aload_n 0, 1) := z_dd_42 (by decide +kernel)
theorem dX4_cheapestEnd_137 : decode cX4_cheapestEnd 137 = .ok (.getfield 35, 3) := z_dd_180 (by decide +kernel)
theorem dX4_cheapestEnd_140 : decode cX4_cheapestEnd 140 = .ok (.iload_n 2, 1) := z_dd_28 (by decide +kernel)
theorem dX4_cheapestEnd_141 : decode cX4_cheapestEnd 141 = .ok (.iaload, 1) := z_dd_46 (by decide +kernel)
theorem dX4_cheapestEnd_142 : decode cX4_cheapestEnd 142 = .ok (.if_icmp .ge 5, 3) := z_dd_162 (by decide +kernel)
theorem dX4_cheapestEnd_68 : decode cX4_cheapestEnd 68 = .ok (.iload_n 1, 1) := z_dd_27 (by decide +kernel)
theorem dX4_cheapestEnd_69 : decode cX4_cheapestEnd 69 = .ok (.ifCond .eq 14, 3) := z_dd_153 (by decide +kernel)
theorem dX4_cheapestEnd_72 : decode cX4_cheapestEnd 72 = .ok (.aload_n 0, 1) := z_dd_42 (by decide +kernel)
set_option maxRecDepth 20000 in
theorem ggX4_cheapestEnd_X4_shorten : GoodIn wsX4_cheapestEnd wsX4_shorten := goodIn_sub (fa_c (me_s (me_l (List.mem_of_getElem? (i := 15) rfl))) (fa_a (fa_c (me_s (me_l (List.mem_of_getElem? (i := 16) rfl))) (fa_c (me_s (me_l (List.mem_of_getElem? (i := 0) rfl))) (fa_c (me_s (me_l (List.mem_of_getElem? (i := 2) rfl))) (fa_c (me_s (me_l (List.mem_of_getElem? (i := 4) rfl))) (fa_c (me_s (me_l (List.mem_of_getElem? (i := 5) rfl))) (fa_c (me_s (me_l (List.mem_of_getElem? (i := 17) rfl))) (fa_c (me_s (me_l (List.mem_of_getElem? (i := 3) rfl))) fa_n))))))) (fun w h => (me_s (me_r h))))) (by decide +kernel)
set_option maxRecDepth 20000 in
theorem gX4_cheapestEnd_X4_shorten : GoodIn wsX4_cheapestEnd (wsV RX4 73 RX4 yX4_shorten wsX4_shorten) := goodIn_app (goodIn_sub (fa_c (me_s (me_l (List.mem_of_getElem? (i := 11) rfl))) (fa_c (me_s (me_l (List.mem_of_getElem? (i := 12) rfl))) (fa_c (me_s (me_l (List.mem_of_getElem? (i := 13) rfl))) (fa_c (me_s (me_l (List.mem_of_getElem? (i := 14) rfl))) fa_n)))) (by decide +kernel)) ggX4_cheapestEnd_X4_shorten
theorem dX4_cheapestEnd_73 : decode cX4_cheapestEnd 73 = .ok (.invokevirtual 73, 3) := z_dd_182 (by decide +kernel)
theorem dX4_cheapestEnd_76 : decode cX4_cheapestEnd 76 = .ok (.istore_n 1, 1) := z_dd_60 (by decide +kernel)
theorem dX4_cheapestEnd_77 : decode cX4_cheapestEnd 77 = .ok (.iinc 2 1, 3) := z_dd_132 (by decide +kernel)
theorem dX4_cheapestEnd_80 : decode cX4_cheapestEnd 80 = .ok (.goto (-18), 3) := z_dd_167 (by decide +kernel)
theorem dX4_cheapestEnd_7 : decode cX4_cheapestEnd 7 = .ok (.aload_n 0, 1) := z_dd_42 (by decide +kernel)
theorem dX4_cheapestEnd_8 : decode cX4_cheapestEnd 8 = .ok (.getfield 32, 3) := z_dd_180 (by decide +kernel)
theorem dX4_cheapestEnd_11 : decode cX4_cheapestEnd 11 = .ok (.iload_n 1, 1) := z_dd_27 (by decide +kernel)
theorem dX4_cheapestEnd_12 : decode cX4_cheapestEnd 12 = .ok (.aload_n 0, 1) := z_dd_42 (by decide +kernel)
theorem dX4_cheapestEnd_13 : decode cX4_cheapestEnd 13 = .ok (.getfield 26, 3) := z_dd_180 (by decide +kernel)
theorem dX4_cheapestEnd_16 : decode cX4_cheapestEnd 16 = .ok (.iload_n 1, 1) := z_dd_27 (by decide +kernel)
theorem dX4_cheapestEnd_17 : decode cX4_cheapestEnd 17 = .ok (.iaload, 1) := z_dd_46 (by decide +kernel)
theorem dX4_cheapestEnd_18 : decode cX4_cheapestEnd 18 = .ok (.ifCond .le 7, 3) := z_dd_158 (by decide +kernel)
theorem dX4_cheapestEnd_25 : decode cX4_cheapestEnd 25 = .ok (.ldc 72, 2) := z_dd_18 (by decide +kernel)
theorem dX4_cheapestEnd_27 : decode cX4_cheapestEnd 27 = .ok (.iastore, 1) := z_dd_79 (by decide +kernel)
theorem dX4_cheapestEnd_28 : decode cX4_cheapestEnd 28 = .ok (.aload_n 0, 1) := z_dd_42 (by decide +kernel)
theorem dX4_cheapestEnd_29 : decode cX4_cheapestEnd 29 = .ok (.getfield 41, 3) := z_dd_180 (by decide +kernel)
theorem dX4_cheapestEnd_32 : decode cX4_cheapestEnd 32 = .ok (.iload_n 1, 1) := z_dd_27 (by decide +kernel)
theorem dX4_cheapestEnd_33 : decode cX4_cheapestEnd 33 = .ok (.iconst (-1), 1) := z_dd_2 (by decide +kernel)
theorem dX4_cheapestEnd_34 : decode cX4_cheapestEnd 34 = .ok (.iastore, 1) := z_dd_79 (by decide +kernel)
theorem dX4_cheapestEnd_35 : decode cX4_cheapestEnd 35 = .ok (.iinc 1 1, 3) := z_dd_132 (by decide +kernel)
theorem dX4_cheapestEnd_38 : decode cX4_cheapestEnd 38 = .ok (.goto (-36), 3) := z_dd_167 (by decide +kernel)
theorem dX4_cheapestEnd_21 : decode cX4_cheapestEnd 21 = .ok (.iconst 0, 1) := z_dd_3 (by decide +kernel)
theorem dX4_cheapestEnd_22 : decode cX4_cheapestEnd 22 = .ok (.goto 5, 3) := z_dd_167 (by decide +kernel)
theorem dX4_loadTo_0 : decode cX4_loadTo 0 = .ok (.iload_n 1, 1) := z_dd_27 (by decide +kernel)
set_option maxRecDepth 20000 in
theorem ggX4_loadTo_X4_isStation : GoodIn wsX4_loadTo wsX4_isStation := goodIn_sub (fa_c (me_s (me_l (List.mem_of_getElem? (i := 12) rfl))) fa_n) (by decide +kernel)
set_option maxRecDepth 20000 in
theorem gX4_loadTo_X4_isStation : GoodIn wsX4_loadTo (va_wsS RX4 81 yX4_isStation wsX4_isStation) := goodIn_app (goodIn_sub (fa_c (me_s (me_l (List.mem_of_getElem? (i := 9) rfl))) (fa_c (me_s (me_l (List.mem_of_getElem? (i := 10) rfl))) (fa_c (me_s (me_l (List.mem_of_getElem? (i := 11) rfl))) fa_n))) (by decide +kernel)) ggX4_loadTo_X4_isStation
theorem dX4_loadTo_1 : decode cX4_loadTo 1 = .ok (.invokestatic 81, 3) := z_dd_184 (by decide +kernel)
theorem dX4_loadTo_4 : decode cX4_loadTo 4 = .ok (.ifCond .ne 5, 3) := z_dd_154 (by decide +kernel)
theorem dX4_loadTo_9 : decode cX4_loadTo 9 = .ok (.aload_n 0, 1) := z_dd_42 (by decide +kernel)
theorem dX4_loadTo_10 : decode cX4_loadTo 10 = .ok (.getfield 29, 3) := z_dd_180 (by decide +kernel)
theorem dX4_loadTo_13 : decode cX4_loadTo 13 = .ok (.iload_n 1, 1) := z_dd_27 (by decide +kernel)
theorem dX4_loadTo_14 : decode cX4_loadTo 14 = .ok (.iaload, 1) := z_dd_46 (by decide +kernel)
theorem dX4_loadTo_15 : decode cX4_loadTo 15 = .ok (.istore_n 2, 1) := z_dd_61 (by decide +kernel)
theorem dX4_loadTo_16 : decode cX4_loadTo 16 = .ok (.iload_n 1, 1) := z_dd_27 (by decide +kernel)
theorem dX4_loadTo_17 : decode cX4_loadTo 17 = .ok (.istore_n 3, 1) := z_dd_62 (by decide +kernel)
theorem dX4_loadTo_18 : decode cX4_loadTo 18 = .ok (.iconst 0, 1) := z_dd_3 (by decide +kernel)
theorem dX4_loadTo_19 : decode cX4_loadTo 19 = .ok (.istore 4, 2) := z_dd_54 (by decide +kernel)
theorem dX4_loadTo_21 : decode cX4_loadTo 21 = .ok (.iload 4, 2) := z_dd_21 (by decide +kernel)
theorem dX4_loadTo_23 : decode cX4_loadTo 23 = .ok (.bipush 14, 2) := z_dd_16 (by decide +kernel)
theorem dX4_loadTo_25 : decode cX4_loadTo 25 = .ok (.if_icmp .ge 75, 3) := z_dd_162 (by decide +kernel)
theorem dX4_loadTo_100 : decode cX4_loadTo 100 = .ok (.iload_n 2, 1) := z_dd_28 (by decide +kernel)
theorem dX4_loadTo_101 : decode cX4_loadTo 101 = .ok (.ireturn, 1) := z_dd_172 (by decide +kernel)
theorem dX4_loadTo_28 : decode cX4_loadTo 28 = .ok (.iload_n 3, 1) := z_dd_29 (by decide +kernel)
theorem dX4_loadTo_29 : decode cX4_loadTo 29 = .ok (.invokestatic 81, 3) := z_dd_184 (by decide +kernel)
theorem dX4_loadTo_32 : decode cX4_loadTo 32 = .ok (.ifCond .eq 68, 3) := z_dd_153 (by decide +kernel)
theorem dX4_loadTo_35 : decode cX4_loadTo 35 = .ok (.aload_n 0, 1) := z_dd_42 (by decide +kernel)
theorem dX4_loadTo_36 : decode cX4_loadTo 36 = .ok (.getfield 38, 3) := z_dd_180 (by decide +kernel)
theorem dX4_loadTo_39 : decode cX4_loadTo 39 = .ok (.iload_n 3, 1) := z_dd_29 (by decide +kernel)
theorem dX4_loadTo_40 : decode cX4_loadTo 40 = .ok (.iaload, 1) := z_dd_46 (by decide +kernel)
set_option maxRecDepth 20000 in
theorem ggX4_loadTo_X4_isPort : GoodIn wsX4_loadTo wsX4_isPort := goodIn_sub (fa_c (me_s (me_l (List.mem_of_getElem? (i := 15) rfl))) fa_n) (by decide +kernel)
set_option maxRecDepth 20000 in
theorem gX4_loadTo_X4_isPort : GoodIn wsX4_loadTo (va_wsS RX4 84 yX4_isPort wsX4_isPort) := goodIn_app (goodIn_sub (fa_c (me_s (me_l (List.mem_of_getElem? (i := 13) rfl))) (fa_c (me_s (me_l (List.mem_of_getElem? (i := 14) rfl))) (fa_c (me_s (me_l (List.mem_of_getElem? (i := 11) rfl))) fa_n))) (by decide +kernel)) ggX4_loadTo_X4_isPort
theorem dX4_loadTo_41 : decode cX4_loadTo 41 = .ok (.invokestatic 84, 3) := z_dd_184 (by decide +kernel)
theorem dX4_loadTo_44 : decode cX4_loadTo 44 = .ok (.ifCond .eq 56, 3) := z_dd_153 (by decide +kernel)
theorem dX4_loadTo_47 : decode cX4_loadTo 47 = .ok (.aload_n 0, 1) := z_dd_42 (by decide +kernel)
theorem dX4_loadTo_48 : decode cX4_loadTo 48 = .ok (.getfield 38, 3) := z_dd_180 (by decide +kernel)
theorem dX4_loadTo_51 : decode cX4_loadTo 51 = .ok (.iload_n 3, 1) := z_dd_29 (by decide +kernel)
theorem dX4_loadTo_52 : decode cX4_loadTo 52 = .ok (.iaload, 1) := z_dd_46 (by decide +kernel)
theorem dX4_loadTo_53 : decode cX4_loadTo 53 = .ok (.istore 5, 2) := z_dd_54 (by decide +kernel)
theorem dX4_loadTo_55 : decode cX4_loadTo 55 = .ok (.aload_n 0, 1) := z_dd_42 (by decide +kernel)
theorem dX4_loadTo_56 : decode cX4_loadTo 56 = .ok (.getfield 41, 3) := z_dd_180 (by decide +kernel)
theorem dX4_loadTo_59 : decode cX4_loadTo 59 = .ok (.iload 5, 2) := z_dd_21 (by decide +kernel)
theorem dX4_loadTo_61 : decode cX4_loadTo 61 = .ok (.iaload, 1) := z_dd_46 (by decide +kernel)
theorem dX4_loadTo_62 : decode cX4_loadTo 62 = .ok (.istore_n 3, 1) := z_dd_62 (by decide +kernel)
theorem dX4_loadTo_63 : decode cX4_loadTo 63 = .ok (.iload_n 2, 1) := z_dd_28 (by decide +kernel)
theorem dX4_loadTo_64 : decode cX4_loadTo 64 = .ok (.iload_n 3, 1) := z_dd_29 (by decide +kernel)
theorem dX4_loadTo_65 : decode cX4_loadTo 65 = .ok (.invokestatic 81, 3) := z_dd_184 (by decide +kernel)
theorem dX4_loadTo_68 : decode cX4_loadTo 68 = .ok (.ifCond .eq 15, 3) := z_dd_153 (by decide +kernel)
theorem dX4_loadTo_71 : decode cX4_loadTo 71 = .ok (.aload_n 0, 1) := z_dd_42 (by decide +kernel)
theorem dX4_loadTo_72 : decode cX4_loadTo 72 = .ok (.getfield 23, 3) := z_dd_180 (by decide +kernel)
theorem dX4_loadTo_75 : decode cX4_loadTo 75 = .ok (.iload 5, 2) := z_dd_21 (by decide +kernel)
theorem dX4_loadTo_77 : decode cX4_loadTo 77 = .ok (.aaload, 1) := z_dd_50 (by decide +kernel)
theorem dX4_loadTo_78 : decode cX4_loadTo 78 = .ok (.iload_n 3, 1) := z_dd_29 (by decide +kernel)
theorem dX4_loadTo_79 : decode cX4_loadTo 79 = .ok (.iaload, 1) := z_dd_46 (by decide +kernel)
theorem dX4_loadTo_80 : decode cX4_loadTo 80 = .ok (.goto 10, 3) := z_dd_167 (by decide +kernel)
theorem dX4_loadTo_90 : decode cX4_loadTo 90 = .ok (.invokestatic 87, 3) := z_dd_184 (by decide +kernel)
theorem dX4_loadTo_93 : decode cX4_loadTo 93 = .ok (.istore_n 2, 1) := z_dd_61 (by decide +kernel)
theorem dX4_loadTo_94 : decode cX4_loadTo 94 = .ok (.iinc 4 1, 3) := z_dd_132 (by decide +kernel)
theorem dX4_loadTo_97 : decode cX4_loadTo 97 = .ok (.goto (-76), 3) := z_dd_167 (by decide +kernel)
theorem dX4_loadTo_83 : decode cX4_loadTo 83 = .ok (.aload_n 0, 1) := z_dd_42 (by decide +kernel)
theorem dX4_loadTo_84 : decode cX4_loadTo 84 = .ok (.getfield 26, 3) := z_dd_180 (by decide +kernel)
theorem dX4_loadTo_87 : decode cX4_loadTo 87 = .ok (.iload 5, 2) := z_dd_21 (by decide +kernel)
theorem dX4_loadTo_89 : decode cX4_loadTo 89 = .ok (.iaload, 1) := z_dd_46 (by decide +kernel)
theorem dX4_loadTo_7 : decode cX4_loadTo 7 = .ok (.iconst 0, 1) := z_dd_3 (by decide +kernel)
theorem dX4_loadTo_8 : decode cX4_loadTo 8 = .ok (.ireturn, 1) := z_dd_172 (by decide +kernel)
theorem dX4_sendTo_0 : decode cX4_sendTo 0 = .ok (.iload_n 1, 1) := z_dd_27 (by decide +kernel)
theorem dX4_sendTo_1 : decode cX4_sendTo 1 = .ok (.ifCond .lt 9, 3) := z_dd_155 (by decide +kernel)
theorem dX4_sendTo_10 : decode cX4_sendTo 10 = .ok (.return_, 1) := z_dd_177 (by decide +kernel)
theorem dX4_sendTo_4 : decode cX4_sendTo 4 = .ok (.iload_n 1, 1) := z_dd_27 (by decide +kernel)
theorem dX4_sendTo_5 : decode cX4_sendTo 5 = .ok (.bipush 10, 2) := z_dd_16 (by decide +kernel)
theorem dX4_sendTo_7 : decode cX4_sendTo 7 = .ok (.if_icmp .lt 4, 3) := z_dd_161 (by decide +kernel)
theorem dX4_sendTo_11 : decode cX4_sendTo 11 = .ok (.aload_n 0, 1) := z_dd_42 (by decide +kernel)
theorem dX4_sendTo_12 : decode cX4_sendTo 12 = .ok (.iload_n 1, 1) := z_dd_27 (by decide +kernel)
set_option maxRecDepth 20000 in
theorem ggX4_sendTo_X4_loadTo : GoodIn wsX4_sendTo wsX4_loadTo := goodIn_sub (fa_c (me_s (me_l (List.mem_of_getElem? (i := 12) rfl))) (fa_a (fa_c (me_s (me_l (List.mem_of_getElem? (i := 0) rfl))) (fa_c (me_s (me_l (List.mem_of_getElem? (i := 1) rfl))) (fa_c (me_s (me_l (List.mem_of_getElem? (i := 5) rfl))) (fa_c (me_s (me_l (List.mem_of_getElem? (i := 2) rfl))) (fa_c (me_s (me_l (List.mem_of_getElem? (i := 6) rfl))) (fa_c (me_s (me_l (List.mem_of_getElem? (i := 13) rfl))) (fa_c (me_s (me_l (List.mem_of_getElem? (i := 14) rfl))) (fa_c (me_s (me_l (List.mem_of_getElem? (i := 15) rfl))) (fa_c (me_s (me_l (List.mem_of_getElem? (i := 16) rfl))) (fa_c (me_s (me_l (List.mem_of_getElem? (i := 17) rfl))) (fa_c (me_s (me_l (List.mem_of_getElem? (i := 18) rfl))) (fa_c (me_s (me_l (List.mem_of_getElem? (i := 11) rfl))) (fa_c (me_s (me_l (List.mem_of_getElem? (i := 19) rfl))) (fa_c (me_s (me_l (List.mem_of_getElem? (i := 20) rfl))) (fa_c (me_s (me_l (List.mem_of_getElem? (i := 21) rfl))) (fa_c (me_s (me_l (List.mem_of_getElem? (i := 22) rfl))) fa_n)))))))))))))))) (fun w h => (me_s (me_r h))))) (by decide +kernel)
set_option maxRecDepth 20000 in
theorem gX4_sendTo_X4_loadTo : GoodIn wsX4_sendTo (wsV RX4 77 RX4 yX4_loadTo wsX4_loadTo) := goodIn_app (goodIn_sub (fa_c (me_s (me_l (List.mem_of_getElem? (i := 8) rfl))) (fa_c (me_s (me_l (List.mem_of_getElem? (i := 9) rfl))) (fa_c (me_s (me_l (List.mem_of_getElem? (i := 10) rfl))) (fa_c (me_s (me_l (List.mem_of_getElem? (i := 11) rfl))) fa_n)))) (by decide +kernel)) ggX4_sendTo_X4_loadTo
theorem dX4_sendTo_13 : decode cX4_sendTo 13 = .ok (.invokevirtual 77, 3) := z_dd_182 (by decide +kernel)
theorem dX4_sendTo_16 : decode cX4_sendTo 16 = .ok (.istore_n 2, 1) := z_dd_61 (by decide +kernel)
theorem dX4_sendTo_17 : decode cX4_sendTo 17 = .ok (.aload_n 0, 1) := z_dd_42 (by decide +kernel)
theorem dX4_sendTo_18 : decode cX4_sendTo 18 = .ok (.getfield 29, 3) := z_dd_180 (by decide +kernel)
theorem dX4_sendTo_21 : decode cX4_sendTo 21 = .ok (.iload_n 1, 1) := z_dd_27 (by decide +kernel)
theorem dX4_sendTo_22 : decode cX4_sendTo 22 = .ok (.dup2, 1) := z_dd_92 (by decide +kernel)
theorem dX4_sendTo_23 : decode cX4_sendTo 23 = .ok (.iaload, 1) := z_dd_46 (by decide +kernel)
theorem dX4_sendTo_24 : decode cX4_sendTo 24 = .ok (.iload_n 2, 1) := z_dd_28 (by decide +kernel)
theorem dX4_sendTo_25 : decode cX4_sendTo 25 = .ok (.isub, 1) := z_dd_100 (by decide +kernel)
theorem dX4_sendTo_26 : decode cX4_sendTo 26 = .ok (.iastore, 1) := z_dd_79 (by decide +kernel)
theorem dX4_sendTo_27 : decode cX4_sendTo 27 = .ok (.iload_n 1, 1) := z_dd_27 (by decide +kernel)
theorem dX4_sendTo_28 : decode cX4_sendTo 28 = .ok (.istore_n 3, 1) := z_dd_62 (by decide +kernel)
theorem dX4_sendTo_29 : decode cX4_sendTo 29 = .ok (.iconst 0, 1) := z_dd_3 (by decide +kernel)
theorem dX4_sendTo_30 : decode cX4_sendTo 30 = .ok (.istore 4, 2) := z_dd_54 (by decide +kernel)
theorem dX4_sendTo_32 : decode cX4_sendTo 32 = .ok (.iload 4, 2) := z_dd_21 (by decide +kernel)
theorem dX4_sendTo_34 : decode cX4_sendTo 34 = .ok (.bipush 14, 2) := z_dd_16 (by decide +kernel)
theorem dX4_sendTo_36 : decode cX4_sendTo 36 = .ok (.if_icmp .ge 131, 3) := z_dd_162 (by decide +kernel)
theorem dX4_sendTo_167 : decode cX4_sendTo 167 = .ok (.aload_n 0, 1) := z_dd_42 (by decide +kernel)
theorem dX4_sendTo_168 : decode cX4_sendTo 168 = .ok (.dup, 1) := z_dd_89 (by decide +kernel)
theorem dX4_sendTo_169 : decode cX4_sendTo 169 = .ok (.getfield 52, 3) := z_dd_180 (by decide +kernel)
theorem dX4_sendTo_172 : decode cX4_sendTo 172 = .ok (.iload_n 2, 1) := z_dd_28 (by decide +kernel)
theorem dX4_sendTo_173 : decode cX4_sendTo 173 = .ok (.iadd, 1) := z_dd_96 (by decide +kernel)
theorem dX4_sendTo_174 : decode cX4_sendTo 174 = .ok (.putfield 52, 3) := z_dd_181 (by decide +kernel)
theorem dX4_sendTo_177 : decode cX4_sendTo 177 = .ok (.return_, 1) := z_dd_177 (by decide +kernel)
theorem dX4_sendTo_39 : decode cX4_sendTo 39 = .ok (.iload_n 3, 1) := z_dd_29 (by decide +kernel)
set_option maxRecDepth 20000 in
theorem ggX4_sendTo_X4_isStation : GoodIn wsX4_sendTo wsX4_isStation := goodIn_sub (fa_c (me_s (me_l (List.mem_of_getElem? (i := 19) rfl))) fa_n) (by decide +kernel)
set_option maxRecDepth 20000 in
theorem gX4_sendTo_X4_isStation : GoodIn wsX4_sendTo (va_wsS RX4 81 yX4_isStation wsX4_isStation) := goodIn_app (goodIn_sub (fa_c (me_s (me_l (List.mem_of_getElem? (i := 17) rfl))) (fa_c (me_s (me_l (List.mem_of_getElem? (i := 18) rfl))) (fa_c (me_s (me_l (List.mem_of_getElem? (i := 11) rfl))) fa_n))) (by decide +kernel)) ggX4_sendTo_X4_isStation
theorem dX4_sendTo_40 : decode cX4_sendTo 40 = .ok (.invokestatic 81, 3) := z_dd_184 (by decide +kernel)
theorem dX4_sendTo_43 : decode cX4_sendTo 43 = .ok (.ifCond .eq 124, 3) := z_dd_153 (by decide +kernel)
theorem dX4_sendTo_46 : decode cX4_sendTo 46 = .ok (.aload_n 0, 1) := z_dd_42 (by decide +kernel)
theorem dX4_sendTo_47 : decode cX4_sendTo 47 = .ok (.getfield 38, 3) := z_dd_180 (by decide +kernel)
theorem dX4_sendTo_50 : decode cX4_sendTo 50 = .ok (.iload_n 3, 1) := z_dd_29 (by decide +kernel)
theorem dX4_sendTo_51 : decode cX4_sendTo 51 = .ok (.iaload, 1) := z_dd_46 (by decide +kernel)
set_option maxRecDepth 20000 in
theorem ggX4_sendTo_X4_isPort : GoodIn wsX4_sendTo wsX4_isPort := goodIn_sub (fa_c (me_s (me_l (List.mem_of_getElem? (i := 22) rfl))) fa_n) (by decide +kernel)
set_option maxRecDepth 20000 in
theorem gX4_sendTo_X4_isPort : GoodIn wsX4_sendTo (va_wsS RX4 84 yX4_isPort wsX4_isPort) := goodIn_app (goodIn_sub (fa_c (me_s (me_l (List.mem_of_getElem? (i := 20) rfl))) (fa_c (me_s (me_l (List.mem_of_getElem? (i := 21) rfl))) (fa_c (me_s (me_l (List.mem_of_getElem? (i := 11) rfl))) fa_n))) (by decide +kernel)) ggX4_sendTo_X4_isPort
theorem dX4_sendTo_52 : decode cX4_sendTo 52 = .ok (.invokestatic 84, 3) := z_dd_184 (by decide +kernel)
theorem dX4_sendTo_55 : decode cX4_sendTo 55 = .ok (.ifCond .eq 112, 3) := z_dd_153 (by decide +kernel)
theorem dX4_sendTo_58 : decode cX4_sendTo 58 = .ok (.aload_n 0, 1) := z_dd_42 (by decide +kernel)
theorem dX4_sendTo_59 : decode cX4_sendTo 59 = .ok (.getfield 38, 3) := z_dd_180 (by decide +kernel)
theorem dX4_sendTo_62 : decode cX4_sendTo 62 = .ok (.iload_n 3, 1) := z_dd_29 (by decide +kernel)
theorem dX4_sendTo_63 : decode cX4_sendTo 63 = .ok (.iaload, 1) := z_dd_46 (by decide +kernel)
theorem dX4_sendTo_64 : decode cX4_sendTo 64 = .ok (.istore 5, 2) := z_dd_54 (by decide +kernel)
theorem dX4_sendTo_66 : decode cX4_sendTo 66 = .ok (.aload_n 0, 1) := z_dd_42 (by decide +kernel)
theorem dX4_sendTo_67 : decode cX4_sendTo 67 = .ok (.getfield 23, 3) := z_dd_180 (by decide +kernel)
theorem dX4_sendTo_70 : decode cX4_sendTo 70 = .ok (.iload 5, 2) := z_dd_21 (by decide +kernel)
theorem dX4_sendTo_72 : decode cX4_sendTo 72 = .ok (.aaload, 1) := z_dd_50 (by decide +kernel)
theorem dX4_sendTo_73 : decode cX4_sendTo 73 = .ok (.iload_n 3, 1) := z_dd_29 (by decide +kernel)
theorem dX4_sendTo_74 : decode cX4_sendTo 74 = .ok (.dup2, 1) := z_dd_92 (by decide +kernel)
theorem dX4_sendTo_75 : decode cX4_sendTo 75 = .ok (.iaload, 1) := z_dd_46 (by decide +kernel)
theorem dX4_sendTo_76 : decode cX4_sendTo 76 = .ok (.iload_n 2, 1) := z_dd_28 (by decide +kernel)
theorem dX4_sendTo_77 : decode cX4_sendTo 77 = .ok (.iadd, 1) := z_dd_96 (by decide +kernel)
theorem dX4_sendTo_78 : decode cX4_sendTo 78 = .ok (.iastore, 1) := z_dd_79 (by decide +kernel)
theorem dX4_sendTo_79 : decode cX4_sendTo 79 = .ok (.aload_n 0, 1) := z_dd_42 (by decide +kernel)
theorem dX4_sendTo_80 : decode cX4_sendTo 80 = .ok (.dup, 1) := z_dd_89 (by decide +kernel)
theorem dX4_sendTo_81 : decode cX4_sendTo 81 = .ok (.getfield 55, 3) := z_dd_180 (by decide +kernel)
theorem dX4_sendTo_84 : decode cX4_sendTo 84 = .ok (.iload_n 2, 1) := z_dd_28 (by decide +kernel)
theorem dX4_sendTo_85 : decode cX4_sendTo 85 = .ok (.aload_n 0, 1) := z_dd_42 (by decide +kernel)
theorem dX4_sendTo_86 : decode cX4_sendTo 86 = .ok (.getfield 20, 3) := z_dd_180 (by decide +kernel)
theorem dX4_sendTo_89 : decode cX4_sendTo 89 = .ok (.iload 5, 2) := z_dd_21 (by decide +kernel)
theorem dX4_sendTo_91 : decode cX4_sendTo 91 = .ok (.aaload, 1) := z_dd_50 (by decide +kernel)
theorem dX4_sendTo_92 : decode cX4_sendTo 92 = .ok (.iload_n 3, 1) := z_dd_29 (by decide +kernel)
theorem dX4_sendTo_93 : decode cX4_sendTo 93 = .ok (.iaload, 1) := z_dd_46 (by decide +kernel)
theorem dX4_sendTo_94 : decode cX4_sendTo 94 = .ok (.imul, 1) := z_dd_104 (by decide +kernel)
theorem dX4_sendTo_95 : decode cX4_sendTo 95 = .ok (.iadd, 1) := z_dd_96 (by decide +kernel)
theorem dX4_sendTo_96 : decode cX4_sendTo 96 = .ok (.putfield 55, 3) := z_dd_181 (by decide +kernel)
theorem dX4_sendTo_99 : decode cX4_sendTo 99 = .ok (.aload_n 0, 1) := z_dd_42 (by decide +kernel)
theorem dX4_sendTo_100 : decode cX4_sendTo 100 = .ok (.getfield 41, 3) := z_dd_180 (by decide +kernel)
theorem dX4_sendTo_103 : decode cX4_sendTo 103 = .ok (.iload 5, 2) := z_dd_21 (by decide +kernel)
theorem dX4_sendTo_105 : decode cX4_sendTo 105 = .ok (.iaload, 1) := z_dd_46 (by decide +kernel)
theorem dX4_sendTo_106 : decode cX4_sendTo 106 = .ok (.istore_n 3, 1) := z_dd_62 (by decide +kernel)
theorem dX4_sendTo_107 : decode cX4_sendTo 107 = .ok (.iload_n 3, 1) := z_dd_29 (by decide +kernel)
theorem dX4_sendTo_108 : decode cX4_sendTo 108 = .ok (.invokestatic 81, 3) := z_dd_184 (by decide +kernel)
theorem dX4_sendTo_111 : decode cX4_sendTo 111 = .ok (.ifCond .eq 39, 3) := z_dd_153 (by decide +kernel)
theorem dX4_sendTo_114 : decode cX4_sendTo 114 = .ok (.aload_n 0, 1) := z_dd_42 (by decide +kernel)
theorem dX4_sendTo_115 : decode cX4_sendTo 115 = .ok (.getfield 23, 3) := z_dd_180 (by decide +kernel)
theorem dX4_sendTo_118 : decode cX4_sendTo 118 = .ok (.iload 5, 2) := z_dd_21 (by decide +kernel)
theorem dX4_sendTo_120 : decode cX4_sendTo 120 = .ok (.aaload, 1) := z_dd_50 (by decide +kernel)
theorem dX4_sendTo_121 : decode cX4_sendTo 121 = .ok (.iload_n 3, 1) := z_dd_29 (by decide +kernel)
theorem dX4_sendTo_122 : decode cX4_sendTo 122 = .ok (.dup2, 1) := z_dd_92 (by decide +kernel)
theorem dX4_sendTo_123 : decode cX4_sendTo 123 = .ok (.iaload, 1) := z_dd_46 (by decide +kernel)
theorem dX4_sendTo_124 : decode cX4_sendTo 124 = .ok (.iload_n 2, 1) := z_dd_28 (by decide +kernel)
theorem dX4_sendTo_125 : decode cX4_sendTo 125 = .ok (.isub, 1) := z_dd_100 (by decide +kernel)
theorem dX4_sendTo_126 : decode cX4_sendTo 126 = .ok (.iastore, 1) := z_dd_79 (by decide +kernel)
theorem dX4_sendTo_127 : decode cX4_sendTo 127 = .ok (.aload_n 0, 1) := z_dd_42 (by decide +kernel)
theorem dX4_sendTo_128 : decode cX4_sendTo 128 = .ok (.dup, 1) := z_dd_89 (by decide +kernel)
theorem dX4_sendTo_129 : decode cX4_sendTo 129 = .ok (.getfield 55, 3) := z_dd_180 (by decide +kernel)
theorem dX4_sendTo_132 : decode cX4_sendTo 132 = .ok (.iload_n 2, 1) := z_dd_28 (by decide +kernel)
theorem dX4_sendTo_133 : decode cX4_sendTo 133 = .ok (.aload_n 0, 1) := z_dd_42 (by decide +kernel)
theorem dX4_sendTo_134 : decode cX4_sendTo 134 = .ok (.getfield 20, 3) := z_dd_180 (by decide +kernel)
theorem dX4_sendTo_137 : decode cX4_sendTo 137 = .ok (.iload 5, 2) := z_dd_21 (by decide +kernel)
theorem dX4_sendTo_139 : decode cX4_sendTo 139 = .ok (.aaload, 1) := z_dd_50 (by decide +kernel)
theorem dX4_sendTo_140 : decode cX4_sendTo 140 = .ok (.iload_n 3, 1) := z_dd_29 (by decide +kernel)
theorem dX4_sendTo_141 : decode cX4_sendTo 141 = .ok (.iaload, 1) := z_dd_46 (by decide +kernel)
theorem dX4_sendTo_142 : decode cX4_sendTo 142 = .ok (.imul, 1) := z_dd_104 (by decide +kernel)
theorem dX4_sendTo_143 : decode cX4_sendTo 143 = .ok (.isub, 1) := z_dd_100 (by decide +kernel)
theorem dX4_sendTo_144 : decode cX4_sendTo 144 = .ok (.putfield 55, 3) := z_dd_181 (by decide +kernel)
theorem dX4_sendTo_147 : decode cX4_sendTo 147 = .ok (.goto 14, 3) := z_dd_167 (by decide +kernel)
theorem dX4_sendTo_161 : decode cX4_sendTo 161 = .ok (.iinc 4 1, 3) := z_dd_132 (by decide +kernel)
theorem dX4_sendTo_164 : decode cX4_sendTo 164 = .ok (.goto (-132), 3) := z_dd_167 (by decide +kernel)
theorem dX4_sendTo_150 : decode cX4_sendTo 150 = .ok (.aload_n 0, 1) := z_dd_42 (by decide +kernel)
theorem dX4_sendTo_151 : decode cX4_sendTo 151 = .ok (.getfield 26, 3) := z_dd_180 (by decide +kernel)
theorem dX4_sendTo_154 : decode cX4_sendTo 154 = .ok (.iload 5, 2) := z_dd_21 (by decide +kernel)
theorem dX4_sendTo_156 : decode cX4_sendTo 156 = .ok (.dup2, 1) := z_dd_92 (by decide +kernel)
theorem dX4_sendTo_157 : decode cX4_sendTo 157 = .ok (.iaload, 1) := z_dd_46 (by decide +kernel)
theorem dX4_sendTo_158 : decode cX4_sendTo 158 = .ok (.iload_n 2, 1) := z_dd_28 (by decide +kernel)
theorem dX4_sendTo_159 : decode cX4_sendTo 159 = .ok (.isub, 1) := z_dd_100 (by decide +kernel)
theorem dX4_sendTo_160 : decode cX4_sendTo 160 = .ok (.iastore, 1) := z_dd_79 (by decide +kernel)
theorem dX4_send_0 : decode cX4_send 0 = .ok (.aload_n 0, 1) := z_dd_42 (by decide +kernel)
theorem dX4_send_1 : decode cX4_send 1 = .ok (.iconst 0, 1) := z_dd_3 (by decide +kernel)
theorem dX4_send_2 : decode cX4_send 2 = .ok (.putfield 52, 3) := z_dd_181 (by decide +kernel)
theorem dX4_send_5 : decode cX4_send 5 = .ok (.aload_n 0, 1) := z_dd_42 (by decide +kernel)
theorem dX4_send_6 : decode cX4_send 6 = .ok (.iconst 0, 1) := z_dd_3 (by decide +kernel)
theorem dX4_send_7 : decode cX4_send 7 = .ok (.putfield 55, 3) := z_dd_181 (by decide +kernel)
theorem dX4_send_10 : decode cX4_send 10 = .ok (.iconst 0, 1) := z_dd_3 (by decide +kernel)
theorem dX4_send_11 : decode cX4_send 11 = .ok (.istore_n 2, 1) := z_dd_61 (by decide +kernel)
theorem dX4_send_12 : decode cX4_send 12 = .ok (.iload_n 2, 1) := z_dd_28 (by decide +kernel)
theorem dX4_send_13 : decode cX4_send 13 = .ok (.iconst 4, 1) := z_dd_7 (by decide +kernel)
theorem dX4_send_14 : decode cX4_send 14 = .ok (.if_icmp .ge 40, 3) := z_dd_162 (by decide +kernel)
theorem dX4_send_54 : decode cX4_send 54 = .ok (.iconst 0, 1) := z_dd_3 (by decide +kernel)
theorem dX4_send_55 : decode cX4_send 55 = .ok (.istore_n 2, 1) := z_dd_61 (by decide +kernel)
theorem dX4_send_56 : decode cX4_send 56 = .ok (.iload_n 2, 1) := z_dd_28 (by decide +kernel)
theorem dX4_send_57 : decode cX4_send 57 = .ok (.bipush 10, 2) := z_dd_16 (by decide +kernel)
theorem dX4_send_59 : decode cX4_send 59 = .ok (.if_icmp .ge 21, 3) := z_dd_162 (by decide +kernel)
theorem dX4_send_80 : decode cX4_send 80 = .ok (.aload_n 0, 1) := z_dd_42 (by decide +kernel)
set_option maxRecDepth 20000 in
theorem ggX4_send_X4_cheapestEnd : GoodIn wsX4_send wsX4_cheapestEnd := goodIn_sub (fa_c (me_s (me_l (me_l (List.mem_of_getElem? (i := 15) rfl)))) (fa_a (fa_c (me_s (me_l (me_l (List.mem_of_getElem? (i := 16) rfl)))) (fa_c (me_s (me_l (me_l (List.mem_of_getElem? (i := 2) rfl)))) (fa_c (me_s (me_l (me_l (List.mem_of_getElem? (i := 17) rfl)))) (fa_c (me_s (me_l (me_l (List.mem_of_getElem? (i := 18) rfl)))) (fa_c (me_s (me_l (me_l (List.mem_of_getElem? (i := 19) rfl)))) (fa_c (me_s (me_l (me_l (List.mem_of_getElem? (i := 20) rfl)))) (fa_c (me_s (me_l (me_l (List.mem_of_getElem? (i := 5) rfl)))) (fa_c (me_s (me_l (me_l (List.mem_of_getElem? (i := 7) rfl)))) (fa_c (me_s (me_l (me_l (List.mem_of_getElem? (i := 8) rfl)))) (fa_c (me_s (me_l (me_l (List.mem_of_getElem? (i := 9) rfl)))) (fa_c (me_s (me_l (me_l (List.mem_of_getElem? (i := 10) rfl)))) (fa_c (me_s (me_l (me_l (List.mem_of_getElem? (i := 21) rfl)))) (fa_c (me_s (me_l (me_l (List.mem_of_getElem? (i := 22) rfl)))) (fa_c (me_s (me_l (me_l (List.mem_of_getElem? (i := 23) rfl)))) (fa_c (me_s (me_l (me_l (List.mem_of_getElem? (i := 14) rfl)))) (fa_c (me_s (me_l (me_r (List.mem_of_getElem? (i := 0) rfl)))) (fa_c (me_s (me_l (me_r (List.mem_of_getElem? (i := 1) rfl)))) (fa_c (me_s (me_l (me_l (List.mem_of_getElem? (i := 4) rfl)))) fa_n)))))))))))))))))) (fun w h => (me_s (me_r h))))) (by decide +kernel)
set_option maxRecDepth 20000 in
theorem gX4_send_X4_cheapestEnd : GoodIn wsX4_send (wsV RX4 64 RX4 yX4_cheapestEnd wsX4_cheapestEnd) := goodIn_app (goodIn_sub (fa_c (me_s (me_l (me_l (List.mem_of_getElem? (i := 11) rfl)))) (fa_c (me_s (me_l (me_l (List.mem_of_getElem? (i := 12) rfl)))) (fa_c (me_s (me_l (me_l (List.mem_of_getElem? (i := 13) rfl)))) (fa_c (me_s (me_l (me_l (List.mem_of_getElem? (i := 14) rfl)))) fa_n)))) (by decide +kernel)) ggX4_send_X4_cheapestEnd
theorem dX4_send_81 : decode cX4_send 81 = .ok (.invokevirtual 64, 3) := z_dd_182 (by decide +kernel)
theorem dX4_send_84 : decode cX4_send 84 = .ok (.istore_n 2, 1) := z_dd_61 (by decide +kernel)
theorem dX4_send_85 : decode cX4_send 85 = .ok (.iconst 0, 1) := z_dd_3 (by decide +kernel)
theorem dX4_send_86 : decode cX4_send 86 = .ok (.istore_n 3, 1) := z_dd_62 (by decide +kernel)
theorem dX4_send_87 : decode cX4_send 87 = .ok (.iload_n 3, 1) := z_dd_29 (by decide +kernel)
theorem dX4_send_88 : decode cX4_send 88 = .ok (.sipush 1000, 3) := z_dd_17 (by decide +kernel)
theorem dX4_send_91 : decode cX4_send 91 = .ok (.if_icmp .ge 24, 3) := z_dd_162 (by decide +kernel)
theorem dX4_send_115 : decode cX4_send 115 = .ok (.return_, 1) := z_dd_177 (by decide +kernel)
theorem dX4_send_94 : decode cX4_send 94 = .ok (.iload_n 2, 1) := z_dd_28 (by decide +kernel)
theorem dX4_send_95 : decode cX4_send 95 = .ok (.iconst (-1), 1) := z_dd_2 (by decide +kernel)
theorem dX4_send_96 : decode cX4_send 96 = .ok (.if_icmp .eq 19, 3) := z_dd_159 (by decide +kernel)
theorem dX4_send_99 : decode cX4_send 99 = .ok (.aload_n 0, 1) := z_dd_42 (by decide +kernel)
theorem dX4_send_100 : decode cX4_send 100 = .ok (.iload_n 2, 1) := z_dd_28 (by decide +kernel)
set_option maxRecDepth 20000 in
theorem ggX4_send_X4_sendTo : GoodIn wsX4_send wsX4_sendTo := goodIn_sub (fa_c (me_s (me_l (me_r (List.mem_of_getElem? (i := 5) rfl)))) (fa_a (fa_c (me_s (me_l (me_l (List.mem_of_getElem? (i := 5) rfl)))) (fa_c (me_s (me_l (me_l (List.mem_of_getElem? (i := 20) rfl)))) (fa_c (me_s (me_l (me_l (List.mem_of_getElem? (i := 4) rfl)))) (fa_c (me_s (me_l (me_l (List.mem_of_getElem? (i := 1) rfl)))) (fa_c (me_s (me_l (me_r (List.mem_of_getElem? (i := 1) rfl)))) (fa_c (me_s (me_l (me_l (List.mem_of_getElem? (i := 18) rfl)))) (fa_c (me_s (me_l (me_l (List.mem_of_getElem? (i := 2) rfl)))) (fa_c (me_s (me_l (me_l (List.mem_of_getElem? (i := 0) rfl)))) (fa_c (me_s (me_l (me_r (List.mem_of_getElem? (i := 6) rfl)))) (fa_c (me_s (me_l (me_r (List.mem_of_getElem? (i := 7) rfl)))) (fa_c (me_s (me_l (me_r (List.mem_of_getElem? (i := 8) rfl)))) (fa_c (me_s (me_l (me_l (List.mem_of_getElem? (i := 14) rfl)))) (fa_c (me_s (me_l (me_r (List.mem_of_getElem? (i := 9) rfl)))) (fa_c (me_s (me_l (me_r (List.mem_of_getElem? (i := 10) rfl)))) (fa_c (me_s (me_l (me_r (List.mem_of_getElem? (i := 11) rfl)))) (fa_c (me_s (me_l (me_r (List.mem_of_getElem? (i := 12) rfl)))) (fa_c (me_s (me_l (me_r (List.mem_of_getElem? (i := 13) rfl)))) (fa_c (me_s (me_l (me_r (List.mem_of_getElem? (i := 14) rfl)))) (fa_c (me_s (me_l (me_r (List.mem_of_getElem? (i := 15) rfl)))) (fa_c (me_s (me_l (me_r (List.mem_of_getElem? (i := 16) rfl)))) (fa_c (me_s (me_l (me_r (List.mem_of_getElem? (i := 17) rfl)))) (fa_c (me_s (me_l (me_r (List.mem_of_getElem? (i := 18) rfl)))) (fa_c (me_s (me_l (me_r (List.mem_of_getElem? (i := 19) rfl)))) fa_n))))))))))))))))))))))) (fun w h => (me_s (me_r h))))) (by decide +kernel)
set_option maxRecDepth 20000 in
theorem gX4_send_X4_sendTo : GoodIn wsX4_send (wsV RX4 68 RX4 yX4_sendTo wsX4_sendTo) := goodIn_app (goodIn_sub (fa_c (me_s (me_l (me_r (List.mem_of_getElem? (i := 2) rfl)))) (fa_c (me_s (me_l (me_r (List.mem_of_getElem? (i := 3) rfl)))) (fa_c (me_s (me_l (me_r (List.mem_of_getElem? (i := 4) rfl)))) (fa_c (me_s (me_l (me_l (List.mem_of_getElem? (i := 14) rfl)))) fa_n)))) (by decide +kernel)) ggX4_send_X4_sendTo
theorem dX4_send_101 : decode cX4_send 101 = .ok (.invokevirtual 68, 3) := z_dd_182 (by decide +kernel)
theorem dX4_send_104 : decode cX4_send 104 = .ok (.aload_n 0, 1) := z_dd_42 (by decide +kernel)
theorem dX4_send_105 : decode cX4_send 105 = .ok (.invokevirtual 64, 3) := z_dd_182 (by decide +kernel)
theorem dX4_send_108 : decode cX4_send 108 = .ok (.istore_n 2, 1) := z_dd_61 (by decide +kernel)
theorem dX4_send_109 : decode cX4_send 109 = .ok (.iinc 3 1, 3) := z_dd_132 (by decide +kernel)
theorem dX4_send_112 : decode cX4_send 112 = .ok (.goto (-25), 3) := z_dd_167 (by decide +kernel)
theorem dX4_send_62 : decode cX4_send 62 = .ok (.aload_n 0, 1) := z_dd_42 (by decide +kernel)
theorem dX4_send_63 : decode cX4_send 63 = .ok (.getfield 29, 3) := z_dd_180 (by decide +kernel)
theorem dX4_send_66 : decode cX4_send 66 = .ok (.iload_n 2, 1) := z_dd_28 (by decide +kernel)
theorem dX4_send_67 : decode cX4_send 67 = .ok (.aload_n 0, 1) := z_dd_42 (by decide +kernel)
theorem dX4_send_68 : decode cX4_send 68 = .ok (.getfield 15, 3) := z_dd_180 (by decide +kernel)
theorem dX4_send_71 : decode cX4_send 71 = .ok (.iload_n 2, 1) := z_dd_28 (by decide +kernel)
theorem dX4_send_72 : decode cX4_send 72 = .ok (.iaload, 1) := z_dd_46 (by decide +kernel)
theorem dX4_send_73 : decode cX4_send 73 = .ok (.iastore, 1) := z_dd_79 (by decide +kernel)
theorem dX4_send_74 : decode cX4_send 74 = .ok (.iinc 2 1, 3) := z_dd_132 (by decide +kernel)
theorem dX4_send_77 : decode cX4_send 77 = .ok (.goto (-21), 3) := z_dd_167 (by decide +kernel)
theorem dX4_send_17 : decode cX4_send 17 = .ok (.aload_n 0, 1) := z_dd_42 (by decide +kernel)
theorem dX4_send_18 : decode cX4_send 18 = .ok (.getfield 26, 3) := z_dd_180 (by decide +kernel)
theorem dX4_send_21 : decode cX4_send 21 = .ok (.iload_n 2, 1) := z_dd_28 (by decide +kernel)
theorem dX4_send_22 : decode cX4_send 22 = .ok (.iload_n 2, 1) := z_dd_28 (by decide +kernel)
theorem dX4_send_23 : decode cX4_send 23 = .ok (.iload_n 1, 1) := z_dd_27 (by decide +kernel)
theorem dX4_send_24 : decode cX4_send 24 = .ok (.if_icmp .ne 7, 3) := z_dd_160 (by decide +kernel)
theorem dX4_send_31 : decode cX4_send 31 = .ok (.aload_n 0, 1) := z_dd_42 (by decide +kernel)
theorem dX4_send_32 : decode cX4_send 32 = .ok (.getfield 9, 3) := z_dd_180 (by decide +kernel)
theorem dX4_send_35 : decode cX4_send 35 = .ok (.iload_n 2, 1) := z_dd_28 (by decide +kernel)
theorem dX4_send_36 : decode cX4_send 36 = .ok (.iaload, 1) := z_dd_46 (by decide +kernel)
theorem dX4_send_37 : decode cX4_send 37 = .ok (.iastore, 1) := z_dd_79 (by decide +kernel)
theorem dX4_send_38 : decode cX4_send 38 = .ok (.aload_n 0, 1) := z_dd_42 (by decide +kernel)
theorem dX4_send_39 : decode cX4_send 39 = .ok (.getfield 23, 3) := z_dd_180 (by decide +kernel)
theorem dX4_send_42 : decode cX4_send 42 = .ok (.iload_n 2, 1) := z_dd_28 (by decide +kernel)
theorem dX4_send_43 : decode cX4_send 43 = .ok (.aaload, 1) := z_dd_50 (by decide +kernel)
theorem dX4_send_44 : decode cX4_send 44 = .ok (.iconst 0, 1) := z_dd_3 (by decide +kernel)
set_option maxRecDepth 20000 in
theorem ggX4_send_J7_fill_53178 : GoodIn wsX4_send wsJ7_fill_53178 := goodIn_sub (fa_c (me_s (me_l (me_l (List.mem_of_getElem? (i := 10) rfl)))) fa_n) (by decide +kernel)
set_option maxRecDepth 20000 in
theorem gX4_send_J7_fill_53178 : GoodIn wsX4_send (va_wsS RX4 58 yJ7_fill_53178 wsJ7_fill_53178) := goodIn_app (goodIn_sub (fa_c (me_s (me_l (me_l (List.mem_of_getElem? (i := 7) rfl)))) (fa_c (me_s (me_l (me_l (List.mem_of_getElem? (i := 8) rfl)))) (fa_c (me_s (me_l (me_l (List.mem_of_getElem? (i := 9) rfl)))) fa_n))) (by decide +kernel)) ggX4_send_J7_fill_53178
theorem dX4_send_45 : decode cX4_send 45 = .ok (.invokestatic 58, 3) := z_dd_184 (by decide +kernel)
theorem dX4_send_48 : decode cX4_send 48 = .ok (.iinc 2 1, 3) := z_dd_132 (by decide +kernel)
theorem dX4_send_51 : decode cX4_send 51 = .ok (.goto (-39), 3) := z_dd_167 (by decide +kernel)
theorem dX4_send_27 : decode cX4_send 27 = .ok (.iconst 0, 1) := z_dd_3 (by decide +kernel)
theorem dX4_send_28 : decode cX4_send 28 = .ok (.goto 9, 3) := z_dd_167 (by decide +kernel)
theorem z_l14 : (14 : Int32).toInt = 14 := by decide
theorem z_l1000 : (1000 : Int32).toInt = 1000 := by decide
theorem z_l1000000 : (1000000 : Int32).toInt = 1000000 := by decide
theorem zj_X4_hasPort_X4 : ∀ w ∈ wsX40, w ∈ wsX4_hasPort := fun w h => (List.mem_cons_of_mem _ (List.mem_append_right _ h))
set_option maxHeartbeats 8000000 in
set_option maxRecDepth 100000 in
theorem sx_X4_hasPort (l : Launch) (G : z_G) (ad : Nat → Nat) (c : z_C) (I : z_I) (hL : z_iL I) (a1 : Int32) : z_M l yX4_hasPort wsX4_hasPort { frames := 1, cells := 0, slots := 0, locals := 12 } [.ref (ad 41), .int a1] G (shC c, ad, I, JX, PC c ad) (fun r u1 => u1 = (shC c, ad, I, JX, PC c ad) ∧ (r = 1 ∧ 0 ≤ a1.toInt ∧ a1.toInt ≤ 3 ∨ r = 0)) 0 0 := by
  intro sz
  refine z_headQ (cc := cX4_hasPort) (maxL := 2) (ret := (some .boolean)) (by decide) rfl (Nat.le_of_ble_eq_true rfl) ?_
  intro p e s m below meth c0 ls hIn hK hsz hW hl
  obtain ⟨hx, hb, hr, hml, hown, hts, hlocks, hname⟩ := hIn
  subst hsz
  have hown : s.vm.findClass RX4 = some m.cls := hown
  have hA : ∀ q : Nat, s.heap.size ≤ q → z_A (shC c, ad, I, JX, PC c ad) s.heap.size q := fun q h => Or.inr h
  generalize hAe : z_A (shC c, ad, I, JX, PC c ad) s.heap.size = A at *
  have hS : va_S A s.heap s.heap [] := va_S.rf
  have hl : lv_has ls 2 [(0, .ref (ad 41)), (1, .int a1)] := hl
  refine lv_iload_n hx hb dX4_hasPort_0 rfl (lv_at hl 1 rfl) ?_
  refine lv_if_lt (tgt := 21) hx hb dX4_hasPort_1 (by decide) (fun c1 => ?_) (fun c1 => ?_)
  · have g2 := z_f_lt rfl z_l0 c1
    refine lv_iconst (v := 0) hx hb dX4_hasPort_21 (by decide) ?_
    exact z_zret hx hb hr (by decide) hK hS (Nat.le_of_ble_eq_true rfl) (Nat.le_of_ble_eq_true rfl) hlocks dX4_hasPort_22 (shC c, ad, I, JX, PC c ad) hW ⟨rfl, Or.inr rfl⟩
  · have g3 := z_f_nlt rfl z_l0 c1
    refine lv_iload_n hx hb dX4_hasPort_4 rfl (lv_at hl 1 rfl) ?_
    refine lv_aload_n hx hb dX4_hasPort_5 rfl (lv_at hl 0 rfl) ?_
    have r4 : 0 ≤ (I 41 10).toInt ∧ (I 41 10).toInt ≤ 4 := hL
    refine z_get (T := TX4) (N := 13) (ci := 4) (i := 41) (v := .int (I 41 10)) hx hb hts zj_X4_hasPort_X4 hown hK hW rfl rfl 10 (by decide) (hts (.fieldLink RX4 44 "PetrolBoard$Loads" "ports" "I") (me_s (me_l (List.mem_of_getElem? (i := 0) rfl)))) (fun _ h => h) rfl dX4_hasPort_6 ?_
    refine lv_icmp_ge (tgt := 21) hx hb dX4_hasPort_9 (by decide) (fun c5 => ?_) (fun c5 => ?_)
    · have g6 := z_f_ge rfl rfl c5
      refine lv_iconst (v := 0) hx hb dX4_hasPort_21 (by decide) ?_
      exact z_zret hx hb hr (by decide) hK hS (Nat.le_of_ble_eq_true rfl) (Nat.le_of_ble_eq_true rfl) hlocks dX4_hasPort_22 (shC c, ad, I, JX, PC c ad) hW ⟨rfl, Or.inr rfl⟩
    · have g7 := z_f_nge rfl rfl c5
      refine lv_iload_n hx hb dX4_hasPort_12 rfl (lv_at hl 1 rfl) ?_
      refine lv_iconst (v := 4) hx hb dX4_hasPort_13 (by decide) ?_
      refine lv_icmp_ge (tgt := 21) hx hb dX4_hasPort_14 (by decide) (fun c8 => (by have g := z_f_ge rfl z_l4 c8; omega)) (fun c8 => ?_)
      have g9 := z_f_nge rfl z_l4 c8
      refine lv_iconst (v := 1) hx hb dX4_hasPort_17 (by decide) ?_
      refine lv_goto (tgt := 22) hx hb dX4_hasPort_18 (by decide) ?_
      exact z_zret hx hb hr (by decide) hK hS (Nat.le_of_ble_eq_true rfl) (Nat.le_of_ble_eq_true rfl) hlocks dX4_hasPort_22 (shC c, ad, I, JX, PC c ad) hW ⟨rfl, Or.inl ⟨rfl, (by omega), (by omega)⟩⟩
set_option maxHeartbeats 8000000 in
set_option maxRecDepth 100000 in
theorem sx_X4_isPort (l : Launch) (G : z_G) (ad : Nat → Nat) (c : z_C) (I : z_I) (a1 : Int32) : z_M l yX4_isPort wsX4_isPort { frames := 1, cells := 0, slots := 0, locals := 12 } [.int a1] G (shC c, ad, I, JX, PC c ad) (fun r u1 => u1 = (shC c, ad, I, JX, PC c ad) ∧ (r = 1 ∧ 0 ≤ a1.toInt ∧ a1.toInt ≤ 3 ∨ r = 0)) 0 0 := by
  intro sz
  refine z_headQ (cc := cX4_isPort) (maxL := 1) (ret := (some .boolean)) (by decide) rfl (Nat.le_of_ble_eq_true rfl) ?_
  intro p e s m below meth c0 ls hIn hK hsz hW hl
  obtain ⟨hx, hb, hr, hml, hown, hts, hlocks, hname⟩ := hIn
  subst hsz
  have hown : s.vm.findClass RX4 = some m.cls := hown
  have hA : ∀ q : Nat, s.heap.size ≤ q → z_A (shC c, ad, I, JX, PC c ad) s.heap.size q := fun q h => Or.inr h
  generalize hAe : z_A (shC c, ad, I, JX, PC c ad) s.heap.size = A at *
  have hS : va_S A s.heap s.heap [] := va_S.rf
  have hl : lv_has ls 1 [(0, .int a1)] := hl
  refine lv_iload_n hx hb dX4_isPort_0 rfl (lv_at hl 0 rfl) ?_
  refine lv_if_lt (tgt := 13) hx hb dX4_isPort_1 (by decide) (fun c1 => ?_) (fun c1 => ?_)
  · have g2 := z_f_lt rfl z_l0 c1
    refine lv_iconst (v := 0) hx hb dX4_isPort_13 (by decide) ?_
    exact z_zret hx hb hr (by decide) hK hS (Nat.le_of_ble_eq_true rfl) (Nat.le_of_ble_eq_true rfl) hlocks dX4_isPort_14 (shC c, ad, I, JX, PC c ad) hW ⟨rfl, Or.inr rfl⟩
  · have g3 := z_f_nlt rfl z_l0 c1
    refine lv_iload_n hx hb dX4_isPort_4 rfl (lv_at hl 0 rfl) ?_
    refine lv_iconst (v := 4) hx hb dX4_isPort_5 (by decide) ?_
    refine lv_icmp_ge (tgt := 13) hx hb dX4_isPort_6 (by decide) (fun c4 => ?_) (fun c4 => ?_)
    · have g5 := z_f_ge rfl z_l4 c4
      refine lv_iconst (v := 0) hx hb dX4_isPort_13 (by decide) ?_
      exact z_zret hx hb hr (by decide) hK hS (Nat.le_of_ble_eq_true rfl) (Nat.le_of_ble_eq_true rfl) hlocks dX4_isPort_14 (shC c, ad, I, JX, PC c ad) hW ⟨rfl, Or.inr rfl⟩
    · have g6 := z_f_nge rfl z_l4 c4
      refine lv_iconst (v := 1) hx hb dX4_isPort_9 (by decide) ?_
      refine lv_goto (tgt := 14) hx hb dX4_isPort_10 (by decide) ?_
      exact z_zret hx hb hr (by decide) hK hS (Nat.le_of_ble_eq_true rfl) (Nat.le_of_ble_eq_true rfl) hlocks dX4_isPort_14 (shC c, ad, I, JX, PC c ad) hW ⟨rfl, Or.inl ⟨rfl, (by omega), (by omega)⟩⟩
set_option maxHeartbeats 8000000 in
set_option maxRecDepth 100000 in
theorem sx_X4_isStation (l : Launch) (G : z_G) (ad : Nat → Nat) (c : z_C) (I : z_I) (a1 : Int32) : z_M l yX4_isStation wsX4_isStation { frames := 1, cells := 0, slots := 0, locals := 12 } [.int a1] G (shC c, ad, I, JX, PC c ad) (fun r u1 => u1 = (shC c, ad, I, JX, PC c ad) ∧ (r = 1 ∧ 0 ≤ a1.toInt ∧ a1.toInt ≤ 9 ∨ r = 0)) 0 0 := by
  intro sz
  refine z_headQ (cc := cX4_isStation) (maxL := 1) (ret := (some .boolean)) (by decide) rfl (Nat.le_of_ble_eq_true rfl) ?_
  intro p e s m below meth c0 ls hIn hK hsz hW hl
  obtain ⟨hx, hb, hr, hml, hown, hts, hlocks, hname⟩ := hIn
  subst hsz
  have hown : s.vm.findClass RX4 = some m.cls := hown
  have hA : ∀ q : Nat, s.heap.size ≤ q → z_A (shC c, ad, I, JX, PC c ad) s.heap.size q := fun q h => Or.inr h
  generalize hAe : z_A (shC c, ad, I, JX, PC c ad) s.heap.size = A at *
  have hS : va_S A s.heap s.heap [] := va_S.rf
  have hl : lv_has ls 1 [(0, .int a1)] := hl
  refine lv_iload_n hx hb dX4_isStation_0 rfl (lv_at hl 0 rfl) ?_
  refine lv_if_lt (tgt := 14) hx hb dX4_isStation_1 (by decide) (fun c1 => ?_) (fun c1 => ?_)
  · have g2 := z_f_lt rfl z_l0 c1
    refine lv_iconst (v := 0) hx hb dX4_isStation_14 (by decide) ?_
    exact z_zret hx hb hr (by decide) hK hS (Nat.le_of_ble_eq_true rfl) (Nat.le_of_ble_eq_true rfl) hlocks dX4_isStation_15 (shC c, ad, I, JX, PC c ad) hW ⟨rfl, Or.inr rfl⟩
  · have g3 := z_f_nlt rfl z_l0 c1
    refine lv_iload_n hx hb dX4_isStation_4 rfl (lv_at hl 0 rfl) ?_
    refine lv_bipush (v := 10) hx hb dX4_isStation_5 (by decide) ?_
    refine lv_icmp_ge (tgt := 14) hx hb dX4_isStation_7 (by decide) (fun c4 => ?_) (fun c4 => ?_)
    · have g5 := z_f_ge rfl z_l10 c4
      refine lv_iconst (v := 0) hx hb dX4_isStation_14 (by decide) ?_
      exact z_zret hx hb hr (by decide) hK hS (Nat.le_of_ble_eq_true rfl) (Nat.le_of_ble_eq_true rfl) hlocks dX4_isStation_15 (shC c, ad, I, JX, PC c ad) hW ⟨rfl, Or.inr rfl⟩
    · have g6 := z_f_nge rfl z_l10 c4
      refine lv_iconst (v := 1) hx hb dX4_isStation_10 (by decide) ?_
      refine lv_goto (tgt := 15) hx hb dX4_isStation_11 (by decide) ?_
      exact z_zret hx hb hr (by decide) hK hS (Nat.le_of_ble_eq_true rfl) (Nat.le_of_ble_eq_true rfl) hlocks dX4_isStation_15 (shC c, ad, I, JX, PC c ad) hW ⟨rfl, Or.inl ⟨rfl, (by omega), (by omega)⟩⟩
noncomputable def L_X4_addPort : z_L := [(42, 999), (41, 10)]
theorem zj_X4_addPort_X4 : ∀ w ∈ wsX40, w ∈ wsX4_addPort := fun w h => (List.mem_cons_of_mem _ (List.mem_append_right _ h))
set_option maxHeartbeats 8000000 in
set_option maxRecDepth 100000 in
theorem sx_X4_addPort (l : Launch) (G : z_G) (ad : Nat → Nat) (c : z_C) (I : z_I) (hL : z_iL I) (a1 : Int32) : z_M l yX4_addPort wsX4_addPort { frames := 1, cells := 0, slots := 0, locals := 12 } [.ref (ad 41), .int a1] G (shC c, ad, I, JX, PC c ad) (fun r u1 => ∃ I1 : z_I, u1 = (shC c, ad, I1, JX, PC c ad) ∧ z_iL I1 ∧ z_fr L_X4_addPort I1 I) 0 0 := by
  intro sz
  refine z_headQ (cc := cX4_addPort) (maxL := 2) (ret := (some .int)) (by decide) rfl (Nat.le_of_ble_eq_true rfl) ?_
  intro p e s m below meth c0 ls hIn hK hsz hW hl
  obtain ⟨hx, hb, hr, hml, hown, hts, hlocks, hname⟩ := hIn
  subst hsz
  have hown : s.vm.findClass RX4 = some m.cls := hown
  have hA : ∀ q : Nat, s.heap.size ≤ q → z_A (shC c, ad, I, JX, PC c ad) s.heap.size q := fun q h => Or.inr h
  generalize hAe : z_A (shC c, ad, I, JX, PC c ad) s.heap.size = A at *
  have hS : va_S A s.heap s.heap [] := va_S.rf
  have hl : lv_has ls 2 [(0, .ref (ad 41)), (1, .int a1)] := hl
  refine lv_aload_n hx hb dX4_addPort_0 rfl (lv_at hl 0 rfl) ?_
  have r1 : 0 ≤ (I 41 10).toInt ∧ (I 41 10).toInt ≤ 4 := hL
  refine z_get (T := TX4) (N := 13) (ci := 4) (i := 41) (v := .int (I 41 10)) hx hb hts zj_X4_addPort_X4 hown hK hW rfl rfl 10 (by decide) (hts (.fieldLink RX4 44 "PetrolBoard$Loads" "ports" "I") (me_s (me_l (List.mem_of_getElem? (i := 0) rfl)))) (fun _ h => h) rfl dX4_addPort_1 ?_
  refine lv_iconst (v := 4) hx hb dX4_addPort_4 (by decide) ?_
  refine lv_icmp_lt (tgt := 10) hx hb dX4_addPort_5 (by decide) (fun c2 => ?_) (fun c2 => ?_)
  · have g3 := z_f_lt rfl z_l4 c2
    refine lv_aload_n hx hb dX4_addPort_10 rfl (lv_at hl 0 rfl) ?_
    refine z_get (T := TX4) (N := 13) (ci := 4) (i := 41) (v := .ref (ad 42)) hx hb hts zj_X4_addPort_X4 hown hK hW rfl rfl 0 (by decide) (hts (.fieldLink RX4 9 "PetrolBoard$Loads" "inPort" "[I") (me_s (me_l (List.mem_of_getElem? (i := 1) rfl)))) (fun _ h => h) rfl dX4_addPort_11 ?_
    refine lv_aload_n hx hb dX4_addPort_14 rfl (lv_at hl 0 rfl) ?_
    refine z_get (T := TX4) (N := 13) (ci := 4) (i := 41) (v := .int (I 41 10)) hx hb hts zj_X4_addPort_X4 hown hK hW rfl rfl 10 (by decide) (hts (.fieldLink RX4 44 "PetrolBoard$Loads" "ports" "I") (me_s (me_l (List.mem_of_getElem? (i := 0) rfl)))) (fun _ h => h) rfl dX4_addPort_15 ?_
    refine lv_iload_n hx hb dX4_addPort_18 rfl (lv_at hl 1 rfl) ?_
    refine z_iast (i := 42) hx hb hK hW hS rfl (z_ix rfl (by omega) (by omega)) dX4_addPort_19 (fun H locs hz1 hW hS => ?_)
    obtain ⟨I4, eI4⟩ : ∃ K : z_I, K = z_up I 42 (I 41 10).toNatClampNeg a1 := ⟨_, rfl⟩
    rw [← eI4] at hW
    have f5 := z_fr_a z_fr_0 (show z_wa L_X4_addPort 42 = true by decide) eI4
    refine lv_aload_n hx hb dX4_addPort_20 rfl (lv_at hl 0 rfl) ?_
    refine lv_dup hx hb dX4_addPort_21 rfl ?_
    refine z_get (T := TX4) (N := 13) (ci := 4) (i := 41) (v := .int (I 41 10)) hx hb hts zj_X4_addPort_X4 hown hK hW rfl rfl 10 (by decide) (hts (.fieldLink RX4 44 "PetrolBoard$Loads" "ports" "I") (me_s (me_l (List.mem_of_getElem? (i := 0) rfl)))) (fun _ h => h) (congrArg Value.int (by rw [eI4, z_up_n (by decide)])) dX4_addPort_22 ?_
    refine lv_iconst (v := 1) hx hb dX4_addPort_25 (by decide) ?_
    refine lv_iadd hx hb dX4_addPort_26 ?_
    refine lv_topi (fun x6 ex6 => ?_)
    have tx6 : x6.toInt = (I 41 10).toInt + 1 := z_tadd ex6 rfl z_l1 (by omega) (by omega)
    refine z_put (T := TX4) (N := 13) (ci := 4) (i := 41) (v := .int x6) (I1 := z_up I4 41 10 x6) (J1 := JX) (P1 := PC c ad) hx hb hts zj_X4_addPort_X4 tyX4 tyX4_ok nmX4 hown hK hW hS rfl rfl 10 (by decide) (hts (.fieldLink RX4 44 "PetrolBoard$Loads" "ports" "I") (me_s (me_l (List.mem_of_getElem? (i := 0) rfl)))) (fun _ h => h) rfl rfl rfl (by first | rfl | exact congrArg _ z_up_s) (fun a b h ty => z_vI h ty) dX4_addPort_27 (fun H locs hz1 hW hS => ?_)
    obtain ⟨I7, eI7⟩ : ∃ K : z_I, K = z_up I4 41 10 x6 := ⟨_, rfl⟩
    rw [← eI7] at hW
    have f8 := z_fr_k f5 (show z_wr L_X4_addPort 41 10 = true by decide) eI7
    refine lv_aload_n hx hb dX4_addPort_30 rfl (lv_at hl 0 rfl) ?_
    refine z_get (T := TX4) (N := 13) (ci := 4) (i := 41) (v := .int x6) hx hb hts zj_X4_addPort_X4 hown hK hW rfl rfl 10 (by decide) (hts (.fieldLink RX4 44 "PetrolBoard$Loads" "ports" "I") (me_s (me_l (List.mem_of_getElem? (i := 0) rfl)))) (fun _ h => h) (congrArg Value.int (by rw [eI7, z_up_s])) dX4_addPort_31 ?_
    refine lv_iconst (v := 1) hx hb dX4_addPort_34 (by decide) ?_
    refine lv_isub hx hb dX4_addPort_35 ?_
    refine lv_topi (fun x9 ex9 => ?_)
    have tx9 : x9.toInt = x6.toInt - 1 := z_tsub ex9 rfl z_l1 (by omega) (by omega)
    exact z_iret hx hb hr hK hS (Nat.le_of_ble_eq_true rfl) (Nat.le_of_ble_eq_true rfl) hlocks dX4_addPort_36 (shC c, ad, I7, JX, PC c ad) hW ⟨I7, rfl, (by show 0 ≤ (I7 41 10).toInt ∧ (I7 41 10).toInt ≤ 4; rw [eI7, z_up_s]; omega), f8⟩
  · have g10 := z_f_nlt rfl z_l4 c2
    refine lv_iconst (v := (-1)) hx hb dX4_addPort_8 (by decide) ?_
    exact z_iret hx hb hr hK hS (Nat.le_of_ble_eq_true rfl) (Nat.le_of_ble_eq_true rfl) hlocks dX4_addPort_9 (shC c, ad, I, JX, PC c ad) hW ⟨I, rfl, (by show 0 ≤ (I 41 10).toInt ∧ (I 41 10).toInt ≤ 4; exact hL), z_fr_0⟩
noncomputable def L_X4_putWant : z_L := [(43, 999)]
theorem zj_X4_putWant_X4 : ∀ w ∈ wsX40, w ∈ wsX4_putWant := fun w h => (List.mem_cons_of_mem _ (List.mem_append_right _ h))
set_option maxHeartbeats 8000000 in
set_option maxRecDepth 100000 in
theorem sx_X4_putWant (l : Launch) (G : z_G) (ad : Nat → Nat) (c : z_C) (I : z_I) (a1 : Int32) (a2 : Int32) : z_Mv l yX4_putWant wsX4_putWant { frames := 1, cells := 0, slots := 0, locals := 12 } [.ref (ad 41), .int a1, .int a2] G (shC c, ad, I, JX, PC c ad) (fun u1 => ∃ I1 : z_I, u1 = (shC c, ad, I1, JX, PC c ad) ∧ z_fr L_X4_putWant I1 I) 0 0 := by
  intro sz
  refine z_headQ (cc := cX4_putWant) (maxL := 3) (ret := none) (by decide) rfl (Nat.le_of_ble_eq_true rfl) ?_
  intro p e s m below meth c0 ls hIn hK hsz hW hl
  obtain ⟨hx, hb, hr, hml, hown, hts, hlocks, hname⟩ := hIn
  subst hsz
  have hown : s.vm.findClass RX4 = some m.cls := hown
  have hA : ∀ q : Nat, s.heap.size ≤ q → z_A (shC c, ad, I, JX, PC c ad) s.heap.size q := fun q h => Or.inr h
  generalize hAe : z_A (shC c, ad, I, JX, PC c ad) s.heap.size = A at *
  have hS : va_S A s.heap s.heap [] := va_S.rf
  have hl : lv_has ls 3 [(0, .ref (ad 41)), (1, .int a1), (2, .int a2)] := hl
  refine lv_iload_n hx hb dX4_putWant_0 rfl (lv_at hl 1 rfl) ?_
  refine lv_if_lt (tgt := 17) hx hb dX4_putWant_1 (by decide) (fun c1 => ?_) (fun c1 => ?_)
  · have g2 := z_f_lt rfl z_l0 c1
    exact z_vret hx hb hr hK hS (Nat.le_of_ble_eq_true rfl) (Nat.le_of_ble_eq_true rfl) hlocks dX4_putWant_17 (shC c, ad, I, JX, PC c ad) hW ⟨I, rfl, z_fr_0⟩
  · have g3 := z_f_nlt rfl z_l0 c1
    refine lv_iload_n hx hb dX4_putWant_4 rfl (lv_at hl 1 rfl) ?_
    refine lv_bipush (v := 10) hx hb dX4_putWant_5 (by decide) ?_
    refine lv_icmp_ge (tgt := 17) hx hb dX4_putWant_7 (by decide) (fun c4 => ?_) (fun c4 => ?_)
    · have g5 := z_f_ge rfl z_l10 c4
      exact z_vret hx hb hr hK hS (Nat.le_of_ble_eq_true rfl) (Nat.le_of_ble_eq_true rfl) hlocks dX4_putWant_17 (shC c, ad, I, JX, PC c ad) hW ⟨I, rfl, z_fr_0⟩
    · have g6 := z_f_nge rfl z_l10 c4
      refine lv_aload_n hx hb dX4_putWant_10 rfl (lv_at hl 0 rfl) ?_
      refine z_get (T := TX4) (N := 13) (ci := 4) (i := 41) (v := .ref (ad 43)) hx hb hts zj_X4_putWant_X4 hown hK hW rfl rfl 1 (by decide) (hts (.fieldLink RX4 15 "PetrolBoard$Loads" "wanted" "[I") (me_s (me_l (List.mem_of_getElem? (i := 0) rfl)))) (fun _ h => h) rfl dX4_putWant_11 ?_
      refine lv_iload_n hx hb dX4_putWant_14 rfl (lv_at hl 1 rfl) ?_
      refine lv_iload_n hx hb dX4_putWant_15 rfl (lv_at hl 2 rfl) ?_
      refine z_iast (i := 43) hx hb hK hW hS rfl (z_ix rfl (by omega) (by omega)) dX4_putWant_16 (fun H locs hz1 hW hS => ?_)
      obtain ⟨I7, eI7⟩ : ∃ K : z_I, K = z_up I 43 a1.toNatClampNeg a2 := ⟨_, rfl⟩
      rw [← eI7] at hW
      have f8 := z_fr_a z_fr_0 (show z_wa L_X4_putWant 43 = true by decide) eI7
      exact z_vret hx hb hr hK hS (Nat.le_of_ble_eq_true rfl) (Nat.le_of_ble_eq_true rfl) hlocks dX4_putWant_17 (shC c, ad, I7, JX, PC c ad) hW ⟨I7, rfl, f8⟩
noncomputable def L_X4_putRoad : z_L := [(45, 999), (46, 999), (47, 999), (48, 999)]
theorem zj_X4_putRoad_X4 : ∀ w ∈ wsX40, w ∈ wsX4_putRoad := fun w h => (List.mem_cons_of_mem _ (List.mem_append_right _ h))
set_option maxHeartbeats 8000000 in
set_option maxRecDepth 100000 in
theorem sx_X4_putRoad (l : Launch) (G : z_G) (ad : Nat → Nat) (c : z_C) (I : z_I) (hL : z_iL I) (a1 : Int32) (a2 : Int32) (a3 : Int32) : z_Mv l yX4_putRoad wsX4_putRoad { frames := 2, cells := 0, slots := 0, locals := 33 } [.ref (ad 41), .int a1, .int a2, .int a3] G (shC c, ad, I, JX, PC c ad) (fun u1 => ∃ I1 : z_I, u1 = (shC c, ad, I1, JX, PC c ad) ∧ z_iL I1 ∧ z_fr L_X4_putRoad I1 I) 0 0 := by
  intro sz
  refine z_headQ (cc := cX4_putRoad) (maxL := 4) (ret := none) (by decide) rfl (Nat.le_of_ble_eq_true rfl) ?_
  intro p e s m below meth c0 ls hIn hK hsz hW hl
  obtain ⟨hx, hb, hr, hml, hown, hts, hlocks, hname⟩ := hIn
  subst hsz
  have hown : s.vm.findClass RX4 = some m.cls := hown
  have hA : ∀ q : Nat, s.heap.size ≤ q → z_A (shC c, ad, I, JX, PC c ad) s.heap.size q := fun q h => Or.inr h
  generalize hAe : z_A (shC c, ad, I, JX, PC c ad) s.heap.size = A at *
  have hS : va_S A s.heap s.heap [] := va_S.rf
  have hl : lv_has ls 4 [(0, .ref (ad 41)), (1, .int a1), (2, .int a2), (3, .int a3)] := hl
  refine lv_aload_n hx hb dX4_putRoad_0 rfl (lv_at hl 0 rfl) ?_
  refine lv_iload_n hx hb dX4_putRoad_1 rfl (lv_at hl 1 rfl) ?_
  refine z_ci hW hS hA (va_runV (As := [.int a1]) (rest := []) ⟨hx, hb, hml, hown, hts⟩ (sx_X4_hasPort l G ad c I (by show 0 ≤ (I 41 10).toInt ∧ (I 41 10).toInt ≤ 4; exact hL) a1 _) (cwV 1 hts gX4_putRoad_X4_hasPort rfl rfl rfl hy_X4_hasPort ⟨Nat.le_of_ble_eq_true rfl, Nat.le_of_ble_eq_true rfl⟩) (z_preV (i := 41) hK hW rfl rfl) rfl rfl hl.1 rfl (lv_room (Nat.le_of_ble_eq_true rfl)) dX4_putRoad_2 ⟨Nat.le_of_ble_eq_true rfl, Nat.le_of_ble_eq_true rfl⟩) (fun r u1 H locs hp hW hS => ?_)
  obtain ⟨e9, hp⟩ := hp
  rw [e9] at hW
  rcases hp with ⟨rfl, h1, h2⟩ | rfl
  · refine lv_if_eq (tgt := 27) hx hb dX4_putRoad_5 (by decide) (fun c3 => absurd c3 (by decide)) (fun c3 => ?_)
    refine lv_iload_n hx hb dX4_putRoad_8 rfl (lv_at hl 2 rfl) ?_
    refine lv_if_lt (tgt := 27) hx hb dX4_putRoad_9 (by decide) (fun c4 => ?_) (fun c4 => ?_)
    · have g5 := z_f_lt rfl z_l0 c4
      exact z_vret hx hb hr hK hS (Nat.le_of_ble_eq_true rfl) (Nat.le_of_ble_eq_true rfl) hlocks dX4_putRoad_27 (shC c, ad, I, JX, PC c ad) hW ⟨I, rfl, (by show 0 ≤ (I 41 10).toInt ∧ (I 41 10).toInt ≤ 4; exact hL), z_fr_0⟩
    · have g6 := z_f_nlt rfl z_l0 c4
      refine lv_iload_n hx hb dX4_putRoad_12 rfl (lv_at hl 2 rfl) ?_
      refine lv_bipush (v := 10) hx hb dX4_putRoad_13 (by decide) ?_
      refine lv_icmp_ge (tgt := 27) hx hb dX4_putRoad_15 (by decide) (fun c7 => ?_) (fun c7 => ?_)
      · have g8 := z_f_ge rfl z_l10 c7
        exact z_vret hx hb hr hK hS (Nat.le_of_ble_eq_true rfl) (Nat.le_of_ble_eq_true rfl) hlocks dX4_putRoad_27 (shC c, ad, I, JX, PC c ad) hW ⟨I, rfl, (by show 0 ≤ (I 41 10).toInt ∧ (I 41 10).toInt ≤ 4; exact hL), z_fr_0⟩
      · have g9 := z_f_nge rfl z_l10 c7
        refine lv_aload_n hx hb dX4_putRoad_18 rfl (lv_at hl 0 rfl) ?_
        refine z_get (T := TX4) (N := 13) (ci := 4) (i := 41) (v := .ref (ad 44)) hx hb hts zj_X4_putRoad_X4 hown hK hW rfl rfl 2 (by decide) (hts (.fieldLink RX4 20 "PetrolBoard$Loads" "miles" "[[I") (me_s (me_l (List.mem_of_getElem? (i := 0) rfl)))) (fun _ h => h) rfl dX4_putRoad_19 ?_
        refine lv_iload_n hx hb dX4_putRoad_22 rfl (lv_at hl 1 rfl) ?_
        obtain ⟨k10, ek10, hk10⟩ : ∃ k : Nat, a1.toNatClampNeg = k ∧ k < 4 := ⟨_, rfl, z_clN rfl (by omega) (by omega)⟩
        refine z_aald (i := 44) (v := .ref (ad (45 + k10))) hx hb hK hW rfl (by simp [z_tys]) rfl (z_ix rfl (by omega) (by omega)) (z_p44 ek10 hk10) dX4_putRoad_23 ?_
        refine lv_iload_n hx hb dX4_putRoad_24 rfl (lv_at hl 2 rfl) ?_
        refine lv_iload_n hx hb dX4_putRoad_25 rfl (lv_at hl 3 rfl) ?_
        refine z_iast (i := (45 + k10)) hx hb hK hW hS (z_s45 hk10) (z_ix rfl (by omega) (by omega)) dX4_putRoad_26 (fun H locs hz1 hW hS => ?_)
        obtain ⟨I11, eI11⟩ : ∃ K : z_I, K = z_up I (45 + k10) a2.toNatClampNeg a3 := ⟨_, rfl⟩
        rw [← eI11] at hW
        have f12 := z_fr_a z_fr_0 (z_wa45 (L := L_X4_putRoad) (by decide) hk10) eI11
        exact z_vret hx hb hr hK hS (Nat.le_of_ble_eq_true rfl) (Nat.le_of_ble_eq_true rfl) hlocks dX4_putRoad_27 (shC c, ad, I11, JX, PC c ad) hW ⟨I11, rfl, (by show 0 ≤ (I11 41 10).toInt ∧ (I11 41 10).toInt ≤ 4; rw [eI11, z_up_n (by omega)]; exact hL), f12⟩
  · refine lv_if_eq (tgt := 27) hx hb dX4_putRoad_5 (by decide) (fun c13 => ?_) (fun c13 => absurd (by decide) c13)
    exact z_vret hx hb hr hK hS (Nat.le_of_ble_eq_true rfl) (Nat.le_of_ble_eq_true rfl) hlocks dX4_putRoad_27 (shC c, ad, I, JX, PC c ad) hW ⟨I, rfl, (by show 0 ≤ (I 41 10).toInt ∧ (I 41 10).toInt ≤ 4; exact hL), z_fr_0⟩
theorem zj_X4_inPorts_X4 : ∀ w ∈ wsX40, w ∈ wsX4_inPorts := fun w h => (List.mem_cons_of_mem _ (List.mem_append_right _ h))
set_option maxHeartbeats 8000000 in
set_option maxRecDepth 100000 in
theorem sx_X4_inPorts (l : Launch) (G : z_G) (ad : Nat → Nat) (c : z_C) (I : z_I) (hL : z_iL I) : z_M l yX4_inPorts wsX4_inPorts { frames := 1, cells := 0, slots := 0, locals := 12 } [.ref (ad 41)] G (shC c, ad, I, JX, PC c ad) (fun r u1 => u1 = (shC c, ad, I, JX, PC c ad)) 0 0 := by
  intro sz
  refine z_headQ (cc := cX4_inPorts) (maxL := 3) (ret := (some .int)) (by decide) rfl (Nat.le_of_ble_eq_true rfl) ?_
  intro p e s m below meth c0 ls hIn hK hsz hW hl
  obtain ⟨hx, hb, hr, hml, hown, hts, hlocks, hname⟩ := hIn
  subst hsz
  have hown : s.vm.findClass RX4 = some m.cls := hown
  have hA : ∀ q : Nat, s.heap.size ≤ q → z_A (shC c, ad, I, JX, PC c ad) s.heap.size q := fun q h => Or.inr h
  generalize hAe : z_A (shC c, ad, I, JX, PC c ad) s.heap.size = A at *
  have hS : va_S A s.heap s.heap [] := va_S.rf
  have hl : lv_has ls 3 [(0, .ref (ad 41))] := hl
  refine lv_iconst (v := 0) hx hb dX4_inPorts_0 (by decide) ?_
  refine lv_istore_n (lv' := [(1, .int 0), (0, .ref (ad 41))]) hx hb dX4_inPorts_1 rfl hl (by decide) rfl (fun ls hl => ?_)
  refine lv_iconst (v := 0) hx hb dX4_inPorts_2 (by decide) ?_
  refine lv_istore_n (lv' := [(2, .int 0), (1, .int 0), (0, .ref (ad 41))]) hx hb dX4_inPorts_3 rfl hl (by decide) rfl (fun ls hl => ?_)
  have lp1 : ∀ (f : Nat) (y2 : Int32) (y3 : Int32) (H : Heap) (locs : List Loc) (ls : Array Slot), (2147483647 < y2.toInt + (f : Int)) → (0 ≤ y2.toInt) → z_W G A (shC c, ad, I, JX, PC c ad) H → va_S A s.heap H locs → lv_has ls 3 [(2, .int y2), (1, .int y3), (0, .ref (ad 41))] → W p l e (headSpec wsX4_inPorts { frames := 1, cells := 0, slots := 0, locals := 12 }).room s m ([.ref (ad 41)] : List Value).toArray below meth c0 H locs 0 0 (MQ below (va_Qi (fun (r : Int32) (u1 : z_U) => u1 = (shC c, ad, I, JX, PC c ad)) (z_B G A) A) ([.ref (ad 41)] : List Value).toArray s 0 0 A) (F0 m 4 ls []) := by
    intro f
    induction f with
    | zero => intro y2 y3 H locs ls lp1m lp1l2 hW hS hl; exact absurd lp1m (by have := Int32.toInt_lt y2; have := Int32.le_toInt y2; omega)
    | succ f lp1ih =>
      intro y2 y3 H locs ls lp1m lp1l2 hW hS hl
      refine lv_iload_n hx hb dX4_inPorts_4 rfl (lv_at hl 0 rfl) ?_
      refine lv_aload_n hx hb dX4_inPorts_5 rfl (lv_at hl 2 rfl) ?_
      have r4 : 0 ≤ (I 41 10).toInt ∧ (I 41 10).toInt ≤ 4 := hL
      refine z_get (T := TX4) (N := 13) (ci := 4) (i := 41) (v := .int (I 41 10)) hx hb hts zj_X4_inPorts_X4 hown hK hW rfl rfl 10 (by decide) (hts (.fieldLink RX4 44 "PetrolBoard$Loads" "ports" "I") (me_s (me_l (List.mem_of_getElem? (i := 0) rfl)))) (fun _ h => h) rfl dX4_inPorts_6 ?_
      refine lv_icmp_ge (tgt := 32) hx hb dX4_inPorts_9 (by decide) (fun c5 => ?_) (fun c5 => ?_)
      · have g6 := z_f_ge rfl rfl c5
        refine lv_iload_n hx hb dX4_inPorts_32 rfl (lv_at hl 1 rfl) ?_
        exact z_iret hx hb hr hK hS (Nat.le_of_ble_eq_true rfl) (Nat.le_of_ble_eq_true rfl) hlocks dX4_inPorts_33 (shC c, ad, I, JX, PC c ad) hW rfl
      · have g7 := z_f_nge rfl rfl c5
        refine lv_iload_n hx hb dX4_inPorts_12 rfl (lv_at hl 0 rfl) ?_
        refine lv_iconst (v := 4) hx hb dX4_inPorts_13 (by decide) ?_
        refine lv_icmp_ge (tgt := 32) hx hb dX4_inPorts_14 (by decide) (fun c8 => (by have g := z_f_ge rfl z_l4 c8; omega)) (fun c8 => ?_)
        have g9 := z_f_nge rfl z_l4 c8
        refine lv_iload_n hx hb dX4_inPorts_17 rfl (lv_at hl 1 rfl) ?_
        refine lv_aload_n hx hb dX4_inPorts_18 rfl (lv_at hl 2 rfl) ?_
        refine z_get (T := TX4) (N := 13) (ci := 4) (i := 41) (v := .ref (ad 42)) hx hb hts zj_X4_inPorts_X4 hown hK hW rfl rfl 0 (by decide) (hts (.fieldLink RX4 9 "PetrolBoard$Loads" "inPort" "[I") (me_s (me_l (List.mem_of_getElem? (i := 1) rfl)))) (fun _ h => h) rfl dX4_inPorts_19 ?_
        refine lv_iload_n hx hb dX4_inPorts_22 rfl (lv_at hl 0 rfl) ?_
        refine z_iald (i := 42) hx hb hK hW rfl (z_ix rfl (by omega) (by omega)) dX4_inPorts_23 ?_
        refine lv_topi (fun x10 ex10 => ?_)
        refine lv_iadd hx hb dX4_inPorts_24 ?_
        refine lv_topi (fun x11 ex11 => ?_)
        refine lv_istore_n (lv' := [(1, .int x11), (2, .int y2), (0, .ref (ad 41))]) hx hb dX4_inPorts_25 rfl hl (by decide) rfl (fun ls hl => ?_)
        obtain ⟨x12, ex12⟩ : ∃ y : Int32, y = y2 + 1 := ⟨_, rfl⟩
        have tx12 : x12.toInt = y2.toInt + 1 := z_tadd ex12 rfl z_l1 (by omega) (by omega)
        refine lv_iinc (v := x12) (lv' := [(2, .int x12), (1, .int x11), (0, .ref (ad 41))]) hx hb dX4_inPorts_26 hl (k := 1) rfl (by rw [ex12]; rfl) (by decide) rfl (fun ls hl => ?_)
        refine lv_goto (tgt := 4) hx hb dX4_inPorts_29 (by decide) ?_
        exact lp1ih x12 x11 _ _ _ (by omega) (by omega) hW hS (lv_sub hl [0, 1, 2] rfl)
  exact lp1 4294967296 (0) (0) _ _ _ (z_m0u _) (by rw [z_l0]; omega) hW hS (lv_sub hl [0, 1, 2] rfl)
noncomputable def L_X4_shorten : z_L := [(56, 999), (57, 999), (58, 999), (59, 999)]
theorem zj_X4_shorten_X4 : ∀ w ∈ wsX40, w ∈ wsX4_shorten := fun w h => (List.mem_cons_of_mem _ (List.mem_append_right _ h))
set_option maxHeartbeats 8000000 in
set_option maxRecDepth 100000 in
theorem sx_X4_shorten (l : Launch) (G : z_G) (ad : Nat → Nat) (c : z_C) (I : z_I) : z_M l yX4_shorten wsX4_shorten { frames := 1, cells := 0, slots := 0, locals := 12 } [.ref (ad 41)] G (shC c, ad, I, JX, PC c ad) (fun r u1 => ∃ I1 : z_I, u1 = (shC c, ad, I1, JX, PC c ad) ∧ z_fr L_X4_shorten I1 I ∧ (r = 1 ∨ r = 0)) 0 0 := by
  intro sz
  refine z_headQ (cc := cX4_shorten) (maxL := 5) (ret := (some .boolean)) (by decide) rfl (Nat.le_of_ble_eq_true rfl) ?_
  intro p e s m below meth c0 ls hIn hK hsz hW hl
  obtain ⟨hx, hb, hr, hml, hown, hts, hlocks, hname⟩ := hIn
  subst hsz
  have hown : s.vm.findClass RX4 = some m.cls := hown
  have hA : ∀ q : Nat, s.heap.size ≤ q → z_A (shC c, ad, I, JX, PC c ad) s.heap.size q := fun q h => Or.inr h
  generalize hAe : z_A (shC c, ad, I, JX, PC c ad) s.heap.size = A at *
  have hS : va_S A s.heap s.heap [] := va_S.rf
  have hl : lv_has ls 5 [(0, .ref (ad 41))] := hl
  refine lv_iconst (v := 0) hx hb dX4_shorten_0 (by decide) ?_
  refine lv_istore_n (lv' := [(1, .int 0), (0, .ref (ad 41))]) hx hb dX4_shorten_1 rfl hl (by decide) rfl (fun ls hl => ?_)
  refine lv_iconst (v := 0) hx hb dX4_shorten_2 (by decide) ?_
  refine lv_istore_n (lv' := [(2, .int 0), (1, .int 0), (0, .ref (ad 41))]) hx hb dX4_shorten_3 rfl hl (by decide) rfl (fun ls hl => ?_)
  have lp1 : ∀ (f : Nat) (y2 : Int32) (y3 : Int32) (I4 : z_I) (H : Heap) (locs : List Loc) (ls : Array Slot), (2147483647 < y2.toInt + (f : Int)) → (0 ≤ y2.toInt) → (0 ≤ y3.toInt) → (y3.toInt ≤ 1) → (z_fr L_X4_shorten I4 I) → z_W G A (shC c, ad, I4, JX, PC c ad) H → va_S A s.heap H locs → lv_has ls 5 [(2, .int y2), (1, .int y3), (0, .ref (ad 41))] → W p l e (headSpec wsX4_shorten { frames := 1, cells := 0, slots := 0, locals := 12 }).room s m ([.ref (ad 41)] : List Value).toArray below meth c0 H locs 0 0 (MQ below (va_Qi (fun (r : Int32) (u1 : z_U) => ∃ I1 : z_I, u1 = (shC c, ad, I1, JX, PC c ad) ∧ z_fr L_X4_shorten I1 I ∧ (r = 1 ∨ r = 0)) (z_B G A) A) ([.ref (ad 41)] : List Value).toArray s 0 0 A) (F0 m 4 ls []) := by
    intro f
    induction f with
    | zero => intro y2 y3 I4  H locs ls lp1m lp1l2 lp1l1 lp1u1 lp1fr hW hS hl; exact absurd lp1m (by have := Int32.toInt_lt y2; have := Int32.le_toInt y2; omega)
    | succ f lp1ih =>
      intro y2 y3 I4  H locs ls lp1m lp1l2 lp1l1 lp1u1 lp1fr hW hS hl
      refine lv_iload_n hx hb dX4_shorten_4 rfl (lv_at hl 0 rfl) ?_
      refine lv_iconst (v := 4) hx hb dX4_shorten_5 (by decide) ?_
      refine lv_icmp_ge (tgt := 161) hx hb dX4_shorten_6 (by decide) (fun c5 => ?_) (fun c5 => ?_)
      · have g6 := z_f_ge rfl z_l4 c5
        refine lv_iload_n hx hb dX4_shorten_161 rfl (lv_at hl 1 rfl) ?_
        exact z_zret hx hb hr (z_nar (z_01 rfl (by omega) (by omega))) hK hS (Nat.le_of_ble_eq_true rfl) (Nat.le_of_ble_eq_true rfl) hlocks dX4_shorten_162 (shC c, ad, I4, JX, PC c ad) hW ⟨I4, rfl, lp1fr, (z_01 rfl (by omega) (by omega))⟩
      · have g7 := z_f_nge rfl z_l4 c5
        refine lv_iconst (v := 0) hx hb dX4_shorten_9 (by decide) ?_
        refine lv_istore_n (lv' := [(3, .int 0), (2, .int y2), (1, .int y3), (0, .ref (ad 41))]) hx hb dX4_shorten_10 rfl hl (by decide) rfl (fun ls hl => ?_)
        have lp8 : ∀ (f : Nat) (y9 : Int32) (y10 : Int32) (I11 : z_I) (H : Heap) (locs : List Loc) (ls : Array Slot), (2147483647 < y9.toInt + (f : Int)) → (0 ≤ y9.toInt) → (0 ≤ y10.toInt) → (y10.toInt ≤ 1) → (z_fr L_X4_shorten I11 I) → z_W G A (shC c, ad, I11, JX, PC c ad) H → va_S A s.heap H locs → lv_has ls 5 [(3, .int y9), (2, .int y2), (1, .int y10), (0, .ref (ad 41))] → W p l e (headSpec wsX4_shorten { frames := 1, cells := 0, slots := 0, locals := 12 }).room s m ([.ref (ad 41)] : List Value).toArray below meth c0 H locs 0 0 (MQ below (va_Qi (fun (r : Int32) (u1 : z_U) => ∃ I1 : z_I, u1 = (shC c, ad, I1, JX, PC c ad) ∧ z_fr L_X4_shorten I1 I ∧ (r = 1 ∨ r = 0)) (z_B G A) A) ([.ref (ad 41)] : List Value).toArray s 0 0 A) (F0 m 11 ls []) := by
          intro f
          induction f with
          | zero => intro y9 y10 I11  H locs ls lp8m lp8l3 lp8l1 lp8u1 lp8fr hW hS hl; exact absurd lp8m (by have := Int32.toInt_lt y9; have := Int32.le_toInt y9; omega)
          | succ f lp8ih =>
            intro y9 y10 I11  H locs ls lp8m lp8l3 lp8l1 lp8u1 lp8fr hW hS hl
            refine lv_iload_n hx hb dX4_shorten_11 rfl (lv_at hl 0 rfl) ?_
            refine lv_bipush (v := 10) hx hb dX4_shorten_12 (by decide) ?_
            refine lv_icmp_ge (tgt := 155) hx hb dX4_shorten_14 (by decide) (fun c12 => ?_) (fun c12 => ?_)
            · have g13 := z_f_ge rfl z_l10 c12
              obtain ⟨x14, ex14⟩ : ∃ y : Int32, y = y2 + 1 := ⟨_, rfl⟩
              have tx14 : x14.toInt = y2.toInt + 1 := z_tadd ex14 rfl z_l1 (by omega) (by omega)
              refine lv_iinc (v := x14) (lv' := [(2, .int x14), (3, .int y9), (1, .int y10), (0, .ref (ad 41))]) hx hb dX4_shorten_155 hl (k := 1) rfl (by rw [ex14]; rfl) (by decide) rfl (fun ls hl => ?_)
              refine lv_goto (tgt := 4) hx hb dX4_shorten_158 (by decide) ?_
              exact lp1ih x14 y10 I11  _ _ _ (by omega) (by omega) (by omega) (by omega) lp8fr hW hS (lv_sub hl [0, 2, 3] rfl)
            · have g15 := z_f_nge rfl z_l10 c12
              refine lv_aload_n hx hb dX4_shorten_17 rfl (lv_at hl 3 rfl) ?_
              refine z_get (T := TX4) (N := 13) (ci := 4) (i := 41) (v := .ref (ad 44)) hx hb hts zj_X4_shorten_X4 hown hK hW rfl rfl 2 (by decide) (hts (.fieldLink RX4 20 "PetrolBoard$Loads" "miles" "[[I") (me_s (me_l (List.mem_of_getElem? (i := 0) rfl)))) (fun _ h => h) rfl dX4_shorten_18 ?_
              refine lv_iload_n hx hb dX4_shorten_21 rfl (lv_at hl 1 rfl) ?_
              obtain ⟨k16, ek16, hk16⟩ : ∃ k : Nat, y2.toNatClampNeg = k ∧ k < 4 := ⟨_, rfl, z_clN rfl (by omega) (by omega)⟩
              refine z_aald (i := 44) (v := .ref (ad (45 + k16))) hx hb hK hW rfl (by simp [z_tys]) rfl (z_ix rfl (by omega) (by omega)) (z_p44 ek16 hk16) dX4_shorten_22 ?_
              refine lv_iload_n hx hb dX4_shorten_23 rfl (lv_at hl 0 rfl) ?_
              refine z_iald (i := (45 + k16)) hx hb hK hW (z_s45 hk16) (z_ix rfl (by omega) (by omega)) dX4_shorten_24 ?_
              refine lv_topi (fun x17 ex17 => ?_)
              refine lv_istore (lv' := [(4, .int x17), (3, .int y9), (2, .int y2), (1, .int y10), (0, .ref (ad 41))]) hx hb dX4_shorten_25 hl (by decide) rfl (fun ls hl => ?_)
              refine lv_iload hx hb dX4_shorten_27 (lv_at hl 0 rfl) ?_
              refine lv_if_le (tgt := 85) hx hb dX4_shorten_29 (by decide) (fun c18 => ?_) (fun c18 => ?_)
              · have g19 := z_f_le rfl z_l0 c18
                refine lv_aload_n hx hb dX4_shorten_85 rfl (lv_at hl 4 rfl) ?_
                refine z_get (T := TX4) (N := 13) (ci := 4) (i := 41) (v := .ref (ad 49)) hx hb hts zj_X4_shorten_X4 hown hK hW rfl rfl 3 (by decide) (hts (.fieldLink RX4 23 "PetrolBoard$Loads" "sent" "[[I") (me_s (me_l (List.mem_of_getElem? (i := 5) rfl)))) (fun _ h => h) rfl dX4_shorten_86 ?_
                refine lv_iload_n hx hb dX4_shorten_89 rfl (lv_at hl 2 rfl) ?_
                obtain ⟨k20, ek20, hk20⟩ : ∃ k : Nat, y2.toNatClampNeg = k ∧ k < 4 := ⟨_, rfl, z_clN rfl (by omega) (by omega)⟩
                refine z_aald (i := 49) (v := .ref (ad (50 + k20))) hx hb hK hW rfl (by simp [z_tys]) rfl (z_ix rfl (by omega) (by omega)) (z_p49 ek20 hk20) dX4_shorten_90 ?_
                refine lv_iload_n hx hb dX4_shorten_91 rfl (lv_at hl 1 rfl) ?_
                refine z_iald (i := (50 + k20)) hx hb hK hW (z_s50 hk20) (z_ix rfl (by omega) (by omega)) dX4_shorten_92 ?_
                refine lv_topi (fun x21 ex21 => ?_)
                refine lv_if_le (tgt := 149) hx hb dX4_shorten_93 (by decide) (fun c22 => ?_) (fun c22 => ?_)
                · have g23 := z_f_le rfl z_l0 c22
                  obtain ⟨x24, ex24⟩ : ∃ y : Int32, y = y9 + 1 := ⟨_, rfl⟩
                  have tx24 : x24.toInt = y9.toInt + 1 := z_tadd ex24 rfl z_l1 (by omega) (by omega)
                  refine lv_iinc (v := x24) (lv' := [(3, .int x24), (4, .int x17), (2, .int y2), (1, .int y10), (0, .ref (ad 41))]) hx hb dX4_shorten_149 hl (k := 1) rfl (by rw [ex24]; rfl) (by decide) rfl (fun ls hl => ?_)
                  refine lv_goto (tgt := 11) hx hb dX4_shorten_152 (by decide) ?_
                  exact lp8ih x24 y10 I11  _ _ _ (by omega) (by omega) (by omega) (by omega) lp8fr hW hS (lv_sub hl [0, 2, 3, 4] rfl)
                · have g25 := z_f_nle rfl z_l0 c22
                  refine lv_aload_n hx hb dX4_shorten_96 rfl (lv_at hl 4 rfl) ?_
                  refine z_get (T := TX4) (N := 13) (ci := 4) (i := 41) (v := .ref (ad 57)) hx hb hts zj_X4_shorten_X4 hown hK hW rfl rfl 7 (by decide) (hts (.fieldLink RX4 35 "PetrolBoard$Loads" "toStation" "[I") (me_s (me_l (List.mem_of_getElem? (i := 3) rfl)))) (fun _ h => h) rfl dX4_shorten_97 ?_
                  refine lv_iload_n hx hb dX4_shorten_100 rfl (lv_at hl 1 rfl) ?_
                  refine z_iald (i := 57) hx hb hK hW rfl (z_ix rfl (by omega) (by omega)) dX4_shorten_101 ?_
                  refine lv_topi (fun x26 ex26 => ?_)
                  refine lv_ldc (v := 1000000) hx hb hown (hts (.constant RX4 72 (1000000)) (me_s (me_l (List.mem_of_getElem? (i := 2) rfl)))) dX4_shorten_102 ?_
                  refine lv_icmp_ge (tgt := 149) hx hb dX4_shorten_104 (by decide) (fun c27 => ?_) (fun c27 => ?_)
                  · have g28 := z_f_ge rfl z_l1000000 c27
                    obtain ⟨x29, ex29⟩ : ∃ y : Int32, y = y9 + 1 := ⟨_, rfl⟩
                    have tx29 : x29.toInt = y9.toInt + 1 := z_tadd ex29 rfl z_l1 (by omega) (by omega)
                    refine lv_iinc (v := x29) (lv' := [(3, .int x29), (4, .int x17), (2, .int y2), (1, .int y10), (0, .ref (ad 41))]) hx hb dX4_shorten_149 hl (k := 1) rfl (by rw [ex29]; rfl) (by decide) rfl (fun ls hl => ?_)
                    refine lv_goto (tgt := 11) hx hb dX4_shorten_152 (by decide) ?_
                    exact lp8ih x29 y10 I11  _ _ _ (by omega) (by omega) (by omega) (by omega) lp8fr hW hS (lv_sub hl [0, 2, 3, 4] rfl)
                  · have g30 := z_f_nge rfl z_l1000000 c27
                    refine lv_aload_n hx hb dX4_shorten_107 rfl (lv_at hl 4 rfl) ?_
                    refine z_get (T := TX4) (N := 13) (ci := 4) (i := 41) (v := .ref (ad 57)) hx hb hts zj_X4_shorten_X4 hown hK hW rfl rfl 7 (by decide) (hts (.fieldLink RX4 35 "PetrolBoard$Loads" "toStation" "[I") (me_s (me_l (List.mem_of_getElem? (i := 3) rfl)))) (fun _ h => h) rfl dX4_shorten_108 ?_
                    refine lv_iload_n hx hb dX4_shorten_111 rfl (lv_at hl 1 rfl) ?_
                    refine z_iald (i := 57) hx hb hK hW rfl (z_ix rfl (by omega) (by omega)) dX4_shorten_112 ?_
                    refine z_topi (v := x26) ex26.symm ?_
                    refine lv_iload hx hb dX4_shorten_113 (lv_at hl 0 rfl) ?_
                    refine lv_isub hx hb dX4_shorten_115 ?_
                    refine lv_topi (fun x31 ex31 => ?_)
                    refine lv_aload_n hx hb dX4_shorten_116 rfl (lv_at hl 4 rfl) ?_
                    refine z_get (T := TX4) (N := 13) (ci := 4) (i := 41) (v := .ref (ad 56)) hx hb hts zj_X4_shorten_X4 hown hK hW rfl rfl 6 (by decide) (hts (.fieldLink RX4 32 "PetrolBoard$Loads" "toPort" "[I") (me_s (me_l (List.mem_of_getElem? (i := 1) rfl)))) (fun _ h => h) rfl dX4_shorten_117 ?_
                    refine lv_iload_n hx hb dX4_shorten_120 rfl (lv_at hl 2 rfl) ?_
                    refine z_iald (i := 56) hx hb hK hW rfl (z_ix rfl (by omega) (by omega)) dX4_shorten_121 ?_
                    refine lv_topi (fun x32 ex32 => ?_)
                    refine lv_icmp_ge (tgt := 149) hx hb dX4_shorten_122 (by decide) (fun c33 => ?_) (fun c33 => ?_)
                    · have g34 := z_f_ge rfl rfl c33
                      obtain ⟨x35, ex35⟩ : ∃ y : Int32, y = y9 + 1 := ⟨_, rfl⟩
                      have tx35 : x35.toInt = y9.toInt + 1 := z_tadd ex35 rfl z_l1 (by omega) (by omega)
                      refine lv_iinc (v := x35) (lv' := [(3, .int x35), (4, .int x17), (2, .int y2), (1, .int y10), (0, .ref (ad 41))]) hx hb dX4_shorten_149 hl (k := 1) rfl (by rw [ex35]; rfl) (by decide) rfl (fun ls hl => ?_)
                      refine lv_goto (tgt := 11) hx hb dX4_shorten_152 (by decide) ?_
                      exact lp8ih x35 y10 I11  _ _ _ (by omega) (by omega) (by omega) (by omega) lp8fr hW hS (lv_sub hl [0, 2, 3, 4] rfl)
                    · have g36 := z_f_nge rfl rfl c33
                      refine lv_aload_n hx hb dX4_shorten_125 rfl (lv_at hl 4 rfl) ?_
                      refine z_get (T := TX4) (N := 13) (ci := 4) (i := 41) (v := .ref (ad 56)) hx hb hts zj_X4_shorten_X4 hown hK hW rfl rfl 6 (by decide) (hts (.fieldLink RX4 32 "PetrolBoard$Loads" "toPort" "[I") (me_s (me_l (List.mem_of_getElem? (i := 1) rfl)))) (fun _ h => h) rfl dX4_shorten_126 ?_
                      refine lv_iload_n hx hb dX4_shorten_129 rfl (lv_at hl 2 rfl) ?_
                      refine lv_aload_n hx hb dX4_shorten_130 rfl (lv_at hl 4 rfl) ?_
                      refine z_get (T := TX4) (N := 13) (ci := 4) (i := 41) (v := .ref (ad 57)) hx hb hts zj_X4_shorten_X4 hown hK hW rfl rfl 7 (by decide) (hts (.fieldLink RX4 35 "PetrolBoard$Loads" "toStation" "[I") (me_s (me_l (List.mem_of_getElem? (i := 3) rfl)))) (fun _ h => h) rfl dX4_shorten_131 ?_
                      refine lv_iload_n hx hb dX4_shorten_134 rfl (lv_at hl 1 rfl) ?_
                      refine z_iald (i := 57) hx hb hK hW rfl (z_ix rfl (by omega) (by omega)) dX4_shorten_135 ?_
                      refine z_topi (v := x26) ex26.symm ?_
                      refine lv_iload hx hb dX4_shorten_136 (lv_at hl 0 rfl) ?_
                      refine lv_isub hx hb dX4_shorten_138 ?_
                      refine lv_topi (fun x37 ex37 => ?_)
                      refine z_iast (i := 56) hx hb hK hW hS rfl (z_ix rfl (by omega) (by omega)) dX4_shorten_139 (fun H locs hz1 hW hS => ?_)
                      obtain ⟨I38, eI38⟩ : ∃ K : z_I, K = z_up I11 56 y2.toNatClampNeg x37 := ⟨_, rfl⟩
                      rw [← eI38] at hW
                      have f39 := z_fr_a lp8fr (show z_wa L_X4_shorten 56 = true by decide) eI38
                      refine lv_aload_n hx hb dX4_shorten_140 rfl (lv_at hl 4 rfl) ?_
                      refine z_get (T := TX4) (N := 13) (ci := 4) (i := 41) (v := .ref (ad 59)) hx hb hts zj_X4_shorten_X4 hown hK hW rfl rfl 9 (by decide) (hts (.fieldLink RX4 41 "PetrolBoard$Loads" "byStation" "[I") (me_s (me_l (List.mem_of_getElem? (i := 6) rfl)))) (fun _ h => h) rfl dX4_shorten_141 ?_
                      refine lv_iload_n hx hb dX4_shorten_144 rfl (lv_at hl 2 rfl) ?_
                      refine lv_iload_n hx hb dX4_shorten_145 rfl (lv_at hl 1 rfl) ?_
                      refine z_iast (i := 59) hx hb hK hW hS rfl (z_ix rfl (by omega) (by omega)) dX4_shorten_146 (fun H locs hz1 hW hS => ?_)
                      obtain ⟨I40, eI40⟩ : ∃ K : z_I, K = z_up I38 59 y2.toNatClampNeg y9 := ⟨_, rfl⟩
                      rw [← eI40] at hW
                      have f41 := z_fr_a f39 (show z_wa L_X4_shorten 59 = true by decide) eI40
                      refine lv_iconst (v := 1) hx hb dX4_shorten_147 (by decide) ?_
                      refine lv_istore_n (lv' := [(1, .int 1), (4, .int x17), (3, .int y9), (2, .int y2), (0, .ref (ad 41))]) hx hb dX4_shorten_148 rfl hl (by decide) rfl (fun ls hl => ?_)
                      obtain ⟨x42, ex42⟩ : ∃ y : Int32, y = y9 + 1 := ⟨_, rfl⟩
                      have tx42 : x42.toInt = y9.toInt + 1 := z_tadd ex42 rfl z_l1 (by omega) (by omega)
                      refine lv_iinc (v := x42) (lv' := [(3, .int x42), (1, .int 1), (4, .int x17), (2, .int y2), (0, .ref (ad 41))]) hx hb dX4_shorten_149 hl (k := 2) rfl (by rw [ex42]; rfl) (by decide) rfl (fun ls hl => ?_)
                      refine lv_goto (tgt := 11) hx hb dX4_shorten_152 (by decide) ?_
                      exact lp8ih x42 (1) I40  _ _ _ (by omega) (by omega) (by rw [z_l1]; omega) (by rw [z_l1]; omega) f41 hW hS (lv_sub hl [0, 3, 1, 4] rfl)
              · have g43 := z_f_nle rfl z_l0 c18
                refine lv_aload_n hx hb dX4_shorten_32 rfl (lv_at hl 4 rfl) ?_
                refine z_get (T := TX4) (N := 13) (ci := 4) (i := 41) (v := .ref (ad 56)) hx hb hts zj_X4_shorten_X4 hown hK hW rfl rfl 6 (by decide) (hts (.fieldLink RX4 32 "PetrolBoard$Loads" "toPort" "[I") (me_s (me_l (List.mem_of_getElem? (i := 1) rfl)))) (fun _ h => h) rfl dX4_shorten_33 ?_
                refine lv_iload_n hx hb dX4_shorten_36 rfl (lv_at hl 2 rfl) ?_
                refine z_iald (i := 56) hx hb hK hW rfl (z_ix rfl (by omega) (by omega)) dX4_shorten_37 ?_
                refine lv_topi (fun x44 ex44 => ?_)
                refine lv_ldc (v := 1000000) hx hb hown (hts (.constant RX4 72 (1000000)) (me_s (me_l (List.mem_of_getElem? (i := 2) rfl)))) dX4_shorten_38 ?_
                refine lv_icmp_ge (tgt := 85) hx hb dX4_shorten_40 (by decide) (fun c45 => ?_) (fun c45 => ?_)
                · have g46 := z_f_ge rfl z_l1000000 c45
                  refine lv_aload_n hx hb dX4_shorten_85 rfl (lv_at hl 4 rfl) ?_
                  refine z_get (T := TX4) (N := 13) (ci := 4) (i := 41) (v := .ref (ad 49)) hx hb hts zj_X4_shorten_X4 hown hK hW rfl rfl 3 (by decide) (hts (.fieldLink RX4 23 "PetrolBoard$Loads" "sent" "[[I") (me_s (me_l (List.mem_of_getElem? (i := 5) rfl)))) (fun _ h => h) rfl dX4_shorten_86 ?_
                  refine lv_iload_n hx hb dX4_shorten_89 rfl (lv_at hl 2 rfl) ?_
                  obtain ⟨k47, ek47, hk47⟩ : ∃ k : Nat, y2.toNatClampNeg = k ∧ k < 4 := ⟨_, rfl, z_clN rfl (by omega) (by omega)⟩
                  refine z_aald (i := 49) (v := .ref (ad (50 + k47))) hx hb hK hW rfl (by simp [z_tys]) rfl (z_ix rfl (by omega) (by omega)) (z_p49 ek47 hk47) dX4_shorten_90 ?_
                  refine lv_iload_n hx hb dX4_shorten_91 rfl (lv_at hl 1 rfl) ?_
                  refine z_iald (i := (50 + k47)) hx hb hK hW (z_s50 hk47) (z_ix rfl (by omega) (by omega)) dX4_shorten_92 ?_
                  refine lv_topi (fun x48 ex48 => ?_)
                  refine lv_if_le (tgt := 149) hx hb dX4_shorten_93 (by decide) (fun c49 => ?_) (fun c49 => ?_)
                  · have g50 := z_f_le rfl z_l0 c49
                    obtain ⟨x51, ex51⟩ : ∃ y : Int32, y = y9 + 1 := ⟨_, rfl⟩
                    have tx51 : x51.toInt = y9.toInt + 1 := z_tadd ex51 rfl z_l1 (by omega) (by omega)
                    refine lv_iinc (v := x51) (lv' := [(3, .int x51), (4, .int x17), (2, .int y2), (1, .int y10), (0, .ref (ad 41))]) hx hb dX4_shorten_149 hl (k := 1) rfl (by rw [ex51]; rfl) (by decide) rfl (fun ls hl => ?_)
                    refine lv_goto (tgt := 11) hx hb dX4_shorten_152 (by decide) ?_
                    exact lp8ih x51 y10 I11  _ _ _ (by omega) (by omega) (by omega) (by omega) lp8fr hW hS (lv_sub hl [0, 2, 3, 4] rfl)
                  · have g52 := z_f_nle rfl z_l0 c49
                    refine lv_aload_n hx hb dX4_shorten_96 rfl (lv_at hl 4 rfl) ?_
                    refine z_get (T := TX4) (N := 13) (ci := 4) (i := 41) (v := .ref (ad 57)) hx hb hts zj_X4_shorten_X4 hown hK hW rfl rfl 7 (by decide) (hts (.fieldLink RX4 35 "PetrolBoard$Loads" "toStation" "[I") (me_s (me_l (List.mem_of_getElem? (i := 3) rfl)))) (fun _ h => h) rfl dX4_shorten_97 ?_
                    refine lv_iload_n hx hb dX4_shorten_100 rfl (lv_at hl 1 rfl) ?_
                    refine z_iald (i := 57) hx hb hK hW rfl (z_ix rfl (by omega) (by omega)) dX4_shorten_101 ?_
                    refine lv_topi (fun x53 ex53 => ?_)
                    refine lv_ldc (v := 1000000) hx hb hown (hts (.constant RX4 72 (1000000)) (me_s (me_l (List.mem_of_getElem? (i := 2) rfl)))) dX4_shorten_102 ?_
                    refine lv_icmp_ge (tgt := 149) hx hb dX4_shorten_104 (by decide) (fun c54 => ?_) (fun c54 => ?_)
                    · have g55 := z_f_ge rfl z_l1000000 c54
                      obtain ⟨x56, ex56⟩ : ∃ y : Int32, y = y9 + 1 := ⟨_, rfl⟩
                      have tx56 : x56.toInt = y9.toInt + 1 := z_tadd ex56 rfl z_l1 (by omega) (by omega)
                      refine lv_iinc (v := x56) (lv' := [(3, .int x56), (4, .int x17), (2, .int y2), (1, .int y10), (0, .ref (ad 41))]) hx hb dX4_shorten_149 hl (k := 1) rfl (by rw [ex56]; rfl) (by decide) rfl (fun ls hl => ?_)
                      refine lv_goto (tgt := 11) hx hb dX4_shorten_152 (by decide) ?_
                      exact lp8ih x56 y10 I11  _ _ _ (by omega) (by omega) (by omega) (by omega) lp8fr hW hS (lv_sub hl [0, 2, 3, 4] rfl)
                    · have g57 := z_f_nge rfl z_l1000000 c54
                      refine lv_aload_n hx hb dX4_shorten_107 rfl (lv_at hl 4 rfl) ?_
                      refine z_get (T := TX4) (N := 13) (ci := 4) (i := 41) (v := .ref (ad 57)) hx hb hts zj_X4_shorten_X4 hown hK hW rfl rfl 7 (by decide) (hts (.fieldLink RX4 35 "PetrolBoard$Loads" "toStation" "[I") (me_s (me_l (List.mem_of_getElem? (i := 3) rfl)))) (fun _ h => h) rfl dX4_shorten_108 ?_
                      refine lv_iload_n hx hb dX4_shorten_111 rfl (lv_at hl 1 rfl) ?_
                      refine z_iald (i := 57) hx hb hK hW rfl (z_ix rfl (by omega) (by omega)) dX4_shorten_112 ?_
                      refine z_topi (v := x53) ex53.symm ?_
                      refine lv_iload hx hb dX4_shorten_113 (lv_at hl 0 rfl) ?_
                      refine lv_isub hx hb dX4_shorten_115 ?_
                      refine lv_topi (fun x58 ex58 => ?_)
                      refine lv_aload_n hx hb dX4_shorten_116 rfl (lv_at hl 4 rfl) ?_
                      refine z_get (T := TX4) (N := 13) (ci := 4) (i := 41) (v := .ref (ad 56)) hx hb hts zj_X4_shorten_X4 hown hK hW rfl rfl 6 (by decide) (hts (.fieldLink RX4 32 "PetrolBoard$Loads" "toPort" "[I") (me_s (me_l (List.mem_of_getElem? (i := 1) rfl)))) (fun _ h => h) rfl dX4_shorten_117 ?_
                      refine lv_iload_n hx hb dX4_shorten_120 rfl (lv_at hl 2 rfl) ?_
                      refine z_iald (i := 56) hx hb hK hW rfl (z_ix rfl (by omega) (by omega)) dX4_shorten_121 ?_
                      refine z_topi (v := x44) ex44.symm ?_
                      refine lv_icmp_ge (tgt := 149) hx hb dX4_shorten_122 (by decide) (fun c59 => ?_) (fun c59 => ?_)
                      · have g60 := z_f_ge rfl rfl c59
                        obtain ⟨x61, ex61⟩ : ∃ y : Int32, y = y9 + 1 := ⟨_, rfl⟩
                        have tx61 : x61.toInt = y9.toInt + 1 := z_tadd ex61 rfl z_l1 (by omega) (by omega)
                        refine lv_iinc (v := x61) (lv' := [(3, .int x61), (4, .int x17), (2, .int y2), (1, .int y10), (0, .ref (ad 41))]) hx hb dX4_shorten_149 hl (k := 1) rfl (by rw [ex61]; rfl) (by decide) rfl (fun ls hl => ?_)
                        refine lv_goto (tgt := 11) hx hb dX4_shorten_152 (by decide) ?_
                        exact lp8ih x61 y10 I11  _ _ _ (by omega) (by omega) (by omega) (by omega) lp8fr hW hS (lv_sub hl [0, 2, 3, 4] rfl)
                      · have g62 := z_f_nge rfl rfl c59
                        refine lv_aload_n hx hb dX4_shorten_125 rfl (lv_at hl 4 rfl) ?_
                        refine z_get (T := TX4) (N := 13) (ci := 4) (i := 41) (v := .ref (ad 56)) hx hb hts zj_X4_shorten_X4 hown hK hW rfl rfl 6 (by decide) (hts (.fieldLink RX4 32 "PetrolBoard$Loads" "toPort" "[I") (me_s (me_l (List.mem_of_getElem? (i := 1) rfl)))) (fun _ h => h) rfl dX4_shorten_126 ?_
                        refine lv_iload_n hx hb dX4_shorten_129 rfl (lv_at hl 2 rfl) ?_
                        refine lv_aload_n hx hb dX4_shorten_130 rfl (lv_at hl 4 rfl) ?_
                        refine z_get (T := TX4) (N := 13) (ci := 4) (i := 41) (v := .ref (ad 57)) hx hb hts zj_X4_shorten_X4 hown hK hW rfl rfl 7 (by decide) (hts (.fieldLink RX4 35 "PetrolBoard$Loads" "toStation" "[I") (me_s (me_l (List.mem_of_getElem? (i := 3) rfl)))) (fun _ h => h) rfl dX4_shorten_131 ?_
                        refine lv_iload_n hx hb dX4_shorten_134 rfl (lv_at hl 1 rfl) ?_
                        refine z_iald (i := 57) hx hb hK hW rfl (z_ix rfl (by omega) (by omega)) dX4_shorten_135 ?_
                        refine z_topi (v := x53) ex53.symm ?_
                        refine lv_iload hx hb dX4_shorten_136 (lv_at hl 0 rfl) ?_
                        refine lv_isub hx hb dX4_shorten_138 ?_
                        refine lv_topi (fun x63 ex63 => ?_)
                        refine z_iast (i := 56) hx hb hK hW hS rfl (z_ix rfl (by omega) (by omega)) dX4_shorten_139 (fun H locs hz1 hW hS => ?_)
                        obtain ⟨I64, eI64⟩ : ∃ K : z_I, K = z_up I11 56 y2.toNatClampNeg x63 := ⟨_, rfl⟩
                        rw [← eI64] at hW
                        have f65 := z_fr_a lp8fr (show z_wa L_X4_shorten 56 = true by decide) eI64
                        refine lv_aload_n hx hb dX4_shorten_140 rfl (lv_at hl 4 rfl) ?_
                        refine z_get (T := TX4) (N := 13) (ci := 4) (i := 41) (v := .ref (ad 59)) hx hb hts zj_X4_shorten_X4 hown hK hW rfl rfl 9 (by decide) (hts (.fieldLink RX4 41 "PetrolBoard$Loads" "byStation" "[I") (me_s (me_l (List.mem_of_getElem? (i := 6) rfl)))) (fun _ h => h) rfl dX4_shorten_141 ?_
                        refine lv_iload_n hx hb dX4_shorten_144 rfl (lv_at hl 2 rfl) ?_
                        refine lv_iload_n hx hb dX4_shorten_145 rfl (lv_at hl 1 rfl) ?_
                        refine z_iast (i := 59) hx hb hK hW hS rfl (z_ix rfl (by omega) (by omega)) dX4_shorten_146 (fun H locs hz1 hW hS => ?_)
                        obtain ⟨I66, eI66⟩ : ∃ K : z_I, K = z_up I64 59 y2.toNatClampNeg y9 := ⟨_, rfl⟩
                        rw [← eI66] at hW
                        have f67 := z_fr_a f65 (show z_wa L_X4_shorten 59 = true by decide) eI66
                        refine lv_iconst (v := 1) hx hb dX4_shorten_147 (by decide) ?_
                        refine lv_istore_n (lv' := [(1, .int 1), (4, .int x17), (3, .int y9), (2, .int y2), (0, .ref (ad 41))]) hx hb dX4_shorten_148 rfl hl (by decide) rfl (fun ls hl => ?_)
                        obtain ⟨x68, ex68⟩ : ∃ y : Int32, y = y9 + 1 := ⟨_, rfl⟩
                        have tx68 : x68.toInt = y9.toInt + 1 := z_tadd ex68 rfl z_l1 (by omega) (by omega)
                        refine lv_iinc (v := x68) (lv' := [(3, .int x68), (1, .int 1), (4, .int x17), (2, .int y2), (0, .ref (ad 41))]) hx hb dX4_shorten_149 hl (k := 2) rfl (by rw [ex68]; rfl) (by decide) rfl (fun ls hl => ?_)
                        refine lv_goto (tgt := 11) hx hb dX4_shorten_152 (by decide) ?_
                        exact lp8ih x68 (1) I66  _ _ _ (by omega) (by omega) (by rw [z_l1]; omega) (by rw [z_l1]; omega) f67 hW hS (lv_sub hl [0, 3, 1, 4] rfl)
                · have g69 := z_f_nge rfl z_l1000000 c45
                  refine lv_aload_n hx hb dX4_shorten_43 rfl (lv_at hl 4 rfl) ?_
                  refine z_get (T := TX4) (N := 13) (ci := 4) (i := 41) (v := .ref (ad 56)) hx hb hts zj_X4_shorten_X4 hown hK hW rfl rfl 6 (by decide) (hts (.fieldLink RX4 32 "PetrolBoard$Loads" "toPort" "[I") (me_s (me_l (List.mem_of_getElem? (i := 1) rfl)))) (fun _ h => h) rfl dX4_shorten_44 ?_
                  refine lv_iload_n hx hb dX4_shorten_47 rfl (lv_at hl 2 rfl) ?_
                  refine z_iald (i := 56) hx hb hK hW rfl (z_ix rfl (by omega) (by omega)) dX4_shorten_48 ?_
                  refine z_topi (v := x44) ex44.symm ?_
                  refine lv_iload hx hb dX4_shorten_49 (lv_at hl 0 rfl) ?_
                  refine lv_iadd hx hb dX4_shorten_51 ?_
                  refine lv_topi (fun x70 ex70 => ?_)
                  refine lv_aload_n hx hb dX4_shorten_52 rfl (lv_at hl 4 rfl) ?_
                  refine z_get (T := TX4) (N := 13) (ci := 4) (i := 41) (v := .ref (ad 57)) hx hb hts zj_X4_shorten_X4 hown hK hW rfl rfl 7 (by decide) (hts (.fieldLink RX4 35 "PetrolBoard$Loads" "toStation" "[I") (me_s (me_l (List.mem_of_getElem? (i := 3) rfl)))) (fun _ h => h) rfl dX4_shorten_53 ?_
                  refine lv_iload_n hx hb dX4_shorten_56 rfl (lv_at hl 1 rfl) ?_
                  refine z_iald (i := 57) hx hb hK hW rfl (z_ix rfl (by omega) (by omega)) dX4_shorten_57 ?_
                  refine lv_topi (fun x71 ex71 => ?_)
                  refine lv_icmp_ge (tgt := 85) hx hb dX4_shorten_58 (by decide) (fun c72 => ?_) (fun c72 => ?_)
                  · have g73 := z_f_ge rfl rfl c72
                    refine lv_aload_n hx hb dX4_shorten_85 rfl (lv_at hl 4 rfl) ?_
                    refine z_get (T := TX4) (N := 13) (ci := 4) (i := 41) (v := .ref (ad 49)) hx hb hts zj_X4_shorten_X4 hown hK hW rfl rfl 3 (by decide) (hts (.fieldLink RX4 23 "PetrolBoard$Loads" "sent" "[[I") (me_s (me_l (List.mem_of_getElem? (i := 5) rfl)))) (fun _ h => h) rfl dX4_shorten_86 ?_
                    refine lv_iload_n hx hb dX4_shorten_89 rfl (lv_at hl 2 rfl) ?_
                    obtain ⟨k74, ek74, hk74⟩ : ∃ k : Nat, y2.toNatClampNeg = k ∧ k < 4 := ⟨_, rfl, z_clN rfl (by omega) (by omega)⟩
                    refine z_aald (i := 49) (v := .ref (ad (50 + k74))) hx hb hK hW rfl (by simp [z_tys]) rfl (z_ix rfl (by omega) (by omega)) (z_p49 ek74 hk74) dX4_shorten_90 ?_
                    refine lv_iload_n hx hb dX4_shorten_91 rfl (lv_at hl 1 rfl) ?_
                    refine z_iald (i := (50 + k74)) hx hb hK hW (z_s50 hk74) (z_ix rfl (by omega) (by omega)) dX4_shorten_92 ?_
                    refine lv_topi (fun x75 ex75 => ?_)
                    refine lv_if_le (tgt := 149) hx hb dX4_shorten_93 (by decide) (fun c76 => ?_) (fun c76 => ?_)
                    · have g77 := z_f_le rfl z_l0 c76
                      obtain ⟨x78, ex78⟩ : ∃ y : Int32, y = y9 + 1 := ⟨_, rfl⟩
                      have tx78 : x78.toInt = y9.toInt + 1 := z_tadd ex78 rfl z_l1 (by omega) (by omega)
                      refine lv_iinc (v := x78) (lv' := [(3, .int x78), (4, .int x17), (2, .int y2), (1, .int y10), (0, .ref (ad 41))]) hx hb dX4_shorten_149 hl (k := 1) rfl (by rw [ex78]; rfl) (by decide) rfl (fun ls hl => ?_)
                      refine lv_goto (tgt := 11) hx hb dX4_shorten_152 (by decide) ?_
                      exact lp8ih x78 y10 I11  _ _ _ (by omega) (by omega) (by omega) (by omega) lp8fr hW hS (lv_sub hl [0, 2, 3, 4] rfl)
                    · have g79 := z_f_nle rfl z_l0 c76
                      refine lv_aload_n hx hb dX4_shorten_96 rfl (lv_at hl 4 rfl) ?_
                      refine z_get (T := TX4) (N := 13) (ci := 4) (i := 41) (v := .ref (ad 57)) hx hb hts zj_X4_shorten_X4 hown hK hW rfl rfl 7 (by decide) (hts (.fieldLink RX4 35 "PetrolBoard$Loads" "toStation" "[I") (me_s (me_l (List.mem_of_getElem? (i := 3) rfl)))) (fun _ h => h) rfl dX4_shorten_97 ?_
                      refine lv_iload_n hx hb dX4_shorten_100 rfl (lv_at hl 1 rfl) ?_
                      refine z_iald (i := 57) hx hb hK hW rfl (z_ix rfl (by omega) (by omega)) dX4_shorten_101 ?_
                      refine z_topi (v := x71) ex71.symm ?_
                      refine lv_ldc (v := 1000000) hx hb hown (hts (.constant RX4 72 (1000000)) (me_s (me_l (List.mem_of_getElem? (i := 2) rfl)))) dX4_shorten_102 ?_
                      refine lv_icmp_ge (tgt := 149) hx hb dX4_shorten_104 (by decide) (fun c80 => ?_) (fun c80 => ?_)
                      · have g81 := z_f_ge rfl z_l1000000 c80
                        obtain ⟨x82, ex82⟩ : ∃ y : Int32, y = y9 + 1 := ⟨_, rfl⟩
                        have tx82 : x82.toInt = y9.toInt + 1 := z_tadd ex82 rfl z_l1 (by omega) (by omega)
                        refine lv_iinc (v := x82) (lv' := [(3, .int x82), (4, .int x17), (2, .int y2), (1, .int y10), (0, .ref (ad 41))]) hx hb dX4_shorten_149 hl (k := 1) rfl (by rw [ex82]; rfl) (by decide) rfl (fun ls hl => ?_)
                        refine lv_goto (tgt := 11) hx hb dX4_shorten_152 (by decide) ?_
                        exact lp8ih x82 y10 I11  _ _ _ (by omega) (by omega) (by omega) (by omega) lp8fr hW hS (lv_sub hl [0, 2, 3, 4] rfl)
                      · have g83 := z_f_nge rfl z_l1000000 c80
                        refine lv_aload_n hx hb dX4_shorten_107 rfl (lv_at hl 4 rfl) ?_
                        refine z_get (T := TX4) (N := 13) (ci := 4) (i := 41) (v := .ref (ad 57)) hx hb hts zj_X4_shorten_X4 hown hK hW rfl rfl 7 (by decide) (hts (.fieldLink RX4 35 "PetrolBoard$Loads" "toStation" "[I") (me_s (me_l (List.mem_of_getElem? (i := 3) rfl)))) (fun _ h => h) rfl dX4_shorten_108 ?_
                        refine lv_iload_n hx hb dX4_shorten_111 rfl (lv_at hl 1 rfl) ?_
                        refine z_iald (i := 57) hx hb hK hW rfl (z_ix rfl (by omega) (by omega)) dX4_shorten_112 ?_
                        refine z_topi (v := x71) ex71.symm ?_
                        refine lv_iload hx hb dX4_shorten_113 (lv_at hl 0 rfl) ?_
                        refine lv_isub hx hb dX4_shorten_115 ?_
                        refine lv_topi (fun x84 ex84 => ?_)
                        refine lv_aload_n hx hb dX4_shorten_116 rfl (lv_at hl 4 rfl) ?_
                        refine z_get (T := TX4) (N := 13) (ci := 4) (i := 41) (v := .ref (ad 56)) hx hb hts zj_X4_shorten_X4 hown hK hW rfl rfl 6 (by decide) (hts (.fieldLink RX4 32 "PetrolBoard$Loads" "toPort" "[I") (me_s (me_l (List.mem_of_getElem? (i := 1) rfl)))) (fun _ h => h) rfl dX4_shorten_117 ?_
                        refine lv_iload_n hx hb dX4_shorten_120 rfl (lv_at hl 2 rfl) ?_
                        refine z_iald (i := 56) hx hb hK hW rfl (z_ix rfl (by omega) (by omega)) dX4_shorten_121 ?_
                        refine z_topi (v := x44) ex44.symm ?_
                        refine lv_icmp_ge (tgt := 149) hx hb dX4_shorten_122 (by decide) (fun c85 => ?_) (fun c85 => ?_)
                        · have g86 := z_f_ge rfl rfl c85
                          obtain ⟨x87, ex87⟩ : ∃ y : Int32, y = y9 + 1 := ⟨_, rfl⟩
                          have tx87 : x87.toInt = y9.toInt + 1 := z_tadd ex87 rfl z_l1 (by omega) (by omega)
                          refine lv_iinc (v := x87) (lv' := [(3, .int x87), (4, .int x17), (2, .int y2), (1, .int y10), (0, .ref (ad 41))]) hx hb dX4_shorten_149 hl (k := 1) rfl (by rw [ex87]; rfl) (by decide) rfl (fun ls hl => ?_)
                          refine lv_goto (tgt := 11) hx hb dX4_shorten_152 (by decide) ?_
                          exact lp8ih x87 y10 I11  _ _ _ (by omega) (by omega) (by omega) (by omega) lp8fr hW hS (lv_sub hl [0, 2, 3, 4] rfl)
                        · have g88 := z_f_nge rfl rfl c85
                          refine lv_aload_n hx hb dX4_shorten_125 rfl (lv_at hl 4 rfl) ?_
                          refine z_get (T := TX4) (N := 13) (ci := 4) (i := 41) (v := .ref (ad 56)) hx hb hts zj_X4_shorten_X4 hown hK hW rfl rfl 6 (by decide) (hts (.fieldLink RX4 32 "PetrolBoard$Loads" "toPort" "[I") (me_s (me_l (List.mem_of_getElem? (i := 1) rfl)))) (fun _ h => h) rfl dX4_shorten_126 ?_
                          refine lv_iload_n hx hb dX4_shorten_129 rfl (lv_at hl 2 rfl) ?_
                          refine lv_aload_n hx hb dX4_shorten_130 rfl (lv_at hl 4 rfl) ?_
                          refine z_get (T := TX4) (N := 13) (ci := 4) (i := 41) (v := .ref (ad 57)) hx hb hts zj_X4_shorten_X4 hown hK hW rfl rfl 7 (by decide) (hts (.fieldLink RX4 35 "PetrolBoard$Loads" "toStation" "[I") (me_s (me_l (List.mem_of_getElem? (i := 3) rfl)))) (fun _ h => h) rfl dX4_shorten_131 ?_
                          refine lv_iload_n hx hb dX4_shorten_134 rfl (lv_at hl 1 rfl) ?_
                          refine z_iald (i := 57) hx hb hK hW rfl (z_ix rfl (by omega) (by omega)) dX4_shorten_135 ?_
                          refine z_topi (v := x71) ex71.symm ?_
                          refine lv_iload hx hb dX4_shorten_136 (lv_at hl 0 rfl) ?_
                          refine lv_isub hx hb dX4_shorten_138 ?_
                          refine lv_topi (fun x89 ex89 => ?_)
                          refine z_iast (i := 56) hx hb hK hW hS rfl (z_ix rfl (by omega) (by omega)) dX4_shorten_139 (fun H locs hz1 hW hS => ?_)
                          obtain ⟨I90, eI90⟩ : ∃ K : z_I, K = z_up I11 56 y2.toNatClampNeg x89 := ⟨_, rfl⟩
                          rw [← eI90] at hW
                          have f91 := z_fr_a lp8fr (show z_wa L_X4_shorten 56 = true by decide) eI90
                          refine lv_aload_n hx hb dX4_shorten_140 rfl (lv_at hl 4 rfl) ?_
                          refine z_get (T := TX4) (N := 13) (ci := 4) (i := 41) (v := .ref (ad 59)) hx hb hts zj_X4_shorten_X4 hown hK hW rfl rfl 9 (by decide) (hts (.fieldLink RX4 41 "PetrolBoard$Loads" "byStation" "[I") (me_s (me_l (List.mem_of_getElem? (i := 6) rfl)))) (fun _ h => h) rfl dX4_shorten_141 ?_
                          refine lv_iload_n hx hb dX4_shorten_144 rfl (lv_at hl 2 rfl) ?_
                          refine lv_iload_n hx hb dX4_shorten_145 rfl (lv_at hl 1 rfl) ?_
                          refine z_iast (i := 59) hx hb hK hW hS rfl (z_ix rfl (by omega) (by omega)) dX4_shorten_146 (fun H locs hz1 hW hS => ?_)
                          obtain ⟨I92, eI92⟩ : ∃ K : z_I, K = z_up I90 59 y2.toNatClampNeg y9 := ⟨_, rfl⟩
                          rw [← eI92] at hW
                          have f93 := z_fr_a f91 (show z_wa L_X4_shorten 59 = true by decide) eI92
                          refine lv_iconst (v := 1) hx hb dX4_shorten_147 (by decide) ?_
                          refine lv_istore_n (lv' := [(1, .int 1), (4, .int x17), (3, .int y9), (2, .int y2), (0, .ref (ad 41))]) hx hb dX4_shorten_148 rfl hl (by decide) rfl (fun ls hl => ?_)
                          obtain ⟨x94, ex94⟩ : ∃ y : Int32, y = y9 + 1 := ⟨_, rfl⟩
                          have tx94 : x94.toInt = y9.toInt + 1 := z_tadd ex94 rfl z_l1 (by omega) (by omega)
                          refine lv_iinc (v := x94) (lv' := [(3, .int x94), (1, .int 1), (4, .int x17), (2, .int y2), (0, .ref (ad 41))]) hx hb dX4_shorten_149 hl (k := 2) rfl (by rw [ex94]; rfl) (by decide) rfl (fun ls hl => ?_)
                          refine lv_goto (tgt := 11) hx hb dX4_shorten_152 (by decide) ?_
                          exact lp8ih x94 (1) I92  _ _ _ (by omega) (by omega) (by rw [z_l1]; omega) (by rw [z_l1]; omega) f93 hW hS (lv_sub hl [0, 3, 1, 4] rfl)
                  · have g95 := z_f_nge rfl rfl c72
                    refine lv_aload_n hx hb dX4_shorten_61 rfl (lv_at hl 4 rfl) ?_
                    refine z_get (T := TX4) (N := 13) (ci := 4) (i := 41) (v := .ref (ad 57)) hx hb hts zj_X4_shorten_X4 hown hK hW rfl rfl 7 (by decide) (hts (.fieldLink RX4 35 "PetrolBoard$Loads" "toStation" "[I") (me_s (me_l (List.mem_of_getElem? (i := 3) rfl)))) (fun _ h => h) rfl dX4_shorten_62 ?_
                    refine lv_iload_n hx hb dX4_shorten_65 rfl (lv_at hl 1 rfl) ?_
                    refine lv_aload_n hx hb dX4_shorten_66 rfl (lv_at hl 4 rfl) ?_
                    refine z_get (T := TX4) (N := 13) (ci := 4) (i := 41) (v := .ref (ad 56)) hx hb hts zj_X4_shorten_X4 hown hK hW rfl rfl 6 (by decide) (hts (.fieldLink RX4 32 "PetrolBoard$Loads" "toPort" "[I") (me_s (me_l (List.mem_of_getElem? (i := 1) rfl)))) (fun _ h => h) rfl dX4_shorten_67 ?_
                    refine lv_iload_n hx hb dX4_shorten_70 rfl (lv_at hl 2 rfl) ?_
                    refine z_iald (i := 56) hx hb hK hW rfl (z_ix rfl (by omega) (by omega)) dX4_shorten_71 ?_
                    refine z_topi (v := x44) ex44.symm ?_
                    refine lv_iload hx hb dX4_shorten_72 (lv_at hl 0 rfl) ?_
                    refine lv_iadd hx hb dX4_shorten_74 ?_
                    refine lv_topi (fun x96 ex96 => ?_)
                    refine z_iast (i := 57) hx hb hK hW hS rfl (z_ix rfl (by omega) (by omega)) dX4_shorten_75 (fun H locs hz1 hW hS => ?_)
                    obtain ⟨I97, eI97⟩ : ∃ K : z_I, K = z_up I11 57 y9.toNatClampNeg x96 := ⟨_, rfl⟩
                    rw [← eI97] at hW
                    have f98 := z_fr_a lp8fr (show z_wa L_X4_shorten 57 = true by decide) eI97
                    refine lv_aload_n hx hb dX4_shorten_76 rfl (lv_at hl 4 rfl) ?_
                    refine z_get (T := TX4) (N := 13) (ci := 4) (i := 41) (v := .ref (ad 58)) hx hb hts zj_X4_shorten_X4 hown hK hW rfl rfl 8 (by decide) (hts (.fieldLink RX4 38 "PetrolBoard$Loads" "byPort" "[I") (me_s (me_l (List.mem_of_getElem? (i := 4) rfl)))) (fun _ h => h) rfl dX4_shorten_77 ?_
                    refine lv_iload_n hx hb dX4_shorten_80 rfl (lv_at hl 1 rfl) ?_
                    refine lv_iload_n hx hb dX4_shorten_81 rfl (lv_at hl 2 rfl) ?_
                    refine z_iast (i := 58) hx hb hK hW hS rfl (z_ix rfl (by omega) (by omega)) dX4_shorten_82 (fun H locs hz1 hW hS => ?_)
                    obtain ⟨I99, eI99⟩ : ∃ K : z_I, K = z_up I97 58 y9.toNatClampNeg y2 := ⟨_, rfl⟩
                    rw [← eI99] at hW
                    have f100 := z_fr_a f98 (show z_wa L_X4_shorten 58 = true by decide) eI99
                    refine lv_iconst (v := 1) hx hb dX4_shorten_83 (by decide) ?_
                    refine lv_istore_n (lv' := [(1, .int 1), (4, .int x17), (3, .int y9), (2, .int y2), (0, .ref (ad 41))]) hx hb dX4_shorten_84 rfl hl (by decide) rfl (fun ls hl => ?_)
                    refine lv_aload_n hx hb dX4_shorten_85 rfl (lv_at hl 4 rfl) ?_
                    refine z_get (T := TX4) (N := 13) (ci := 4) (i := 41) (v := .ref (ad 49)) hx hb hts zj_X4_shorten_X4 hown hK hW rfl rfl 3 (by decide) (hts (.fieldLink RX4 23 "PetrolBoard$Loads" "sent" "[[I") (me_s (me_l (List.mem_of_getElem? (i := 5) rfl)))) (fun _ h => h) rfl dX4_shorten_86 ?_
                    refine lv_iload_n hx hb dX4_shorten_89 rfl (lv_at hl 3 rfl) ?_
                    obtain ⟨k101, ek101, hk101⟩ : ∃ k : Nat, y2.toNatClampNeg = k ∧ k < 4 := ⟨_, rfl, z_clN rfl (by omega) (by omega)⟩
                    refine z_aald (i := 49) (v := .ref (ad (50 + k101))) hx hb hK hW rfl (by simp [z_tys]) rfl (z_ix rfl (by omega) (by omega)) (z_p49 ek101 hk101) dX4_shorten_90 ?_
                    refine lv_iload_n hx hb dX4_shorten_91 rfl (lv_at hl 2 rfl) ?_
                    refine z_iald (i := (50 + k101)) hx hb hK hW (z_s50 hk101) (z_ix rfl (by omega) (by omega)) dX4_shorten_92 ?_
                    refine lv_topi (fun x102 ex102 => ?_)
                    refine lv_if_le (tgt := 149) hx hb dX4_shorten_93 (by decide) (fun c103 => ?_) (fun c103 => ?_)
                    · have g104 := z_f_le rfl z_l0 c103
                      obtain ⟨x105, ex105⟩ : ∃ y : Int32, y = y9 + 1 := ⟨_, rfl⟩
                      have tx105 : x105.toInt = y9.toInt + 1 := z_tadd ex105 rfl z_l1 (by omega) (by omega)
                      refine lv_iinc (v := x105) (lv' := [(3, .int x105), (1, .int 1), (4, .int x17), (2, .int y2), (0, .ref (ad 41))]) hx hb dX4_shorten_149 hl (k := 2) rfl (by rw [ex105]; rfl) (by decide) rfl (fun ls hl => ?_)
                      refine lv_goto (tgt := 11) hx hb dX4_shorten_152 (by decide) ?_
                      exact lp8ih x105 (1) I99  _ _ _ (by omega) (by omega) (by rw [z_l1]; omega) (by rw [z_l1]; omega) f100 hW hS (lv_sub hl [0, 3, 1, 4] rfl)
                    · have g106 := z_f_nle rfl z_l0 c103
                      refine lv_aload_n hx hb dX4_shorten_96 rfl (lv_at hl 4 rfl) ?_
                      refine z_get (T := TX4) (N := 13) (ci := 4) (i := 41) (v := .ref (ad 57)) hx hb hts zj_X4_shorten_X4 hown hK hW rfl rfl 7 (by decide) (hts (.fieldLink RX4 35 "PetrolBoard$Loads" "toStation" "[I") (me_s (me_l (List.mem_of_getElem? (i := 3) rfl)))) (fun _ h => h) rfl dX4_shorten_97 ?_
                      refine lv_iload_n hx hb dX4_shorten_100 rfl (lv_at hl 2 rfl) ?_
                      refine z_iald (i := 57) hx hb hK hW rfl (z_ix rfl (by omega) (by omega)) dX4_shorten_101 ?_
                      refine lv_topi (fun x107 ex107 => ?_)
                      refine lv_ldc (v := 1000000) hx hb hown (hts (.constant RX4 72 (1000000)) (me_s (me_l (List.mem_of_getElem? (i := 2) rfl)))) dX4_shorten_102 ?_
                      refine lv_icmp_ge (tgt := 149) hx hb dX4_shorten_104 (by decide) (fun c108 => ?_) (fun c108 => ?_)
                      · have g109 := z_f_ge rfl z_l1000000 c108
                        obtain ⟨x110, ex110⟩ : ∃ y : Int32, y = y9 + 1 := ⟨_, rfl⟩
                        have tx110 : x110.toInt = y9.toInt + 1 := z_tadd ex110 rfl z_l1 (by omega) (by omega)
                        refine lv_iinc (v := x110) (lv' := [(3, .int x110), (1, .int 1), (4, .int x17), (2, .int y2), (0, .ref (ad 41))]) hx hb dX4_shorten_149 hl (k := 2) rfl (by rw [ex110]; rfl) (by decide) rfl (fun ls hl => ?_)
                        refine lv_goto (tgt := 11) hx hb dX4_shorten_152 (by decide) ?_
                        exact lp8ih x110 (1) I99  _ _ _ (by omega) (by omega) (by rw [z_l1]; omega) (by rw [z_l1]; omega) f100 hW hS (lv_sub hl [0, 3, 1, 4] rfl)
                      · have g111 := z_f_nge rfl z_l1000000 c108
                        refine lv_aload_n hx hb dX4_shorten_107 rfl (lv_at hl 4 rfl) ?_
                        refine z_get (T := TX4) (N := 13) (ci := 4) (i := 41) (v := .ref (ad 57)) hx hb hts zj_X4_shorten_X4 hown hK hW rfl rfl 7 (by decide) (hts (.fieldLink RX4 35 "PetrolBoard$Loads" "toStation" "[I") (me_s (me_l (List.mem_of_getElem? (i := 3) rfl)))) (fun _ h => h) rfl dX4_shorten_108 ?_
                        refine lv_iload_n hx hb dX4_shorten_111 rfl (lv_at hl 2 rfl) ?_
                        refine z_iald (i := 57) hx hb hK hW rfl (z_ix rfl (by omega) (by omega)) dX4_shorten_112 ?_
                        refine z_topi (v := x107) ex107.symm ?_
                        refine lv_iload hx hb dX4_shorten_113 (lv_at hl 1 rfl) ?_
                        refine lv_isub hx hb dX4_shorten_115 ?_
                        refine lv_topi (fun x112 ex112 => ?_)
                        refine lv_aload_n hx hb dX4_shorten_116 rfl (lv_at hl 4 rfl) ?_
                        refine z_get (T := TX4) (N := 13) (ci := 4) (i := 41) (v := .ref (ad 56)) hx hb hts zj_X4_shorten_X4 hown hK hW rfl rfl 6 (by decide) (hts (.fieldLink RX4 32 "PetrolBoard$Loads" "toPort" "[I") (me_s (me_l (List.mem_of_getElem? (i := 1) rfl)))) (fun _ h => h) rfl dX4_shorten_117 ?_
                        refine lv_iload_n hx hb dX4_shorten_120 rfl (lv_at hl 3 rfl) ?_
                        refine z_iald (i := 56) hx hb hK hW rfl (z_ix rfl (by omega) (by omega)) dX4_shorten_121 ?_
                        refine z_topi (v := x44) (by rw [eI99, z_up_n (by decide), eI97, z_up_n (by decide)]; exact ex44.symm) ?_
                        refine lv_icmp_ge (tgt := 149) hx hb dX4_shorten_122 (by decide) (fun c113 => ?_) (fun c113 => ?_)
                        · have g114 := z_f_ge rfl rfl c113
                          obtain ⟨x115, ex115⟩ : ∃ y : Int32, y = y9 + 1 := ⟨_, rfl⟩
                          have tx115 : x115.toInt = y9.toInt + 1 := z_tadd ex115 rfl z_l1 (by omega) (by omega)
                          refine lv_iinc (v := x115) (lv' := [(3, .int x115), (1, .int 1), (4, .int x17), (2, .int y2), (0, .ref (ad 41))]) hx hb dX4_shorten_149 hl (k := 2) rfl (by rw [ex115]; rfl) (by decide) rfl (fun ls hl => ?_)
                          refine lv_goto (tgt := 11) hx hb dX4_shorten_152 (by decide) ?_
                          exact lp8ih x115 (1) I99  _ _ _ (by omega) (by omega) (by rw [z_l1]; omega) (by rw [z_l1]; omega) f100 hW hS (lv_sub hl [0, 3, 1, 4] rfl)
                        · have g116 := z_f_nge rfl rfl c113
                          refine lv_aload_n hx hb dX4_shorten_125 rfl (lv_at hl 4 rfl) ?_
                          refine z_get (T := TX4) (N := 13) (ci := 4) (i := 41) (v := .ref (ad 56)) hx hb hts zj_X4_shorten_X4 hown hK hW rfl rfl 6 (by decide) (hts (.fieldLink RX4 32 "PetrolBoard$Loads" "toPort" "[I") (me_s (me_l (List.mem_of_getElem? (i := 1) rfl)))) (fun _ h => h) rfl dX4_shorten_126 ?_
                          refine lv_iload_n hx hb dX4_shorten_129 rfl (lv_at hl 3 rfl) ?_
                          refine lv_aload_n hx hb dX4_shorten_130 rfl (lv_at hl 4 rfl) ?_
                          refine z_get (T := TX4) (N := 13) (ci := 4) (i := 41) (v := .ref (ad 57)) hx hb hts zj_X4_shorten_X4 hown hK hW rfl rfl 7 (by decide) (hts (.fieldLink RX4 35 "PetrolBoard$Loads" "toStation" "[I") (me_s (me_l (List.mem_of_getElem? (i := 3) rfl)))) (fun _ h => h) rfl dX4_shorten_131 ?_
                          refine lv_iload_n hx hb dX4_shorten_134 rfl (lv_at hl 2 rfl) ?_
                          refine z_iald (i := 57) hx hb hK hW rfl (z_ix rfl (by omega) (by omega)) dX4_shorten_135 ?_
                          refine z_topi (v := x107) ex107.symm ?_
                          refine lv_iload hx hb dX4_shorten_136 (lv_at hl 1 rfl) ?_
                          refine lv_isub hx hb dX4_shorten_138 ?_
                          refine lv_topi (fun x117 ex117 => ?_)
                          refine z_iast (i := 56) hx hb hK hW hS rfl (z_ix rfl (by omega) (by omega)) dX4_shorten_139 (fun H locs hz1 hW hS => ?_)
                          obtain ⟨I118, eI118⟩ : ∃ K : z_I, K = z_up I99 56 y2.toNatClampNeg x117 := ⟨_, rfl⟩
                          rw [← eI118] at hW
                          have f119 := z_fr_a f100 (show z_wa L_X4_shorten 56 = true by decide) eI118
                          refine lv_aload_n hx hb dX4_shorten_140 rfl (lv_at hl 4 rfl) ?_
                          refine z_get (T := TX4) (N := 13) (ci := 4) (i := 41) (v := .ref (ad 59)) hx hb hts zj_X4_shorten_X4 hown hK hW rfl rfl 9 (by decide) (hts (.fieldLink RX4 41 "PetrolBoard$Loads" "byStation" "[I") (me_s (me_l (List.mem_of_getElem? (i := 6) rfl)))) (fun _ h => h) rfl dX4_shorten_141 ?_
                          refine lv_iload_n hx hb dX4_shorten_144 rfl (lv_at hl 3 rfl) ?_
                          refine lv_iload_n hx hb dX4_shorten_145 rfl (lv_at hl 2 rfl) ?_
                          refine z_iast (i := 59) hx hb hK hW hS rfl (z_ix rfl (by omega) (by omega)) dX4_shorten_146 (fun H locs hz1 hW hS => ?_)
                          obtain ⟨I120, eI120⟩ : ∃ K : z_I, K = z_up I118 59 y2.toNatClampNeg y9 := ⟨_, rfl⟩
                          rw [← eI120] at hW
                          have f121 := z_fr_a f119 (show z_wa L_X4_shorten 59 = true by decide) eI120
                          refine lv_iconst (v := 1) hx hb dX4_shorten_147 (by decide) ?_
                          refine lv_istore_n (lv' := [(1, .int 1), (4, .int x17), (3, .int y9), (2, .int y2), (0, .ref (ad 41))]) hx hb dX4_shorten_148 rfl hl (by decide) rfl (fun ls hl => ?_)
                          obtain ⟨x122, ex122⟩ : ∃ y : Int32, y = y9 + 1 := ⟨_, rfl⟩
                          have tx122 : x122.toInt = y9.toInt + 1 := z_tadd ex122 rfl z_l1 (by omega) (by omega)
                          refine lv_iinc (v := x122) (lv' := [(3, .int x122), (1, .int 1), (4, .int x17), (2, .int y2), (0, .ref (ad 41))]) hx hb dX4_shorten_149 hl (k := 2) rfl (by rw [ex122]; rfl) (by decide) rfl (fun ls hl => ?_)
                          refine lv_goto (tgt := 11) hx hb dX4_shorten_152 (by decide) ?_
                          exact lp8ih x122 (1) I120  _ _ _ (by omega) (by omega) (by rw [z_l1]; omega) (by rw [z_l1]; omega) f121 hW hS (lv_sub hl [0, 3, 1, 4] rfl)
        exact lp8 4294967296 (0) y3 I4  _ _ _ (z_m0u _) (by rw [z_l0]; omega) (by omega) (by omega) lp1fr hW hS (lv_sub hl [0, 1, 2, 3] rfl)
  exact lp1 4294967296 (0) (0) I  _ _ _ (z_m0u _) (by rw [z_l0]; omega) (by rw [z_l0]; omega) (by rw [z_l0]; omega) z_fr_0 hW hS (lv_sub hl [0, 1, 2] rfl)
noncomputable def L_X4_cheapestEnd : z_L := [(56, 999), (57, 999), (58, 999), (59, 999)]
theorem zj_X4_cheapestEnd_X4 : ∀ w ∈ wsX40, w ∈ wsX4_cheapestEnd := fun w h => (List.mem_cons_of_mem _ (List.mem_append_right _ h))
set_option maxHeartbeats 8000000 in
set_option maxRecDepth 100000 in
theorem sx_X4_cheapestEnd (l : Launch) (G : z_G) (ad : Nat → Nat) (c : z_C) (I : z_I) : z_M l yX4_cheapestEnd wsX4_cheapestEnd { frames := 2, cells := 0, slots := 0, locals := 36 } [.ref (ad 41)] G (shC c, ad, I, JX, PC c ad) (fun r u1 => ∃ I1 : z_I, u1 = (shC c, ad, I1, JX, PC c ad) ∧ z_fr L_X4_cheapestEnd I1 I) 0 0 := by
  intro sz
  refine z_headQ (cc := cX4_cheapestEnd) (maxL := 5) (ret := (some .int)) (by decide) rfl (Nat.le_of_ble_eq_true rfl) ?_
  intro p e s m below meth c0 ls hIn hK hsz hW hl
  obtain ⟨hx, hb, hr, hml, hown, hts, hlocks, hname⟩ := hIn
  subst hsz
  have hown : s.vm.findClass RX4 = some m.cls := hown
  have hA : ∀ q : Nat, s.heap.size ≤ q → z_A (shC c, ad, I, JX, PC c ad) s.heap.size q := fun q h => Or.inr h
  generalize hAe : z_A (shC c, ad, I, JX, PC c ad) s.heap.size = A at *
  have hS : va_S A s.heap s.heap [] := va_S.rf
  have hl : lv_has ls 5 [(0, .ref (ad 41))] := hl
  refine lv_iconst (v := 0) hx hb dX4_cheapestEnd_0 (by decide) ?_
  refine lv_istore_n (lv' := [(1, .int 0), (0, .ref (ad 41))]) hx hb dX4_cheapestEnd_1 rfl hl (by decide) rfl (fun ls hl => ?_)
  have lp1 : ∀ (f : Nat) (y2 : Int32) (I3 : z_I) (H : Heap) (locs : List Loc) (ls : Array Slot), (2147483647 < y2.toInt + (f : Int)) → (0 ≤ y2.toInt) → (z_fr L_X4_cheapestEnd I3 I) → z_W G A (shC c, ad, I3, JX, PC c ad) H → va_S A s.heap H locs → lv_has ls 5 [(1, .int y2), (0, .ref (ad 41))] → W p l e (headSpec wsX4_cheapestEnd { frames := 2, cells := 0, slots := 0, locals := 36 }).room s m ([.ref (ad 41)] : List Value).toArray below meth c0 H locs 0 0 (MQ below (va_Qi (fun (r : Int32) (u1 : z_U) => ∃ I1 : z_I, u1 = (shC c, ad, I1, JX, PC c ad) ∧ z_fr L_X4_cheapestEnd I1 I) (z_B G A) A) ([.ref (ad 41)] : List Value).toArray s 0 0 A) (F0 m 2 ls []) := by
    intro f
    induction f with
    | zero => intro y2 I3  H locs ls lp1m lp1l1 lp1fr hW hS hl; exact absurd lp1m (by have := Int32.toInt_lt y2; have := Int32.le_toInt y2; omega)
    | succ f lp1ih =>
      intro y2 I3  H locs ls lp1m lp1l1 lp1fr hW hS hl
      refine lv_iload_n hx hb dX4_cheapestEnd_2 rfl (lv_at hl 0 rfl) ?_
      refine lv_iconst (v := 4) hx hb dX4_cheapestEnd_3 (by decide) ?_
      refine lv_icmp_ge (tgt := 41) hx hb dX4_cheapestEnd_4 (by decide) (fun c4 => ?_) (fun c4 => ?_)
      · have g5 := z_f_ge rfl z_l4 c4
        refine lv_aload_n hx hb dX4_cheapestEnd_41 rfl (lv_at hl 1 rfl) ?_
        refine z_get (T := TX4) (N := 13) (ci := 4) (i := 41) (v := .ref (ad 57)) hx hb hts zj_X4_cheapestEnd_X4 hown hK hW rfl rfl 7 (by decide) (hts (.fieldLink RX4 35 "PetrolBoard$Loads" "toStation" "[I") (me_s (me_l (List.mem_of_getElem? (i := 4) rfl)))) (fun _ h => h) rfl dX4_cheapestEnd_42 ?_
        refine lv_ldc (v := 1000000) hx hb hown (hts (.constant RX4 72 (1000000)) (me_s (me_l (List.mem_of_getElem? (i := 2) rfl)))) dX4_cheapestEnd_45 ?_
        refine z_cc hW hS hA (va_runS (As := [.ref (ad 57), .int 1000000]) (rest := []) ⟨hx, hb, hml, hown, hts⟩ (ct_fill l G 57 10 1000000 rfl (by decide) _) (va_cwS 2 hts gX4_cheapestEnd_J7_fill_53178 rfl rfl rfl hy_J7_fill_53178.2 ⟨Nat.le_of_ble_eq_true rfl, Nat.le_of_ble_eq_true rfl⟩) (z_preS hK hW) rfl rfl hl.1 rfl (lv_room (Nat.le_of_ble_eq_true rfl)) dX4_cheapestEnd_47 ⟨Nat.le_of_ble_eq_true rfl, Nat.le_of_ble_eq_true rfl⟩) (fun H locs hz1 hW hS => ?_)
        obtain ⟨I6, eI6⟩ : ∃ K : z_I, K = z_fi I3 57 1000000 := ⟨_, rfl⟩
        rw [← eI6] at hW
        have f7 := z_fr_f lp1fr (show z_wa L_X4_cheapestEnd 57 = true by decide) eI6
        refine lv_aload_n hx hb dX4_cheapestEnd_50 rfl (lv_at hl 1 rfl) ?_
        refine z_get (T := TX4) (N := 13) (ci := 4) (i := 41) (v := .ref (ad 58)) hx hb hts zj_X4_cheapestEnd_X4 hown hK hW rfl rfl 8 (by decide) (hts (.fieldLink RX4 38 "PetrolBoard$Loads" "byPort" "[I") (me_s (me_l (List.mem_of_getElem? (i := 5) rfl)))) (fun _ h => h) rfl dX4_cheapestEnd_51 ?_
        refine lv_iconst (v := (-1)) hx hb dX4_cheapestEnd_54 (by decide) ?_
        refine z_cc hW hS hA (va_runS (As := [.ref (ad 58), .int (-1)]) (rest := []) ⟨hx, hb, hml, hown, hts⟩ (ct_fill l G 58 10 (-1) rfl (by decide) _) (va_cwS 2 hts gX4_cheapestEnd_J7_fill_53178 rfl rfl rfl hy_J7_fill_53178.2 ⟨Nat.le_of_ble_eq_true rfl, Nat.le_of_ble_eq_true rfl⟩) (z_preS hK hW) rfl rfl hl.1 rfl (lv_room (Nat.le_of_ble_eq_true rfl)) dX4_cheapestEnd_55 ⟨Nat.le_of_ble_eq_true rfl, Nat.le_of_ble_eq_true rfl⟩) (fun H locs hz1 hW hS => ?_)
        obtain ⟨I8, eI8⟩ : ∃ K : z_I, K = z_fi I6 58 (-1) := ⟨_, rfl⟩
        rw [← eI8] at hW
        have f9 := z_fr_f f7 (show z_wa L_X4_cheapestEnd 58 = true by decide) eI8
        refine lv_iconst (v := 1) hx hb dX4_cheapestEnd_58 (by decide) ?_
        refine lv_istore_n (lv' := [(1, .int 1), (0, .ref (ad 41))]) hx hb dX4_cheapestEnd_59 rfl hl (by decide) rfl (fun ls hl => ?_)
        refine lv_iconst (v := 0) hx hb dX4_cheapestEnd_60 (by decide) ?_
        refine lv_istore_n (lv' := [(2, .int 0), (1, .int 1), (0, .ref (ad 41))]) hx hb dX4_cheapestEnd_61 rfl hl (by decide) rfl (fun ls hl => ?_)
        have lp10 : ∀ (f : Nat) (y11 : Int32) (y12 : Int32) (I13 : z_I) (H : Heap) (locs : List Loc) (ls : Array Slot), (2147483647 < y11.toInt + (f : Int)) → (0 ≤ y11.toInt) → (z_fr L_X4_cheapestEnd I13 I) → z_W G A (shC c, ad, I13, JX, PC c ad) H → va_S A s.heap H locs → lv_has ls 5 [(2, .int y11), (1, .int y12), (0, .ref (ad 41))] → W p l e (headSpec wsX4_cheapestEnd { frames := 2, cells := 0, slots := 0, locals := 36 }).room s m ([.ref (ad 41)] : List Value).toArray below meth c0 H locs 0 0 (MQ below (va_Qi (fun (r : Int32) (u1 : z_U) => ∃ I1 : z_I, u1 = (shC c, ad, I1, JX, PC c ad) ∧ z_fr L_X4_cheapestEnd I1 I) (z_B G A) A) ([.ref (ad 41)] : List Value).toArray s 0 0 A) (F0 m 62 ls []) := by
          intro f
          induction f with
          | zero => intro y11 y12 I13  H locs ls lp10m lp10l2 lp10fr hW hS hl; exact absurd lp10m (by have := Int32.toInt_lt y11; have := Int32.le_toInt y11; omega)
          | succ f lp10ih =>
            intro y11 y12 I13  H locs ls lp10m lp10l2 lp10fr hW hS hl
            refine lv_iload_n hx hb dX4_cheapestEnd_62 rfl (lv_at hl 0 rfl) ?_
            refine lv_bipush (v := 14) hx hb dX4_cheapestEnd_63 (by decide) ?_
            refine lv_icmp_gt (tgt := 83) hx hb dX4_cheapestEnd_65 (by decide) (fun c14 => ?_) (fun c14 => ?_)
            · have g15 := z_f_gt rfl z_l14 c14
              refine lv_iconst (v := (-1)) hx hb dX4_cheapestEnd_83 (by decide) ?_
              refine lv_istore_n (lv' := [(2, .int (-1)), (1, .int y12), (0, .ref (ad 41))]) hx hb dX4_cheapestEnd_84 rfl hl (by decide) rfl (fun ls hl => ?_)
              refine lv_iconst (v := 0) hx hb dX4_cheapestEnd_85 (by decide) ?_
              refine lv_istore_n (lv' := [(3, .int 0), (2, .int (-1)), (1, .int y12), (0, .ref (ad 41))]) hx hb dX4_cheapestEnd_86 rfl hl (by decide) rfl (fun ls hl => ?_)
              have lp16 : ∀ (f : Nat) (y17 : Int32) (y18 : Int32) (H : Heap) (locs : List Loc) (ls : Array Slot), (2147483647 < y17.toInt + (f : Int)) → (0 ≤ y17.toInt) → ((-1) ≤ y18.toInt) → (y18.toInt ≤ 9) → z_W G A (shC c, ad, I13, JX, PC c ad) H → va_S A s.heap H locs → lv_has ls 5 [(3, .int y17), (2, .int y18), (1, .int y12), (0, .ref (ad 41))] → W p l e (headSpec wsX4_cheapestEnd { frames := 2, cells := 0, slots := 0, locals := 36 }).room s m ([.ref (ad 41)] : List Value).toArray below meth c0 H locs 0 0 (MQ below (va_Qi (fun (r : Int32) (u1 : z_U) => ∃ I1 : z_I, u1 = (shC c, ad, I1, JX, PC c ad) ∧ z_fr L_X4_cheapestEnd I1 I) (z_B G A) A) ([.ref (ad 41)] : List Value).toArray s 0 0 A) (F0 m 87 ls []) := by
                intro f
                induction f with
                | zero => intro y17 y18 H locs ls lp16m lp16l3 lp16l2 lp16u2 hW hS hl; exact absurd lp16m (by have := Int32.toInt_lt y17; have := Int32.le_toInt y17; omega)
                | succ f lp16ih =>
                  intro y17 y18 H locs ls lp16m lp16l3 lp16l2 lp16u2 hW hS hl
                  refine lv_iload_n hx hb dX4_cheapestEnd_87 rfl (lv_at hl 0 rfl) ?_
                  refine lv_bipush (v := 10) hx hb dX4_cheapestEnd_88 (by decide) ?_
                  refine lv_icmp_ge (tgt := 153) hx hb dX4_cheapestEnd_90 (by decide) (fun c19 => ?_) (fun c19 => ?_)
                  · have g20 := z_f_ge rfl z_l10 c19
                    refine lv_iload_n hx hb dX4_cheapestEnd_153 rfl (lv_at hl 1 rfl) ?_
                    exact z_iret hx hb hr hK hS (Nat.le_of_ble_eq_true rfl) (Nat.le_of_ble_eq_true rfl) hlocks dX4_cheapestEnd_154 (shC c, ad, I13, JX, PC c ad) hW ⟨I13, rfl, lp10fr⟩
                  · have g21 := z_f_nge rfl z_l10 c19
                    refine lv_aload_n hx hb dX4_cheapestEnd_93 rfl (lv_at hl 3 rfl) ?_
                    refine z_get (T := TX4) (N := 13) (ci := 4) (i := 41) (v := .ref (ad 55)) hx hb hts zj_X4_cheapestEnd_X4 hown hK hW rfl rfl 5 (by decide) (hts (.fieldLink RX4 29 "PetrolBoard$Loads" "lacking" "[I") (me_s (me_l (List.mem_of_getElem? (i := 6) rfl)))) (fun _ h => h) rfl dX4_cheapestEnd_94 ?_
                    refine lv_iload_n hx hb dX4_cheapestEnd_97 rfl (lv_at hl 0 rfl) ?_
                    refine z_iald (i := 55) hx hb hK hW rfl (z_ix rfl (by omega) (by omega)) dX4_cheapestEnd_98 ?_
                    refine lv_topi (fun x22 ex22 => ?_)
                    refine lv_if_le (tgt := 117) hx hb dX4_cheapestEnd_99 (by decide) (fun c23 => ?_) (fun c23 => ?_)
                    · have g24 := z_f_le rfl z_l0 c23
                      refine lv_iconst (v := 0) hx hb dX4_cheapestEnd_117 (by decide) ?_
                      refine lv_istore (lv' := [(4, .int 0), (3, .int y17), (2, .int y18), (1, .int y12), (0, .ref (ad 41))]) hx hb dX4_cheapestEnd_118 hl (by decide) rfl (fun ls hl => ?_)
                      refine lv_iload hx hb dX4_cheapestEnd_120 (lv_at hl 0 rfl) ?_
                      refine lv_if_eq (tgt := 147) hx hb dX4_cheapestEnd_122 (by decide) (fun c25 => ?_) (fun c25 => absurd (by decide) c25)
                      obtain ⟨x26, ex26⟩ : ∃ y : Int32, y = y17 + 1 := ⟨_, rfl⟩
                      have tx26 : x26.toInt = y17.toInt + 1 := z_tadd ex26 rfl z_l1 (by omega) (by omega)
                      refine lv_iinc (v := x26) (lv' := [(3, .int x26), (4, .int 0), (2, .int y18), (1, .int y12), (0, .ref (ad 41))]) hx hb dX4_cheapestEnd_147 hl (k := 1) rfl (by rw [ex26]; rfl) (by decide) rfl (fun ls hl => ?_)
                      refine lv_goto (tgt := 87) hx hb dX4_cheapestEnd_150 (by decide) ?_
                      exact lp16ih x26 y18 _ _ _ (by omega) (by omega) (by omega) (by omega) hW hS (lv_sub hl [0, 2, 3, 4] rfl)
                    · have g27 := z_f_nle rfl z_l0 c23
                      refine lv_aload_n hx hb dX4_cheapestEnd_102 rfl (lv_at hl 3 rfl) ?_
                      refine z_get (T := TX4) (N := 13) (ci := 4) (i := 41) (v := .ref (ad 57)) hx hb hts zj_X4_cheapestEnd_X4 hown hK hW rfl rfl 7 (by decide) (hts (.fieldLink RX4 35 "PetrolBoard$Loads" "toStation" "[I") (me_s (me_l (List.mem_of_getElem? (i := 4) rfl)))) (fun _ h => h) rfl dX4_cheapestEnd_103 ?_
                      refine lv_iload_n hx hb dX4_cheapestEnd_106 rfl (lv_at hl 0 rfl) ?_
                      refine z_iald (i := 57) hx hb hK hW rfl (z_ix rfl (by omega) (by omega)) dX4_cheapestEnd_107 ?_
                      refine lv_topi (fun x28 ex28 => ?_)
                      refine lv_ldc (v := 1000000) hx hb hown (hts (.constant RX4 72 (1000000)) (me_s (me_l (List.mem_of_getElem? (i := 2) rfl)))) dX4_cheapestEnd_108 ?_
                      refine lv_icmp_ge (tgt := 117) hx hb dX4_cheapestEnd_110 (by decide) (fun c29 => ?_) (fun c29 => ?_)
                      · have g30 := z_f_ge rfl z_l1000000 c29
                        refine lv_iconst (v := 0) hx hb dX4_cheapestEnd_117 (by decide) ?_
                        refine lv_istore (lv' := [(4, .int 0), (3, .int y17), (2, .int y18), (1, .int y12), (0, .ref (ad 41))]) hx hb dX4_cheapestEnd_118 hl (by decide) rfl (fun ls hl => ?_)
                        refine lv_iload hx hb dX4_cheapestEnd_120 (lv_at hl 0 rfl) ?_
                        refine lv_if_eq (tgt := 147) hx hb dX4_cheapestEnd_122 (by decide) (fun c31 => ?_) (fun c31 => absurd (by decide) c31)
                        obtain ⟨x32, ex32⟩ : ∃ y : Int32, y = y17 + 1 := ⟨_, rfl⟩
                        have tx32 : x32.toInt = y17.toInt + 1 := z_tadd ex32 rfl z_l1 (by omega) (by omega)
                        refine lv_iinc (v := x32) (lv' := [(3, .int x32), (4, .int 0), (2, .int y18), (1, .int y12), (0, .ref (ad 41))]) hx hb dX4_cheapestEnd_147 hl (k := 1) rfl (by rw [ex32]; rfl) (by decide) rfl (fun ls hl => ?_)
                        refine lv_goto (tgt := 87) hx hb dX4_cheapestEnd_150 (by decide) ?_
                        exact lp16ih x32 y18 _ _ _ (by omega) (by omega) (by omega) (by omega) hW hS (lv_sub hl [0, 2, 3, 4] rfl)
                      · have g33 := z_f_nge rfl z_l1000000 c29
                        refine lv_iconst (v := 1) hx hb dX4_cheapestEnd_113 (by decide) ?_
                        refine lv_goto (tgt := 118) hx hb dX4_cheapestEnd_114 (by decide) ?_
                        refine lv_istore (lv' := [(4, .int 1), (3, .int y17), (2, .int y18), (1, .int y12), (0, .ref (ad 41))]) hx hb dX4_cheapestEnd_118 hl (by decide) rfl (fun ls hl => ?_)
                        refine lv_iload hx hb dX4_cheapestEnd_120 (lv_at hl 0 rfl) ?_
                        refine lv_if_eq (tgt := 147) hx hb dX4_cheapestEnd_122 (by decide) (fun c34 => absurd c34 (by decide)) (fun c34 => ?_)
                        refine lv_iload_n hx hb dX4_cheapestEnd_125 rfl (lv_at hl 2 rfl) ?_
                        refine lv_iconst (v := (-1)) hx hb dX4_cheapestEnd_126 (by decide) ?_
                        refine lv_icmp_eq (tgt := 145) hx hb dX4_cheapestEnd_127 (by decide) (fun c35 => ?_) (fun c35 => ?_)
                        · have g36 := z_f_eq rfl z_lm1 c35
                          refine lv_iload_n hx hb dX4_cheapestEnd_145 rfl (lv_at hl 1 rfl) ?_
                          refine lv_istore_n (lv' := [(2, .int y17), (4, .int 1), (3, .int y17), (1, .int y12), (0, .ref (ad 41))]) hx hb dX4_cheapestEnd_146 rfl hl (by decide) rfl (fun ls hl => ?_)
                          obtain ⟨x37, ex37⟩ : ∃ y : Int32, y = y17 + 1 := ⟨_, rfl⟩
                          have tx37 : x37.toInt = y17.toInt + 1 := z_tadd ex37 rfl z_l1 (by omega) (by omega)
                          refine lv_iinc (v := x37) (lv' := [(3, .int x37), (2, .int y17), (4, .int 1), (1, .int y12), (0, .ref (ad 41))]) hx hb dX4_cheapestEnd_147 hl (k := 2) rfl (by rw [ex37]; rfl) (by decide) rfl (fun ls hl => ?_)
                          refine lv_goto (tgt := 87) hx hb dX4_cheapestEnd_150 (by decide) ?_
                          exact lp16ih x37 y17 _ _ _ (by omega) (by omega) (by omega) (by omega) hW hS (lv_sub hl [0, 1, 3, 4] rfl)
                        · have g38 := z_f_ne rfl z_lm1 c35
                          refine lv_aload_n hx hb dX4_cheapestEnd_130 rfl (lv_at hl 4 rfl) ?_
                          refine z_get (T := TX4) (N := 13) (ci := 4) (i := 41) (v := .ref (ad 57)) hx hb hts zj_X4_cheapestEnd_X4 hown hK hW rfl rfl 7 (by decide) (hts (.fieldLink RX4 35 "PetrolBoard$Loads" "toStation" "[I") (me_s (me_l (List.mem_of_getElem? (i := 4) rfl)))) (fun _ h => h) rfl dX4_cheapestEnd_131 ?_
                          refine lv_iload_n hx hb dX4_cheapestEnd_134 rfl (lv_at hl 1 rfl) ?_
                          refine z_iald (i := 57) hx hb hK hW rfl (z_ix rfl (by omega) (by omega)) dX4_cheapestEnd_135 ?_
                          refine z_topi (v := x28) ex28.symm ?_
                          refine lv_aload_n hx hb dX4_cheapestEnd_136 rfl (lv_at hl 4 rfl) ?_
                          refine z_get (T := TX4) (N := 13) (ci := 4) (i := 41) (v := .ref (ad 57)) hx hb hts zj_X4_cheapestEnd_X4 hown hK hW rfl rfl 7 (by decide) (hts (.fieldLink RX4 35 "PetrolBoard$Loads" "toStation" "[I") (me_s (me_l (List.mem_of_getElem? (i := 4) rfl)))) (fun _ h => h) rfl dX4_cheapestEnd_137 ?_
                          refine lv_iload_n hx hb dX4_cheapestEnd_140 rfl (lv_at hl 2 rfl) ?_
                          refine z_iald (i := 57) hx hb hK hW rfl (z_ix rfl (by omega) (by omega)) dX4_cheapestEnd_141 ?_
                          refine lv_topi (fun x39 ex39 => ?_)
                          refine lv_icmp_ge (tgt := 147) hx hb dX4_cheapestEnd_142 (by decide) (fun c40 => ?_) (fun c40 => ?_)
                          · have g41 := z_f_ge rfl rfl c40
                            obtain ⟨x42, ex42⟩ : ∃ y : Int32, y = y17 + 1 := ⟨_, rfl⟩
                            have tx42 : x42.toInt = y17.toInt + 1 := z_tadd ex42 rfl z_l1 (by omega) (by omega)
                            refine lv_iinc (v := x42) (lv' := [(3, .int x42), (4, .int 1), (2, .int y18), (1, .int y12), (0, .ref (ad 41))]) hx hb dX4_cheapestEnd_147 hl (k := 1) rfl (by rw [ex42]; rfl) (by decide) rfl (fun ls hl => ?_)
                            refine lv_goto (tgt := 87) hx hb dX4_cheapestEnd_150 (by decide) ?_
                            exact lp16ih x42 y18 _ _ _ (by omega) (by omega) (by omega) (by omega) hW hS (lv_sub hl [0, 2, 3, 4] rfl)
                          · have g43 := z_f_nge rfl rfl c40
                            refine lv_iload_n hx hb dX4_cheapestEnd_145 rfl (lv_at hl 1 rfl) ?_
                            refine lv_istore_n (lv' := [(2, .int y17), (4, .int 1), (3, .int y17), (1, .int y12), (0, .ref (ad 41))]) hx hb dX4_cheapestEnd_146 rfl hl (by decide) rfl (fun ls hl => ?_)
                            obtain ⟨x44, ex44⟩ : ∃ y : Int32, y = y17 + 1 := ⟨_, rfl⟩
                            have tx44 : x44.toInt = y17.toInt + 1 := z_tadd ex44 rfl z_l1 (by omega) (by omega)
                            refine lv_iinc (v := x44) (lv' := [(3, .int x44), (2, .int y17), (4, .int 1), (1, .int y12), (0, .ref (ad 41))]) hx hb dX4_cheapestEnd_147 hl (k := 2) rfl (by rw [ex44]; rfl) (by decide) rfl (fun ls hl => ?_)
                            refine lv_goto (tgt := 87) hx hb dX4_cheapestEnd_150 (by decide) ?_
                            exact lp16ih x44 y17 _ _ _ (by omega) (by omega) (by omega) (by omega) hW hS (lv_sub hl [0, 1, 3, 4] rfl)
              exact lp16 4294967296 (0) ((-1)) _ _ _ (z_m0u _) (by rw [z_l0]; omega) (by rw [z_lm1]; omega) (by rw [z_lm1]; omega) hW hS (lv_sub hl [0, 1, 2, 3] rfl)
            · have g45 := z_f_ngt rfl z_l14 c14
              refine lv_iload_n hx hb dX4_cheapestEnd_68 rfl (lv_at hl 1 rfl) ?_
              refine lv_if_eq (tgt := 83) hx hb dX4_cheapestEnd_69 (by decide) (fun c46 => ?_) (fun c46 => ?_)
              · have g47 := z_f_eq rfl z_l0 c46
                refine lv_iconst (v := (-1)) hx hb dX4_cheapestEnd_83 (by decide) ?_
                refine lv_istore_n (lv' := [(2, .int (-1)), (1, .int y12), (0, .ref (ad 41))]) hx hb dX4_cheapestEnd_84 rfl hl (by decide) rfl (fun ls hl => ?_)
                refine lv_iconst (v := 0) hx hb dX4_cheapestEnd_85 (by decide) ?_
                refine lv_istore_n (lv' := [(3, .int 0), (2, .int (-1)), (1, .int y12), (0, .ref (ad 41))]) hx hb dX4_cheapestEnd_86 rfl hl (by decide) rfl (fun ls hl => ?_)
                have lp48 : ∀ (f : Nat) (y49 : Int32) (y50 : Int32) (H : Heap) (locs : List Loc) (ls : Array Slot), (2147483647 < y49.toInt + (f : Int)) → (0 ≤ y49.toInt) → ((-1) ≤ y50.toInt) → (y50.toInt ≤ 9) → z_W G A (shC c, ad, I13, JX, PC c ad) H → va_S A s.heap H locs → lv_has ls 5 [(3, .int y49), (2, .int y50), (1, .int y12), (0, .ref (ad 41))] → W p l e (headSpec wsX4_cheapestEnd { frames := 2, cells := 0, slots := 0, locals := 36 }).room s m ([.ref (ad 41)] : List Value).toArray below meth c0 H locs 0 0 (MQ below (va_Qi (fun (r : Int32) (u1 : z_U) => ∃ I1 : z_I, u1 = (shC c, ad, I1, JX, PC c ad) ∧ z_fr L_X4_cheapestEnd I1 I) (z_B G A) A) ([.ref (ad 41)] : List Value).toArray s 0 0 A) (F0 m 87 ls []) := by
                  intro f
                  induction f with
                  | zero => intro y49 y50 H locs ls lp48m lp48l3 lp48l2 lp48u2 hW hS hl; exact absurd lp48m (by have := Int32.toInt_lt y49; have := Int32.le_toInt y49; omega)
                  | succ f lp48ih =>
                    intro y49 y50 H locs ls lp48m lp48l3 lp48l2 lp48u2 hW hS hl
                    refine lv_iload_n hx hb dX4_cheapestEnd_87 rfl (lv_at hl 0 rfl) ?_
                    refine lv_bipush (v := 10) hx hb dX4_cheapestEnd_88 (by decide) ?_
                    refine lv_icmp_ge (tgt := 153) hx hb dX4_cheapestEnd_90 (by decide) (fun c51 => ?_) (fun c51 => ?_)
                    · have g52 := z_f_ge rfl z_l10 c51
                      refine lv_iload_n hx hb dX4_cheapestEnd_153 rfl (lv_at hl 1 rfl) ?_
                      exact z_iret hx hb hr hK hS (Nat.le_of_ble_eq_true rfl) (Nat.le_of_ble_eq_true rfl) hlocks dX4_cheapestEnd_154 (shC c, ad, I13, JX, PC c ad) hW ⟨I13, rfl, lp10fr⟩
                    · have g53 := z_f_nge rfl z_l10 c51
                      refine lv_aload_n hx hb dX4_cheapestEnd_93 rfl (lv_at hl 3 rfl) ?_
                      refine z_get (T := TX4) (N := 13) (ci := 4) (i := 41) (v := .ref (ad 55)) hx hb hts zj_X4_cheapestEnd_X4 hown hK hW rfl rfl 5 (by decide) (hts (.fieldLink RX4 29 "PetrolBoard$Loads" "lacking" "[I") (me_s (me_l (List.mem_of_getElem? (i := 6) rfl)))) (fun _ h => h) rfl dX4_cheapestEnd_94 ?_
                      refine lv_iload_n hx hb dX4_cheapestEnd_97 rfl (lv_at hl 0 rfl) ?_
                      refine z_iald (i := 55) hx hb hK hW rfl (z_ix rfl (by omega) (by omega)) dX4_cheapestEnd_98 ?_
                      refine lv_topi (fun x54 ex54 => ?_)
                      refine lv_if_le (tgt := 117) hx hb dX4_cheapestEnd_99 (by decide) (fun c55 => ?_) (fun c55 => ?_)
                      · have g56 := z_f_le rfl z_l0 c55
                        refine lv_iconst (v := 0) hx hb dX4_cheapestEnd_117 (by decide) ?_
                        refine lv_istore (lv' := [(4, .int 0), (3, .int y49), (2, .int y50), (1, .int y12), (0, .ref (ad 41))]) hx hb dX4_cheapestEnd_118 hl (by decide) rfl (fun ls hl => ?_)
                        refine lv_iload hx hb dX4_cheapestEnd_120 (lv_at hl 0 rfl) ?_
                        refine lv_if_eq (tgt := 147) hx hb dX4_cheapestEnd_122 (by decide) (fun c57 => ?_) (fun c57 => absurd (by decide) c57)
                        obtain ⟨x58, ex58⟩ : ∃ y : Int32, y = y49 + 1 := ⟨_, rfl⟩
                        have tx58 : x58.toInt = y49.toInt + 1 := z_tadd ex58 rfl z_l1 (by omega) (by omega)
                        refine lv_iinc (v := x58) (lv' := [(3, .int x58), (4, .int 0), (2, .int y50), (1, .int y12), (0, .ref (ad 41))]) hx hb dX4_cheapestEnd_147 hl (k := 1) rfl (by rw [ex58]; rfl) (by decide) rfl (fun ls hl => ?_)
                        refine lv_goto (tgt := 87) hx hb dX4_cheapestEnd_150 (by decide) ?_
                        exact lp48ih x58 y50 _ _ _ (by omega) (by omega) (by omega) (by omega) hW hS (lv_sub hl [0, 2, 3, 4] rfl)
                      · have g59 := z_f_nle rfl z_l0 c55
                        refine lv_aload_n hx hb dX4_cheapestEnd_102 rfl (lv_at hl 3 rfl) ?_
                        refine z_get (T := TX4) (N := 13) (ci := 4) (i := 41) (v := .ref (ad 57)) hx hb hts zj_X4_cheapestEnd_X4 hown hK hW rfl rfl 7 (by decide) (hts (.fieldLink RX4 35 "PetrolBoard$Loads" "toStation" "[I") (me_s (me_l (List.mem_of_getElem? (i := 4) rfl)))) (fun _ h => h) rfl dX4_cheapestEnd_103 ?_
                        refine lv_iload_n hx hb dX4_cheapestEnd_106 rfl (lv_at hl 0 rfl) ?_
                        refine z_iald (i := 57) hx hb hK hW rfl (z_ix rfl (by omega) (by omega)) dX4_cheapestEnd_107 ?_
                        refine lv_topi (fun x60 ex60 => ?_)
                        refine lv_ldc (v := 1000000) hx hb hown (hts (.constant RX4 72 (1000000)) (me_s (me_l (List.mem_of_getElem? (i := 2) rfl)))) dX4_cheapestEnd_108 ?_
                        refine lv_icmp_ge (tgt := 117) hx hb dX4_cheapestEnd_110 (by decide) (fun c61 => ?_) (fun c61 => ?_)
                        · have g62 := z_f_ge rfl z_l1000000 c61
                          refine lv_iconst (v := 0) hx hb dX4_cheapestEnd_117 (by decide) ?_
                          refine lv_istore (lv' := [(4, .int 0), (3, .int y49), (2, .int y50), (1, .int y12), (0, .ref (ad 41))]) hx hb dX4_cheapestEnd_118 hl (by decide) rfl (fun ls hl => ?_)
                          refine lv_iload hx hb dX4_cheapestEnd_120 (lv_at hl 0 rfl) ?_
                          refine lv_if_eq (tgt := 147) hx hb dX4_cheapestEnd_122 (by decide) (fun c63 => ?_) (fun c63 => absurd (by decide) c63)
                          obtain ⟨x64, ex64⟩ : ∃ y : Int32, y = y49 + 1 := ⟨_, rfl⟩
                          have tx64 : x64.toInt = y49.toInt + 1 := z_tadd ex64 rfl z_l1 (by omega) (by omega)
                          refine lv_iinc (v := x64) (lv' := [(3, .int x64), (4, .int 0), (2, .int y50), (1, .int y12), (0, .ref (ad 41))]) hx hb dX4_cheapestEnd_147 hl (k := 1) rfl (by rw [ex64]; rfl) (by decide) rfl (fun ls hl => ?_)
                          refine lv_goto (tgt := 87) hx hb dX4_cheapestEnd_150 (by decide) ?_
                          exact lp48ih x64 y50 _ _ _ (by omega) (by omega) (by omega) (by omega) hW hS (lv_sub hl [0, 2, 3, 4] rfl)
                        · have g65 := z_f_nge rfl z_l1000000 c61
                          refine lv_iconst (v := 1) hx hb dX4_cheapestEnd_113 (by decide) ?_
                          refine lv_goto (tgt := 118) hx hb dX4_cheapestEnd_114 (by decide) ?_
                          refine lv_istore (lv' := [(4, .int 1), (3, .int y49), (2, .int y50), (1, .int y12), (0, .ref (ad 41))]) hx hb dX4_cheapestEnd_118 hl (by decide) rfl (fun ls hl => ?_)
                          refine lv_iload hx hb dX4_cheapestEnd_120 (lv_at hl 0 rfl) ?_
                          refine lv_if_eq (tgt := 147) hx hb dX4_cheapestEnd_122 (by decide) (fun c66 => absurd c66 (by decide)) (fun c66 => ?_)
                          refine lv_iload_n hx hb dX4_cheapestEnd_125 rfl (lv_at hl 2 rfl) ?_
                          refine lv_iconst (v := (-1)) hx hb dX4_cheapestEnd_126 (by decide) ?_
                          refine lv_icmp_eq (tgt := 145) hx hb dX4_cheapestEnd_127 (by decide) (fun c67 => ?_) (fun c67 => ?_)
                          · have g68 := z_f_eq rfl z_lm1 c67
                            refine lv_iload_n hx hb dX4_cheapestEnd_145 rfl (lv_at hl 1 rfl) ?_
                            refine lv_istore_n (lv' := [(2, .int y49), (4, .int 1), (3, .int y49), (1, .int y12), (0, .ref (ad 41))]) hx hb dX4_cheapestEnd_146 rfl hl (by decide) rfl (fun ls hl => ?_)
                            obtain ⟨x69, ex69⟩ : ∃ y : Int32, y = y49 + 1 := ⟨_, rfl⟩
                            have tx69 : x69.toInt = y49.toInt + 1 := z_tadd ex69 rfl z_l1 (by omega) (by omega)
                            refine lv_iinc (v := x69) (lv' := [(3, .int x69), (2, .int y49), (4, .int 1), (1, .int y12), (0, .ref (ad 41))]) hx hb dX4_cheapestEnd_147 hl (k := 2) rfl (by rw [ex69]; rfl) (by decide) rfl (fun ls hl => ?_)
                            refine lv_goto (tgt := 87) hx hb dX4_cheapestEnd_150 (by decide) ?_
                            exact lp48ih x69 y49 _ _ _ (by omega) (by omega) (by omega) (by omega) hW hS (lv_sub hl [0, 1, 3, 4] rfl)
                          · have g70 := z_f_ne rfl z_lm1 c67
                            refine lv_aload_n hx hb dX4_cheapestEnd_130 rfl (lv_at hl 4 rfl) ?_
                            refine z_get (T := TX4) (N := 13) (ci := 4) (i := 41) (v := .ref (ad 57)) hx hb hts zj_X4_cheapestEnd_X4 hown hK hW rfl rfl 7 (by decide) (hts (.fieldLink RX4 35 "PetrolBoard$Loads" "toStation" "[I") (me_s (me_l (List.mem_of_getElem? (i := 4) rfl)))) (fun _ h => h) rfl dX4_cheapestEnd_131 ?_
                            refine lv_iload_n hx hb dX4_cheapestEnd_134 rfl (lv_at hl 1 rfl) ?_
                            refine z_iald (i := 57) hx hb hK hW rfl (z_ix rfl (by omega) (by omega)) dX4_cheapestEnd_135 ?_
                            refine z_topi (v := x60) ex60.symm ?_
                            refine lv_aload_n hx hb dX4_cheapestEnd_136 rfl (lv_at hl 4 rfl) ?_
                            refine z_get (T := TX4) (N := 13) (ci := 4) (i := 41) (v := .ref (ad 57)) hx hb hts zj_X4_cheapestEnd_X4 hown hK hW rfl rfl 7 (by decide) (hts (.fieldLink RX4 35 "PetrolBoard$Loads" "toStation" "[I") (me_s (me_l (List.mem_of_getElem? (i := 4) rfl)))) (fun _ h => h) rfl dX4_cheapestEnd_137 ?_
                            refine lv_iload_n hx hb dX4_cheapestEnd_140 rfl (lv_at hl 2 rfl) ?_
                            refine z_iald (i := 57) hx hb hK hW rfl (z_ix rfl (by omega) (by omega)) dX4_cheapestEnd_141 ?_
                            refine lv_topi (fun x71 ex71 => ?_)
                            refine lv_icmp_ge (tgt := 147) hx hb dX4_cheapestEnd_142 (by decide) (fun c72 => ?_) (fun c72 => ?_)
                            · have g73 := z_f_ge rfl rfl c72
                              obtain ⟨x74, ex74⟩ : ∃ y : Int32, y = y49 + 1 := ⟨_, rfl⟩
                              have tx74 : x74.toInt = y49.toInt + 1 := z_tadd ex74 rfl z_l1 (by omega) (by omega)
                              refine lv_iinc (v := x74) (lv' := [(3, .int x74), (4, .int 1), (2, .int y50), (1, .int y12), (0, .ref (ad 41))]) hx hb dX4_cheapestEnd_147 hl (k := 1) rfl (by rw [ex74]; rfl) (by decide) rfl (fun ls hl => ?_)
                              refine lv_goto (tgt := 87) hx hb dX4_cheapestEnd_150 (by decide) ?_
                              exact lp48ih x74 y50 _ _ _ (by omega) (by omega) (by omega) (by omega) hW hS (lv_sub hl [0, 2, 3, 4] rfl)
                            · have g75 := z_f_nge rfl rfl c72
                              refine lv_iload_n hx hb dX4_cheapestEnd_145 rfl (lv_at hl 1 rfl) ?_
                              refine lv_istore_n (lv' := [(2, .int y49), (4, .int 1), (3, .int y49), (1, .int y12), (0, .ref (ad 41))]) hx hb dX4_cheapestEnd_146 rfl hl (by decide) rfl (fun ls hl => ?_)
                              obtain ⟨x76, ex76⟩ : ∃ y : Int32, y = y49 + 1 := ⟨_, rfl⟩
                              have tx76 : x76.toInt = y49.toInt + 1 := z_tadd ex76 rfl z_l1 (by omega) (by omega)
                              refine lv_iinc (v := x76) (lv' := [(3, .int x76), (2, .int y49), (4, .int 1), (1, .int y12), (0, .ref (ad 41))]) hx hb dX4_cheapestEnd_147 hl (k := 2) rfl (by rw [ex76]; rfl) (by decide) rfl (fun ls hl => ?_)
                              refine lv_goto (tgt := 87) hx hb dX4_cheapestEnd_150 (by decide) ?_
                              exact lp48ih x76 y49 _ _ _ (by omega) (by omega) (by omega) (by omega) hW hS (lv_sub hl [0, 1, 3, 4] rfl)
                exact lp48 4294967296 (0) ((-1)) _ _ _ (z_m0u _) (by rw [z_l0]; omega) (by rw [z_lm1]; omega) (by rw [z_lm1]; omega) hW hS (lv_sub hl [0, 1, 2, 3] rfl)
              · have g77 := z_f_ne rfl z_l0 c46
                refine lv_aload_n hx hb dX4_cheapestEnd_72 rfl (lv_at hl 2 rfl) ?_
                refine z_ci hW hS hA (va_runV (As := []) (rest := []) ⟨hx, hb, hml, hown, hts⟩ (sx_X4_shorten l G ad c I13   _) (cwV 0 hts gX4_cheapestEnd_X4_shorten rfl rfl rfl hy_X4_shorten ⟨Nat.le_of_ble_eq_true rfl, Nat.le_of_ble_eq_true rfl⟩) (z_preV (i := 41) hK hW rfl rfl) rfl rfl hl.1 rfl (lv_room (Nat.le_of_ble_eq_true rfl)) dX4_cheapestEnd_73 ⟨Nat.le_of_ble_eq_true rfl, Nat.le_of_ble_eq_true rfl⟩) (fun r u1 H locs hp hW hS => ?_)
                obtain ⟨I78, e9, fI78, hp⟩ := hp
                rw [e9] at hW
                have f79 := z_fr_sub (L := L_X4_cheapestEnd) lp10fr fI78 (by decide)
                rcases hp with rfl | rfl
                · refine lv_istore_n (lv' := [(1, .int 1), (2, .int y11), (0, .ref (ad 41))]) hx hb dX4_cheapestEnd_76 rfl hl (by decide) rfl (fun ls hl => ?_)
                  obtain ⟨x80, ex80⟩ : ∃ y : Int32, y = y11 + 1 := ⟨_, rfl⟩
                  have tx80 : x80.toInt = y11.toInt + 1 := z_tadd ex80 rfl z_l1 (by omega) (by omega)
                  refine lv_iinc (v := x80) (lv' := [(2, .int x80), (1, .int 1), (0, .ref (ad 41))]) hx hb dX4_cheapestEnd_77 hl (k := 1) rfl (by rw [ex80]; rfl) (by decide) rfl (fun ls hl => ?_)
                  refine lv_goto (tgt := 62) hx hb dX4_cheapestEnd_80 (by decide) ?_
                  exact lp10ih x80 (1) I78  _ _ _ (by omega) (by omega) f79 hW hS (lv_sub hl [0, 1, 2] rfl)
                · refine lv_istore_n (lv' := [(1, .int 0), (2, .int y11), (0, .ref (ad 41))]) hx hb dX4_cheapestEnd_76 rfl hl (by decide) rfl (fun ls hl => ?_)
                  obtain ⟨x81, ex81⟩ : ∃ y : Int32, y = y11 + 1 := ⟨_, rfl⟩
                  have tx81 : x81.toInt = y11.toInt + 1 := z_tadd ex81 rfl z_l1 (by omega) (by omega)
                  refine lv_iinc (v := x81) (lv' := [(2, .int x81), (1, .int 0), (0, .ref (ad 41))]) hx hb dX4_cheapestEnd_77 hl (k := 1) rfl (by rw [ex81]; rfl) (by decide) rfl (fun ls hl => ?_)
                  refine lv_goto (tgt := 62) hx hb dX4_cheapestEnd_80 (by decide) ?_
                  exact lp10ih x81 (0) I78  _ _ _ (by omega) (by omega) f79 hW hS (lv_sub hl [0, 1, 2] rfl)
        exact lp10 4294967296 (0) (1) I8  _ _ _ (z_m0u _) (by rw [z_l0]; omega) f9 hW hS (lv_sub hl [0, 1, 2] rfl)
      · have g82 := z_f_nge rfl z_l4 c4
        refine lv_aload_n hx hb dX4_cheapestEnd_7 rfl (lv_at hl 1 rfl) ?_
        refine z_get (T := TX4) (N := 13) (ci := 4) (i := 41) (v := .ref (ad 56)) hx hb hts zj_X4_cheapestEnd_X4 hown hK hW rfl rfl 6 (by decide) (hts (.fieldLink RX4 32 "PetrolBoard$Loads" "toPort" "[I") (me_s (me_l (List.mem_of_getElem? (i := 0) rfl)))) (fun _ h => h) rfl dX4_cheapestEnd_8 ?_
        refine lv_iload_n hx hb dX4_cheapestEnd_11 rfl (lv_at hl 0 rfl) ?_
        refine lv_aload_n hx hb dX4_cheapestEnd_12 rfl (lv_at hl 1 rfl) ?_
        refine z_get (T := TX4) (N := 13) (ci := 4) (i := 41) (v := .ref (ad 54)) hx hb hts zj_X4_cheapestEnd_X4 hown hK hW rfl rfl 4 (by decide) (hts (.fieldLink RX4 26 "PetrolBoard$Loads" "left" "[I") (me_s (me_l (List.mem_of_getElem? (i := 1) rfl)))) (fun _ h => h) rfl dX4_cheapestEnd_13 ?_
        refine lv_iload_n hx hb dX4_cheapestEnd_16 rfl (lv_at hl 0 rfl) ?_
        refine z_iald (i := 54) hx hb hK hW rfl (z_ix rfl (by omega) (by omega)) dX4_cheapestEnd_17 ?_
        refine lv_topi (fun x83 ex83 => ?_)
        refine lv_if_le (tgt := 25) hx hb dX4_cheapestEnd_18 (by decide) (fun c84 => ?_) (fun c84 => ?_)
        · have g85 := z_f_le rfl z_l0 c84
          refine lv_ldc (v := 1000000) hx hb hown (hts (.constant RX4 72 (1000000)) (me_s (me_l (List.mem_of_getElem? (i := 2) rfl)))) dX4_cheapestEnd_25 ?_
          refine z_iast (i := 56) hx hb hK hW hS rfl (z_ix rfl (by omega) (by omega)) dX4_cheapestEnd_27 (fun H locs hz1 hW hS => ?_)
          obtain ⟨I86, eI86⟩ : ∃ K : z_I, K = z_up I3 56 y2.toNatClampNeg 1000000 := ⟨_, rfl⟩
          rw [← eI86] at hW
          have f87 := z_fr_a lp1fr (show z_wa L_X4_cheapestEnd 56 = true by decide) eI86
          refine lv_aload_n hx hb dX4_cheapestEnd_28 rfl (lv_at hl 1 rfl) ?_
          refine z_get (T := TX4) (N := 13) (ci := 4) (i := 41) (v := .ref (ad 59)) hx hb hts zj_X4_cheapestEnd_X4 hown hK hW rfl rfl 9 (by decide) (hts (.fieldLink RX4 41 "PetrolBoard$Loads" "byStation" "[I") (me_s (me_l (List.mem_of_getElem? (i := 3) rfl)))) (fun _ h => h) rfl dX4_cheapestEnd_29 ?_
          refine lv_iload_n hx hb dX4_cheapestEnd_32 rfl (lv_at hl 0 rfl) ?_
          refine lv_iconst (v := (-1)) hx hb dX4_cheapestEnd_33 (by decide) ?_
          refine z_iast (i := 59) hx hb hK hW hS rfl (z_ix rfl (by omega) (by omega)) dX4_cheapestEnd_34 (fun H locs hz1 hW hS => ?_)
          obtain ⟨I88, eI88⟩ : ∃ K : z_I, K = z_up I86 59 y2.toNatClampNeg (-1) := ⟨_, rfl⟩
          rw [← eI88] at hW
          have f89 := z_fr_a f87 (show z_wa L_X4_cheapestEnd 59 = true by decide) eI88
          obtain ⟨x90, ex90⟩ : ∃ y : Int32, y = y2 + 1 := ⟨_, rfl⟩
          have tx90 : x90.toInt = y2.toInt + 1 := z_tadd ex90 rfl z_l1 (by omega) (by omega)
          refine lv_iinc (v := x90) (lv' := [(1, .int x90), (0, .ref (ad 41))]) hx hb dX4_cheapestEnd_35 hl (k := 0) rfl (by rw [ex90]; rfl) (by decide) rfl (fun ls hl => ?_)
          refine lv_goto (tgt := 2) hx hb dX4_cheapestEnd_38 (by decide) ?_
          exact lp1ih x90 I88  _ _ _ (by omega) (by omega) f89 hW hS (lv_sub hl [0, 1] rfl)
        · have g91 := z_f_nle rfl z_l0 c84
          refine lv_iconst (v := 0) hx hb dX4_cheapestEnd_21 (by decide) ?_
          refine lv_goto (tgt := 27) hx hb dX4_cheapestEnd_22 (by decide) ?_
          refine z_iast (i := 56) hx hb hK hW hS rfl (z_ix rfl (by omega) (by omega)) dX4_cheapestEnd_27 (fun H locs hz1 hW hS => ?_)
          obtain ⟨I92, eI92⟩ : ∃ K : z_I, K = z_up I3 56 y2.toNatClampNeg 0 := ⟨_, rfl⟩
          rw [← eI92] at hW
          have f93 := z_fr_a lp1fr (show z_wa L_X4_cheapestEnd 56 = true by decide) eI92
          refine lv_aload_n hx hb dX4_cheapestEnd_28 rfl (lv_at hl 1 rfl) ?_
          refine z_get (T := TX4) (N := 13) (ci := 4) (i := 41) (v := .ref (ad 59)) hx hb hts zj_X4_cheapestEnd_X4 hown hK hW rfl rfl 9 (by decide) (hts (.fieldLink RX4 41 "PetrolBoard$Loads" "byStation" "[I") (me_s (me_l (List.mem_of_getElem? (i := 3) rfl)))) (fun _ h => h) rfl dX4_cheapestEnd_29 ?_
          refine lv_iload_n hx hb dX4_cheapestEnd_32 rfl (lv_at hl 0 rfl) ?_
          refine lv_iconst (v := (-1)) hx hb dX4_cheapestEnd_33 (by decide) ?_
          refine z_iast (i := 59) hx hb hK hW hS rfl (z_ix rfl (by omega) (by omega)) dX4_cheapestEnd_34 (fun H locs hz1 hW hS => ?_)
          obtain ⟨I94, eI94⟩ : ∃ K : z_I, K = z_up I92 59 y2.toNatClampNeg (-1) := ⟨_, rfl⟩
          rw [← eI94] at hW
          have f95 := z_fr_a f93 (show z_wa L_X4_cheapestEnd 59 = true by decide) eI94
          obtain ⟨x96, ex96⟩ : ∃ y : Int32, y = y2 + 1 := ⟨_, rfl⟩
          have tx96 : x96.toInt = y2.toInt + 1 := z_tadd ex96 rfl z_l1 (by omega) (by omega)
          refine lv_iinc (v := x96) (lv' := [(1, .int x96), (0, .ref (ad 41))]) hx hb dX4_cheapestEnd_35 hl (k := 0) rfl (by rw [ex96]; rfl) (by decide) rfl (fun ls hl => ?_)
          refine lv_goto (tgt := 2) hx hb dX4_cheapestEnd_38 (by decide) ?_
          exact lp1ih x96 I94  _ _ _ (by omega) (by omega) f95 hW hS (lv_sub hl [0, 1] rfl)
  exact lp1 4294967296 (0) I  _ _ _ (z_m0u _) (by rw [z_l0]; omega) z_fr_0 hW hS (lv_sub hl [0, 1] rfl)
theorem zj_X4_loadTo_X4 : ∀ w ∈ wsX40, w ∈ wsX4_loadTo := fun w h => (List.mem_cons_of_mem _ (List.mem_append_right _ h))
set_option maxHeartbeats 8000000 in
set_option maxRecDepth 100000 in
theorem sx_X4_loadTo (l : Launch) (G : z_G) (ad : Nat → Nat) (c : z_C) (I : z_I) (a1 : Int32) : z_M l yX4_loadTo wsX4_loadTo { frames := 2, cells := 0, slots := 0, locals := 40 } [.ref (ad 41), .int a1] G (shC c, ad, I, JX, PC c ad) (fun r u1 => u1 = (shC c, ad, I, JX, PC c ad)) 0 0 := by
  intro sz
  refine z_headQ (cc := cX4_loadTo) (maxL := 6) (ret := (some .int)) (by decide) rfl (Nat.le_of_ble_eq_true rfl) ?_
  intro p e s m below meth c0 ls hIn hK hsz hW hl
  obtain ⟨hx, hb, hr, hml, hown, hts, hlocks, hname⟩ := hIn
  subst hsz
  have hown : s.vm.findClass RX4 = some m.cls := hown
  have hA : ∀ q : Nat, s.heap.size ≤ q → z_A (shC c, ad, I, JX, PC c ad) s.heap.size q := fun q h => Or.inr h
  generalize hAe : z_A (shC c, ad, I, JX, PC c ad) s.heap.size = A at *
  have hS : va_S A s.heap s.heap [] := va_S.rf
  have hl : lv_has ls 6 [(0, .ref (ad 41)), (1, .int a1)] := hl
  refine lv_iload_n hx hb dX4_loadTo_0 rfl (lv_at hl 1 rfl) ?_
  refine z_ci hW hS hA (va_runS (As := [.int a1]) (rest := []) ⟨hx, hb, hml, hown, hts⟩ (sx_X4_isStation l G ad c I  a1 _) (va_cwS 1 hts gX4_loadTo_X4_isStation rfl rfl rfl hy_X4_isStation.2 ⟨Nat.le_of_ble_eq_true rfl, Nat.le_of_ble_eq_true rfl⟩) (z_preS hK hW) rfl rfl hl.1 rfl (lv_room (Nat.le_of_ble_eq_true rfl)) dX4_loadTo_1 ⟨Nat.le_of_ble_eq_true rfl, Nat.le_of_ble_eq_true rfl⟩) (fun r u1 H locs hp hW hS => ?_)
  obtain ⟨e9, hp⟩ := hp
  rw [e9] at hW
  rcases hp with ⟨rfl, h1, h2⟩ | rfl
  · refine lv_if_ne (tgt := 9) hx hb dX4_loadTo_4 (by decide) (fun c3 => ?_) (fun c3 => absurd c3 (by decide))
    refine lv_aload_n hx hb dX4_loadTo_9 rfl (lv_at hl 0 rfl) ?_
    refine z_get (T := TX4) (N := 13) (ci := 4) (i := 41) (v := .ref (ad 55)) hx hb hts zj_X4_loadTo_X4 hown hK hW rfl rfl 5 (by decide) (hts (.fieldLink RX4 29 "PetrolBoard$Loads" "lacking" "[I") (me_s (me_l (List.mem_of_getElem? (i := 0) rfl)))) (fun _ h => h) rfl dX4_loadTo_10 ?_
    refine lv_iload_n hx hb dX4_loadTo_13 rfl (lv_at hl 1 rfl) ?_
    refine z_iald (i := 55) hx hb hK hW rfl (z_ix rfl (by omega) (by omega)) dX4_loadTo_14 ?_
    refine lv_topi (fun x4 ex4 => ?_)
    refine lv_istore_n (lv' := [(2, .int x4), (0, .ref (ad 41)), (1, .int a1)]) hx hb dX4_loadTo_15 rfl hl (by decide) rfl (fun ls hl => ?_)
    refine lv_iload_n hx hb dX4_loadTo_16 rfl (lv_at hl 2 rfl) ?_
    refine lv_istore_n (lv' := [(3, .int a1), (2, .int x4), (0, .ref (ad 41)), (1, .int a1)]) hx hb dX4_loadTo_17 rfl hl (by decide) rfl (fun ls hl => ?_)
    refine lv_iconst (v := 0) hx hb dX4_loadTo_18 (by decide) ?_
    refine lv_istore (lv' := [(4, .int 0), (3, .int a1), (2, .int x4), (0, .ref (ad 41)), (1, .int a1)]) hx hb dX4_loadTo_19 hl (by decide) rfl (fun ls hl => ?_)
    have lp5 : ∀ (f : Nat) (y6 : Int32) (y7 : Int32) (y8 : Int32) (H : Heap) (locs : List Loc) (ls : Array Slot), (2147483647 < y6.toInt + (f : Int)) → (0 ≤ y6.toInt) → z_W G A (shC c, ad, I, JX, PC c ad) H → va_S A s.heap H locs → lv_has ls 6 [(4, .int y6), (3, .int y7), (2, .int y8), (0, .ref (ad 41)), (1, .int a1)] → W p l e (headSpec wsX4_loadTo { frames := 2, cells := 0, slots := 0, locals := 40 }).room s m ([.ref (ad 41), .int a1] : List Value).toArray below meth c0 H locs 0 0 (MQ below (va_Qi (fun (r : Int32) (u1 : z_U) => u1 = (shC c, ad, I, JX, PC c ad)) (z_B G A) A) ([.ref (ad 41), .int a1] : List Value).toArray s 0 0 A) (F0 m 21 ls []) := by
      intro f
      induction f with
      | zero => intro y6 y7 y8 H locs ls lp5m lp5l4 hW hS hl; exact absurd lp5m (by have := Int32.toInt_lt y6; have := Int32.le_toInt y6; omega)
      | succ f lp5ih =>
        intro y6 y7 y8 H locs ls lp5m lp5l4 hW hS hl
        refine lv_iload hx hb dX4_loadTo_21 (lv_at hl 0 rfl) ?_
        refine lv_bipush (v := 14) hx hb dX4_loadTo_23 (by decide) ?_
        refine lv_icmp_ge (tgt := 100) hx hb dX4_loadTo_25 (by decide) (fun c9 => ?_) (fun c9 => ?_)
        · have g10 := z_f_ge rfl z_l14 c9
          refine lv_iload_n hx hb dX4_loadTo_100 rfl (lv_at hl 2 rfl) ?_
          exact z_iret hx hb hr hK hS (Nat.le_of_ble_eq_true rfl) (Nat.le_of_ble_eq_true rfl) hlocks dX4_loadTo_101 (shC c, ad, I, JX, PC c ad) hW rfl
        · have g11 := z_f_nge rfl z_l14 c9
          refine lv_iload_n hx hb dX4_loadTo_28 rfl (lv_at hl 1 rfl) ?_
          refine z_ci hW hS hA (va_runS (As := [.int y7]) (rest := []) ⟨hx, hb, hml, hown, hts⟩ (sx_X4_isStation l G ad c I  y7 _) (va_cwS 1 hts gX4_loadTo_X4_isStation rfl rfl rfl hy_X4_isStation.2 ⟨Nat.le_of_ble_eq_true rfl, Nat.le_of_ble_eq_true rfl⟩) (z_preS hK hW) rfl rfl hl.1 rfl (lv_room (Nat.le_of_ble_eq_true rfl)) dX4_loadTo_29 ⟨Nat.le_of_ble_eq_true rfl, Nat.le_of_ble_eq_true rfl⟩) (fun r u1 H locs hp hW hS => ?_)
          obtain ⟨e9, hp⟩ := hp
          rw [e9] at hW
          rcases hp with ⟨rfl, h12, h13⟩ | rfl
          · refine lv_if_eq (tgt := 100) hx hb dX4_loadTo_32 (by decide) (fun c14 => absurd c14 (by decide)) (fun c14 => ?_)
            refine lv_aload_n hx hb dX4_loadTo_35 rfl (lv_at hl 3 rfl) ?_
            refine z_get (T := TX4) (N := 13) (ci := 4) (i := 41) (v := .ref (ad 58)) hx hb hts zj_X4_loadTo_X4 hown hK hW rfl rfl 8 (by decide) (hts (.fieldLink RX4 38 "PetrolBoard$Loads" "byPort" "[I") (me_s (me_l (List.mem_of_getElem? (i := 1) rfl)))) (fun _ h => h) rfl dX4_loadTo_36 ?_
            refine lv_iload_n hx hb dX4_loadTo_39 rfl (lv_at hl 1 rfl) ?_
            refine z_iald (i := 58) hx hb hK hW rfl (z_ix rfl (by omega) (by omega)) dX4_loadTo_40 ?_
            refine lv_topi (fun x15 ex15 => ?_)
            refine z_ci hW hS hA (va_runS (As := [.int x15]) (rest := []) ⟨hx, hb, hml, hown, hts⟩ (sx_X4_isPort l G ad c I  x15 _) (va_cwS 1 hts gX4_loadTo_X4_isPort rfl rfl rfl hy_X4_isPort.2 ⟨Nat.le_of_ble_eq_true rfl, Nat.le_of_ble_eq_true rfl⟩) (z_preS hK hW) rfl rfl hl.1 rfl (lv_room (Nat.le_of_ble_eq_true rfl)) dX4_loadTo_41 ⟨Nat.le_of_ble_eq_true rfl, Nat.le_of_ble_eq_true rfl⟩) (fun r u1 H locs hp hW hS => ?_)
            obtain ⟨e9, hp⟩ := hp
            rw [e9] at hW
            rcases hp with ⟨rfl, h16, h17⟩ | rfl
            · refine lv_if_eq (tgt := 100) hx hb dX4_loadTo_44 (by decide) (fun c18 => absurd c18 (by decide)) (fun c18 => ?_)
              refine lv_aload_n hx hb dX4_loadTo_47 rfl (lv_at hl 3 rfl) ?_
              refine z_get (T := TX4) (N := 13) (ci := 4) (i := 41) (v := .ref (ad 58)) hx hb hts zj_X4_loadTo_X4 hown hK hW rfl rfl 8 (by decide) (hts (.fieldLink RX4 38 "PetrolBoard$Loads" "byPort" "[I") (me_s (me_l (List.mem_of_getElem? (i := 1) rfl)))) (fun _ h => h) rfl dX4_loadTo_48 ?_
              refine lv_iload_n hx hb dX4_loadTo_51 rfl (lv_at hl 1 rfl) ?_
              refine z_iald (i := 58) hx hb hK hW rfl (z_ix rfl (by omega) (by omega)) dX4_loadTo_52 ?_
              refine z_topi (v := x15) ex15.symm ?_
              refine lv_istore (lv' := [(5, .int x15), (4, .int y6), (3, .int y7), (2, .int y8), (0, .ref (ad 41)), (1, .int a1)]) hx hb dX4_loadTo_53 hl (by decide) rfl (fun ls hl => ?_)
              refine lv_aload_n hx hb dX4_loadTo_55 rfl (lv_at hl 4 rfl) ?_
              refine z_get (T := TX4) (N := 13) (ci := 4) (i := 41) (v := .ref (ad 59)) hx hb hts zj_X4_loadTo_X4 hown hK hW rfl rfl 9 (by decide) (hts (.fieldLink RX4 41 "PetrolBoard$Loads" "byStation" "[I") (me_s (me_l (List.mem_of_getElem? (i := 2) rfl)))) (fun _ h => h) rfl dX4_loadTo_56 ?_
              refine lv_iload hx hb dX4_loadTo_59 (lv_at hl 0 rfl) ?_
              refine z_iald (i := 59) hx hb hK hW rfl (z_ix rfl (by omega) (by omega)) dX4_loadTo_61 ?_
              refine lv_topi (fun x19 ex19 => ?_)
              refine lv_istore_n (lv' := [(3, .int x19), (5, .int x15), (4, .int y6), (2, .int y8), (0, .ref (ad 41)), (1, .int a1)]) hx hb dX4_loadTo_62 rfl hl (by decide) rfl (fun ls hl => ?_)
              refine lv_iload_n hx hb dX4_loadTo_63 rfl (lv_at hl 3 rfl) ?_
              refine lv_iload_n hx hb dX4_loadTo_64 rfl (lv_at hl 0 rfl) ?_
              refine z_ci hW hS hA (va_runS (As := [.int x19]) (rest := [.int y8]) ⟨hx, hb, hml, hown, hts⟩ (sx_X4_isStation l G ad c I  x19 _) (va_cwS 1 hts gX4_loadTo_X4_isStation rfl rfl rfl hy_X4_isStation.2 ⟨Nat.le_of_ble_eq_true rfl, Nat.le_of_ble_eq_true rfl⟩) (z_preS hK hW) rfl rfl hl.1 rfl (lv_room (Nat.le_of_ble_eq_true rfl)) dX4_loadTo_65 ⟨Nat.le_of_ble_eq_true rfl, Nat.le_of_ble_eq_true rfl⟩) (fun r u1 H locs hp hW hS => ?_)
              obtain ⟨e9, hp⟩ := hp
              rw [e9] at hW
              rcases hp with ⟨rfl, h20, h21⟩ | rfl
              · refine lv_if_eq (tgt := 83) hx hb dX4_loadTo_68 (by decide) (fun c22 => absurd c22 (by decide)) (fun c22 => ?_)
                refine lv_aload_n hx hb dX4_loadTo_71 rfl (lv_at hl 4 rfl) ?_
                refine z_get (T := TX4) (N := 13) (ci := 4) (i := 41) (v := .ref (ad 49)) hx hb hts zj_X4_loadTo_X4 hown hK hW rfl rfl 3 (by decide) (hts (.fieldLink RX4 23 "PetrolBoard$Loads" "sent" "[[I") (me_s (me_l (List.mem_of_getElem? (i := 3) rfl)))) (fun _ h => h) rfl dX4_loadTo_72 ?_
                refine lv_iload hx hb dX4_loadTo_75 (lv_at hl 1 rfl) ?_
                obtain ⟨k23, ek23, hk23⟩ : ∃ k : Nat, x15.toNatClampNeg = k ∧ k < 4 := ⟨_, rfl, z_clN rfl (by omega) (by omega)⟩
                refine z_aald (i := 49) (v := .ref (ad (50 + k23))) hx hb hK hW rfl (by simp [z_tys]) rfl (z_ix rfl (by omega) (by omega)) (z_p49 ek23 hk23) dX4_loadTo_77 ?_
                refine lv_iload_n hx hb dX4_loadTo_78 rfl (lv_at hl 0 rfl) ?_
                refine z_iald (i := (50 + k23)) hx hb hK hW (z_s50 hk23) (z_ix rfl (by omega) (by omega)) dX4_loadTo_79 ?_
                refine lv_topi (fun x24 ex24 => ?_)
                refine lv_goto (tgt := 90) hx hb dX4_loadTo_80 (by decide) ?_
                refine va_mmin (x := y8) (y := x24) hx hb (hml.trans hl.1.symm) hown (hts (.methodLink RX4 87 Lib.Math.min.name) (me_s (me_l (List.mem_of_getElem? (i := 5) rfl)))) (hts (.static Lib.Math.min.name) (me_s (me_l (List.mem_of_getElem? (i := 6) rfl)))) (hts (.initialized "java/lang/Math") (me_s (me_l (List.mem_of_getElem? (i := 7) rfl)))) (hts (.code Lib.Math.min.name Lib.Math.min.code 2 (some .int)) (me_s (me_l (List.mem_of_getElem? (i := 8) rfl)))) (Nat.le_of_ble_eq_true rfl) (Nat.le_of_ble_eq_true rfl) (Nat.le_of_ble_eq_true rfl) (Nat.le_of_ble_eq_true rfl) dX4_loadTo_90 ?_
                refine lv_topi (fun x25 ex25 => ?_)
                have tx25 := z_tmmin ex25 rfl rfl
                refine lv_istore_n (lv' := [(2, .int x25), (3, .int x19), (5, .int x15), (4, .int y6), (0, .ref (ad 41)), (1, .int a1)]) hx hb dX4_loadTo_93 rfl hl (by decide) rfl (fun ls hl => ?_)
                obtain ⟨x26, ex26⟩ : ∃ y : Int32, y = y6 + 1 := ⟨_, rfl⟩
                have tx26 : x26.toInt = y6.toInt + 1 := z_tadd ex26 rfl z_l1 (by omega) (by omega)
                refine lv_iinc (v := x26) (lv' := [(4, .int x26), (2, .int x25), (3, .int x19), (5, .int x15), (0, .ref (ad 41)), (1, .int a1)]) hx hb dX4_loadTo_94 hl (k := 3) rfl (by rw [ex26]; rfl) (by decide) rfl (fun ls hl => ?_)
                refine lv_goto (tgt := 21) hx hb dX4_loadTo_97 (by decide) ?_
                exact lp5ih x26 x19 x25 _ _ _ (by omega) (by omega) hW hS (lv_sub hl [0, 2, 1, 4, 5] rfl)
              · refine lv_if_eq (tgt := 83) hx hb dX4_loadTo_68 (by decide) (fun c27 => ?_) (fun c27 => absurd (by decide) c27)
                refine lv_aload_n hx hb dX4_loadTo_83 rfl (lv_at hl 4 rfl) ?_
                refine z_get (T := TX4) (N := 13) (ci := 4) (i := 41) (v := .ref (ad 54)) hx hb hts zj_X4_loadTo_X4 hown hK hW rfl rfl 4 (by decide) (hts (.fieldLink RX4 26 "PetrolBoard$Loads" "left" "[I") (me_s (me_l (List.mem_of_getElem? (i := 4) rfl)))) (fun _ h => h) rfl dX4_loadTo_84 ?_
                refine lv_iload hx hb dX4_loadTo_87 (lv_at hl 1 rfl) ?_
                refine z_iald (i := 54) hx hb hK hW rfl (z_ix rfl (by omega) (by omega)) dX4_loadTo_89 ?_
                refine lv_topi (fun x28 ex28 => ?_)
                refine va_mmin (x := y8) (y := x28) hx hb (hml.trans hl.1.symm) hown (hts (.methodLink RX4 87 Lib.Math.min.name) (me_s (me_l (List.mem_of_getElem? (i := 5) rfl)))) (hts (.static Lib.Math.min.name) (me_s (me_l (List.mem_of_getElem? (i := 6) rfl)))) (hts (.initialized "java/lang/Math") (me_s (me_l (List.mem_of_getElem? (i := 7) rfl)))) (hts (.code Lib.Math.min.name Lib.Math.min.code 2 (some .int)) (me_s (me_l (List.mem_of_getElem? (i := 8) rfl)))) (Nat.le_of_ble_eq_true rfl) (Nat.le_of_ble_eq_true rfl) (Nat.le_of_ble_eq_true rfl) (Nat.le_of_ble_eq_true rfl) dX4_loadTo_90 ?_
                refine lv_topi (fun x29 ex29 => ?_)
                have tx29 := z_tmmin ex29 rfl rfl
                refine lv_istore_n (lv' := [(2, .int x29), (3, .int x19), (5, .int x15), (4, .int y6), (0, .ref (ad 41)), (1, .int a1)]) hx hb dX4_loadTo_93 rfl hl (by decide) rfl (fun ls hl => ?_)
                obtain ⟨x30, ex30⟩ : ∃ y : Int32, y = y6 + 1 := ⟨_, rfl⟩
                have tx30 : x30.toInt = y6.toInt + 1 := z_tadd ex30 rfl z_l1 (by omega) (by omega)
                refine lv_iinc (v := x30) (lv' := [(4, .int x30), (2, .int x29), (3, .int x19), (5, .int x15), (0, .ref (ad 41)), (1, .int a1)]) hx hb dX4_loadTo_94 hl (k := 3) rfl (by rw [ex30]; rfl) (by decide) rfl (fun ls hl => ?_)
                refine lv_goto (tgt := 21) hx hb dX4_loadTo_97 (by decide) ?_
                exact lp5ih x30 x19 x29 _ _ _ (by omega) (by omega) hW hS (lv_sub hl [0, 2, 1, 4, 5] rfl)
            · refine lv_if_eq (tgt := 100) hx hb dX4_loadTo_44 (by decide) (fun c31 => ?_) (fun c31 => absurd (by decide) c31)
              refine lv_iload_n hx hb dX4_loadTo_100 rfl (lv_at hl 2 rfl) ?_
              exact z_iret hx hb hr hK hS (Nat.le_of_ble_eq_true rfl) (Nat.le_of_ble_eq_true rfl) hlocks dX4_loadTo_101 (shC c, ad, I, JX, PC c ad) hW rfl
          · refine lv_if_eq (tgt := 100) hx hb dX4_loadTo_32 (by decide) (fun c32 => ?_) (fun c32 => absurd (by decide) c32)
            refine lv_iload_n hx hb dX4_loadTo_100 rfl (lv_at hl 2 rfl) ?_
            exact z_iret hx hb hr hK hS (Nat.le_of_ble_eq_true rfl) (Nat.le_of_ble_eq_true rfl) hlocks dX4_loadTo_101 (shC c, ad, I, JX, PC c ad) hW rfl
    exact lp5 4294967296 (0) a1 x4 _ _ _ (z_m0u _) (by rw [z_l0]; omega) hW hS (lv_sub hl [0, 1, 2, 3, 4] rfl)
  · refine lv_if_ne (tgt := 9) hx hb dX4_loadTo_4 (by decide) (fun c33 => absurd (by decide) c33) (fun c33 => ?_)
    refine lv_iconst (v := 0) hx hb dX4_loadTo_7 (by decide) ?_
    exact z_iret hx hb hr hK hS (Nat.le_of_ble_eq_true rfl) (Nat.le_of_ble_eq_true rfl) hlocks dX4_loadTo_8 (shC c, ad, I, JX, PC c ad) hW rfl
noncomputable def L_X4_sendTo : z_L := [(55, 999), (50, 999), (51, 999), (52, 999), (53, 999), (54, 999), (41, 12), (41, 11)]
theorem zj_X4_sendTo_X4 : ∀ w ∈ wsX40, w ∈ wsX4_sendTo := fun w h => (List.mem_cons_of_mem _ (List.mem_append_right _ h))
set_option maxHeartbeats 8000000 in
set_option maxRecDepth 100000 in
theorem sx_X4_sendTo (l : Launch) (G : z_G) (ad : Nat → Nat) (c : z_C) (I : z_I) (a1 : Int32) : z_Mv l yX4_sendTo wsX4_sendTo { frames := 3, cells := 0, slots := 0, locals := 65 } [.ref (ad 41), .int a1] G (shC c, ad, I, JX, PC c ad) (fun u1 => ∃ I1 : z_I, u1 = (shC c, ad, I1, JX, PC c ad) ∧ z_fr L_X4_sendTo I1 I) 0 0 := by
  intro sz
  refine z_headQ (cc := cX4_sendTo) (maxL := 6) (ret := none) (by decide) rfl (Nat.le_of_ble_eq_true rfl) ?_
  intro p e s m below meth c0 ls hIn hK hsz hW hl
  obtain ⟨hx, hb, hr, hml, hown, hts, hlocks, hname⟩ := hIn
  subst hsz
  have hown : s.vm.findClass RX4 = some m.cls := hown
  have hA : ∀ q : Nat, s.heap.size ≤ q → z_A (shC c, ad, I, JX, PC c ad) s.heap.size q := fun q h => Or.inr h
  generalize hAe : z_A (shC c, ad, I, JX, PC c ad) s.heap.size = A at *
  have hS : va_S A s.heap s.heap [] := va_S.rf
  have hl : lv_has ls 6 [(0, .ref (ad 41)), (1, .int a1)] := hl
  refine lv_iload_n hx hb dX4_sendTo_0 rfl (lv_at hl 1 rfl) ?_
  refine lv_if_lt (tgt := 10) hx hb dX4_sendTo_1 (by decide) (fun c1 => ?_) (fun c1 => ?_)
  · have g2 := z_f_lt rfl z_l0 c1
    exact z_vret hx hb hr hK hS (Nat.le_of_ble_eq_true rfl) (Nat.le_of_ble_eq_true rfl) hlocks dX4_sendTo_10 (shC c, ad, I, JX, PC c ad) hW ⟨I, rfl, z_fr_0⟩
  · have g3 := z_f_nlt rfl z_l0 c1
    refine lv_iload_n hx hb dX4_sendTo_4 rfl (lv_at hl 1 rfl) ?_
    refine lv_bipush (v := 10) hx hb dX4_sendTo_5 (by decide) ?_
    refine lv_icmp_lt (tgt := 11) hx hb dX4_sendTo_7 (by decide) (fun c4 => ?_) (fun c4 => ?_)
    · have g5 := z_f_lt rfl z_l10 c4
      refine lv_aload_n hx hb dX4_sendTo_11 rfl (lv_at hl 0 rfl) ?_
      refine lv_iload_n hx hb dX4_sendTo_12 rfl (lv_at hl 1 rfl) ?_
      refine z_ci hW hS hA (va_runV (As := [.int a1]) (rest := []) ⟨hx, hb, hml, hown, hts⟩ (sx_X4_loadTo l G ad c I  a1 _) (cwV 1 hts gX4_sendTo_X4_loadTo rfl rfl rfl hy_X4_loadTo ⟨Nat.le_of_ble_eq_true rfl, Nat.le_of_ble_eq_true rfl⟩) (z_preV (i := 41) hK hW rfl rfl) rfl rfl hl.1 rfl (lv_room (Nat.le_of_ble_eq_true rfl)) dX4_sendTo_13 ⟨Nat.le_of_ble_eq_true rfl, Nat.le_of_ble_eq_true rfl⟩) (fun r u1 H locs hp hW hS => ?_)
      rw [hp] at hW
      refine lv_topi (fun x6 ex6 => ?_)
      refine lv_istore_n (lv' := [(2, .int x6), (0, .ref (ad 41)), (1, .int a1)]) hx hb dX4_sendTo_16 rfl hl (by decide) rfl (fun ls hl => ?_)
      refine lv_aload_n hx hb dX4_sendTo_17 rfl (lv_at hl 1 rfl) ?_
      refine z_get (T := TX4) (N := 13) (ci := 4) (i := 41) (v := .ref (ad 55)) hx hb hts zj_X4_sendTo_X4 hown hK hW rfl rfl 5 (by decide) (hts (.fieldLink RX4 29 "PetrolBoard$Loads" "lacking" "[I") (me_s (me_l (List.mem_of_getElem? (i := 0) rfl)))) (fun _ h => h) rfl dX4_sendTo_18 ?_
      refine lv_iload_n hx hb dX4_sendTo_21 rfl (lv_at hl 2 rfl) ?_
      refine lv_dup2_11 hx hb dX4_sendTo_22 rfl rfl ?_
      refine z_iald (i := 55) hx hb hK hW rfl (z_ix rfl (by omega) (by omega)) dX4_sendTo_23 ?_
      refine lv_topi (fun x7 ex7 => ?_)
      refine lv_iload_n hx hb dX4_sendTo_24 rfl (lv_at hl 0 rfl) ?_
      refine lv_isub hx hb dX4_sendTo_25 ?_
      refine lv_topi (fun x8 ex8 => ?_)
      refine z_iast (i := 55) hx hb hK hW hS rfl (z_ix rfl (by omega) (by omega)) dX4_sendTo_26 (fun H locs hz1 hW hS => ?_)
      obtain ⟨I9, eI9⟩ : ∃ K : z_I, K = z_up I 55 a1.toNatClampNeg x8 := ⟨_, rfl⟩
      rw [← eI9] at hW
      have f10 := z_fr_a z_fr_0 (show z_wa L_X4_sendTo 55 = true by decide) eI9
      refine lv_iload_n hx hb dX4_sendTo_27 rfl (lv_at hl 2 rfl) ?_
      refine lv_istore_n (lv' := [(3, .int a1), (2, .int x6), (0, .ref (ad 41)), (1, .int a1)]) hx hb dX4_sendTo_28 rfl hl (by decide) rfl (fun ls hl => ?_)
      refine lv_iconst (v := 0) hx hb dX4_sendTo_29 (by decide) ?_
      refine lv_istore (lv' := [(4, .int 0), (3, .int a1), (2, .int x6), (0, .ref (ad 41)), (1, .int a1)]) hx hb dX4_sendTo_30 hl (by decide) rfl (fun ls hl => ?_)
      have lp11 : ∀ (f : Nat) (y12 : Int32) (y13 : Int32) (I14 : z_I) (H : Heap) (locs : List Loc) (ls : Array Slot), (2147483647 < y12.toInt + (f : Int)) → (0 ≤ y12.toInt) → (z_fr L_X4_sendTo I14 I) → z_W G A (shC c, ad, I14, JX, PC c ad) H → va_S A s.heap H locs → lv_has ls 6 [(4, .int y12), (3, .int y13), (2, .int x6), (0, .ref (ad 41)), (1, .int a1)] → W p l e (headSpec wsX4_sendTo { frames := 3, cells := 0, slots := 0, locals := 65 }).room s m ([.ref (ad 41), .int a1] : List Value).toArray below meth c0 H locs 0 0 (MQ below (va_Qv (fun (u1 : z_U) => ∃ I1 : z_I, u1 = (shC c, ad, I1, JX, PC c ad) ∧ z_fr L_X4_sendTo I1 I) (z_B G A) A) ([.ref (ad 41), .int a1] : List Value).toArray s 0 0 A) (F0 m 32 ls []) := by
        intro f
        induction f with
        | zero => intro y12 y13 I14  H locs ls lp11m lp11l4 lp11fr hW hS hl; exact absurd lp11m (by have := Int32.toInt_lt y12; have := Int32.le_toInt y12; omega)
        | succ f lp11ih =>
          intro y12 y13 I14  H locs ls lp11m lp11l4 lp11fr hW hS hl
          refine lv_iload hx hb dX4_sendTo_32 (lv_at hl 0 rfl) ?_
          refine lv_bipush (v := 14) hx hb dX4_sendTo_34 (by decide) ?_
          refine lv_icmp_ge (tgt := 167) hx hb dX4_sendTo_36 (by decide) (fun c15 => ?_) (fun c15 => ?_)
          · have g16 := z_f_ge rfl z_l14 c15
            refine lv_aload_n hx hb dX4_sendTo_167 rfl (lv_at hl 3 rfl) ?_
            refine lv_dup hx hb dX4_sendTo_168 rfl ?_
            refine z_get (T := TX4) (N := 13) (ci := 4) (i := 41) (v := .int (I14 41 11)) hx hb hts zj_X4_sendTo_X4 hown hK hW rfl rfl 11 (by decide) (hts (.fieldLink RX4 52 "PetrolBoard$Loads" "sentLoads" "I") (me_s (me_l (List.mem_of_getElem? (i := 7) rfl)))) (fun _ h => h) rfl dX4_sendTo_169 ?_
            refine lv_iload_n hx hb dX4_sendTo_172 rfl (lv_at hl 2 rfl) ?_
            refine lv_iadd hx hb dX4_sendTo_173 ?_
            refine lv_topi (fun x17 ex17 => ?_)
            refine z_put (T := TX4) (N := 13) (ci := 4) (i := 41) (v := .int x17) (I1 := z_up I14 41 11 x17) (J1 := JX) (P1 := PC c ad) hx hb hts zj_X4_sendTo_X4 tyX4 tyX4_ok nmX4 hown hK hW hS rfl rfl 11 (by decide) (hts (.fieldLink RX4 52 "PetrolBoard$Loads" "sentLoads" "I") (me_s (me_l (List.mem_of_getElem? (i := 7) rfl)))) (fun _ h => h) rfl rfl rfl (by first | rfl | exact congrArg _ z_up_s) (fun a b h ty => z_vI h ty) dX4_sendTo_174 (fun H locs hz1 hW hS => ?_)
            obtain ⟨I18, eI18⟩ : ∃ K : z_I, K = z_up I14 41 11 x17 := ⟨_, rfl⟩
            rw [← eI18] at hW
            have f19 := z_fr_k lp11fr (show z_wr L_X4_sendTo 41 11 = true by decide) eI18
            exact z_vret hx hb hr hK hS (Nat.le_of_ble_eq_true rfl) (Nat.le_of_ble_eq_true rfl) hlocks dX4_sendTo_177 (shC c, ad, I18, JX, PC c ad) hW ⟨I18, rfl, f19⟩
          · have g20 := z_f_nge rfl z_l14 c15
            refine lv_iload_n hx hb dX4_sendTo_39 rfl (lv_at hl 1 rfl) ?_
            refine z_ci hW hS hA (va_runS (As := [.int y13]) (rest := []) ⟨hx, hb, hml, hown, hts⟩ (sx_X4_isStation l G ad c I14  y13 _) (va_cwS 1 hts gX4_sendTo_X4_isStation rfl rfl rfl hy_X4_isStation.2 ⟨Nat.le_of_ble_eq_true rfl, Nat.le_of_ble_eq_true rfl⟩) (z_preS hK hW) rfl rfl hl.1 rfl (lv_room (Nat.le_of_ble_eq_true rfl)) dX4_sendTo_40 ⟨Nat.le_of_ble_eq_true rfl, Nat.le_of_ble_eq_true rfl⟩) (fun r u1 H locs hp hW hS => ?_)
            obtain ⟨e9, hp⟩ := hp
            rw [e9] at hW
            rcases hp with ⟨rfl, h21, h22⟩ | rfl
            · refine lv_if_eq (tgt := 167) hx hb dX4_sendTo_43 (by decide) (fun c23 => absurd c23 (by decide)) (fun c23 => ?_)
              refine lv_aload_n hx hb dX4_sendTo_46 rfl (lv_at hl 3 rfl) ?_
              refine z_get (T := TX4) (N := 13) (ci := 4) (i := 41) (v := .ref (ad 58)) hx hb hts zj_X4_sendTo_X4 hown hK hW rfl rfl 8 (by decide) (hts (.fieldLink RX4 38 "PetrolBoard$Loads" "byPort" "[I") (me_s (me_l (List.mem_of_getElem? (i := 1) rfl)))) (fun _ h => h) rfl dX4_sendTo_47 ?_
              refine lv_iload_n hx hb dX4_sendTo_50 rfl (lv_at hl 1 rfl) ?_
              refine z_iald (i := 58) hx hb hK hW rfl (z_ix rfl (by omega) (by omega)) dX4_sendTo_51 ?_
              refine lv_topi (fun x24 ex24 => ?_)
              refine z_ci hW hS hA (va_runS (As := [.int x24]) (rest := []) ⟨hx, hb, hml, hown, hts⟩ (sx_X4_isPort l G ad c I14  x24 _) (va_cwS 1 hts gX4_sendTo_X4_isPort rfl rfl rfl hy_X4_isPort.2 ⟨Nat.le_of_ble_eq_true rfl, Nat.le_of_ble_eq_true rfl⟩) (z_preS hK hW) rfl rfl hl.1 rfl (lv_room (Nat.le_of_ble_eq_true rfl)) dX4_sendTo_52 ⟨Nat.le_of_ble_eq_true rfl, Nat.le_of_ble_eq_true rfl⟩) (fun r u1 H locs hp hW hS => ?_)
              obtain ⟨e9, hp⟩ := hp
              rw [e9] at hW
              rcases hp with ⟨rfl, h25, h26⟩ | rfl
              · refine lv_if_eq (tgt := 167) hx hb dX4_sendTo_55 (by decide) (fun c27 => absurd c27 (by decide)) (fun c27 => ?_)
                refine lv_aload_n hx hb dX4_sendTo_58 rfl (lv_at hl 3 rfl) ?_
                refine z_get (T := TX4) (N := 13) (ci := 4) (i := 41) (v := .ref (ad 58)) hx hb hts zj_X4_sendTo_X4 hown hK hW rfl rfl 8 (by decide) (hts (.fieldLink RX4 38 "PetrolBoard$Loads" "byPort" "[I") (me_s (me_l (List.mem_of_getElem? (i := 1) rfl)))) (fun _ h => h) rfl dX4_sendTo_59 ?_
                refine lv_iload_n hx hb dX4_sendTo_62 rfl (lv_at hl 1 rfl) ?_
                refine z_iald (i := 58) hx hb hK hW rfl (z_ix rfl (by omega) (by omega)) dX4_sendTo_63 ?_
                refine z_topi (v := x24) ex24.symm ?_
                refine lv_istore (lv' := [(5, .int x24), (4, .int y12), (3, .int y13), (2, .int x6), (0, .ref (ad 41)), (1, .int a1)]) hx hb dX4_sendTo_64 hl (by decide) rfl (fun ls hl => ?_)
                refine lv_aload_n hx hb dX4_sendTo_66 rfl (lv_at hl 4 rfl) ?_
                refine z_get (T := TX4) (N := 13) (ci := 4) (i := 41) (v := .ref (ad 49)) hx hb hts zj_X4_sendTo_X4 hown hK hW rfl rfl 3 (by decide) (hts (.fieldLink RX4 23 "PetrolBoard$Loads" "sent" "[[I") (me_s (me_l (List.mem_of_getElem? (i := 2) rfl)))) (fun _ h => h) rfl dX4_sendTo_67 ?_
                refine lv_iload hx hb dX4_sendTo_70 (lv_at hl 0 rfl) ?_
                obtain ⟨k28, ek28, hk28⟩ : ∃ k : Nat, x24.toNatClampNeg = k ∧ k < 4 := ⟨_, rfl, z_clN rfl (by omega) (by omega)⟩
                refine z_aald (i := 49) (v := .ref (ad (50 + k28))) hx hb hK hW rfl (by simp [z_tys]) rfl (z_ix rfl (by omega) (by omega)) (z_p49 ek28 hk28) dX4_sendTo_72 ?_
                refine lv_iload_n hx hb dX4_sendTo_73 rfl (lv_at hl 2 rfl) ?_
                refine lv_dup2_11 hx hb dX4_sendTo_74 rfl rfl ?_
                refine z_iald (i := (50 + k28)) hx hb hK hW (z_s50 hk28) (z_ix rfl (by omega) (by omega)) dX4_sendTo_75 ?_
                refine lv_topi (fun x29 ex29 => ?_)
                refine lv_iload_n hx hb dX4_sendTo_76 rfl (lv_at hl 3 rfl) ?_
                refine lv_iadd hx hb dX4_sendTo_77 ?_
                refine lv_topi (fun x30 ex30 => ?_)
                refine z_iast (i := (50 + k28)) hx hb hK hW hS (z_s50 hk28) (z_ix rfl (by omega) (by omega)) dX4_sendTo_78 (fun H locs hz1 hW hS => ?_)
                obtain ⟨I31, eI31⟩ : ∃ K : z_I, K = z_up I14 (50 + k28) y13.toNatClampNeg x30 := ⟨_, rfl⟩
                rw [← eI31] at hW
                have f32 := z_fr_a lp11fr (z_wa50 (L := L_X4_sendTo) (by decide) hk28) eI31
                refine lv_aload_n hx hb dX4_sendTo_79 rfl (lv_at hl 4 rfl) ?_
                refine lv_dup hx hb dX4_sendTo_80 rfl ?_
                refine z_get (T := TX4) (N := 13) (ci := 4) (i := 41) (v := .int (I14 41 12)) hx hb hts zj_X4_sendTo_X4 hown hK hW rfl rfl 12 (by decide) (hts (.fieldLink RX4 55 "PetrolBoard$Loads" "sentMiles" "I") (me_s (me_l (List.mem_of_getElem? (i := 3) rfl)))) (fun _ h => h) (congrArg Value.int (by rw [eI31, z_up_n (by omega)])) dX4_sendTo_81 ?_
                refine lv_iload_n hx hb dX4_sendTo_84 rfl (lv_at hl 3 rfl) ?_
                refine lv_aload_n hx hb dX4_sendTo_85 rfl (lv_at hl 4 rfl) ?_
                refine z_get (T := TX4) (N := 13) (ci := 4) (i := 41) (v := .ref (ad 44)) hx hb hts zj_X4_sendTo_X4 hown hK hW rfl rfl 2 (by decide) (hts (.fieldLink RX4 20 "PetrolBoard$Loads" "miles" "[[I") (me_s (me_l (List.mem_of_getElem? (i := 4) rfl)))) (fun _ h => h) rfl dX4_sendTo_86 ?_
                refine lv_iload hx hb dX4_sendTo_89 (lv_at hl 0 rfl) ?_
                obtain ⟨k33, ek33, hk33⟩ : ∃ k : Nat, x24.toNatClampNeg = k ∧ k < 4 := ⟨_, rfl, z_clN rfl (by omega) (by omega)⟩
                refine z_aald (i := 44) (v := .ref (ad (45 + k33))) hx hb hK hW rfl (by simp [z_tys]) rfl (z_ix rfl (by omega) (by omega)) (z_p44 ek33 hk33) dX4_sendTo_91 ?_
                refine lv_iload_n hx hb dX4_sendTo_92 rfl (lv_at hl 2 rfl) ?_
                refine z_iald (i := (45 + k33)) hx hb hK hW (z_s45 hk33) (z_ix rfl (by omega) (by omega)) dX4_sendTo_93 ?_
                refine lv_topi (fun x34 ex34 => ?_)
                refine lv_imul hx hb dX4_sendTo_94 ?_
                refine lv_topi (fun x35 ex35 => ?_)
                refine lv_iadd hx hb dX4_sendTo_95 ?_
                refine lv_topi (fun x36 ex36 => ?_)
                refine z_put (T := TX4) (N := 13) (ci := 4) (i := 41) (v := .int x36) (I1 := z_up I31 41 12 x36) (J1 := JX) (P1 := PC c ad) hx hb hts zj_X4_sendTo_X4 tyX4 tyX4_ok nmX4 hown hK hW hS rfl rfl 12 (by decide) (hts (.fieldLink RX4 55 "PetrolBoard$Loads" "sentMiles" "I") (me_s (me_l (List.mem_of_getElem? (i := 3) rfl)))) (fun _ h => h) rfl rfl rfl (by first | rfl | exact congrArg _ z_up_s) (fun a b h ty => z_vI h ty) dX4_sendTo_96 (fun H locs hz1 hW hS => ?_)
                obtain ⟨I37, eI37⟩ : ∃ K : z_I, K = z_up I31 41 12 x36 := ⟨_, rfl⟩
                rw [← eI37] at hW
                have f38 := z_fr_k f32 (show z_wr L_X4_sendTo 41 12 = true by decide) eI37
                refine lv_aload_n hx hb dX4_sendTo_99 rfl (lv_at hl 4 rfl) ?_
                refine z_get (T := TX4) (N := 13) (ci := 4) (i := 41) (v := .ref (ad 59)) hx hb hts zj_X4_sendTo_X4 hown hK hW rfl rfl 9 (by decide) (hts (.fieldLink RX4 41 "PetrolBoard$Loads" "byStation" "[I") (me_s (me_l (List.mem_of_getElem? (i := 5) rfl)))) (fun _ h => h) rfl dX4_sendTo_100 ?_
                refine lv_iload hx hb dX4_sendTo_103 (lv_at hl 0 rfl) ?_
                refine z_iald (i := 59) hx hb hK hW rfl (z_ix rfl (by omega) (by omega)) dX4_sendTo_105 ?_
                refine lv_topi (fun x39 ex39 => ?_)
                refine lv_istore_n (lv' := [(3, .int x39), (5, .int x24), (4, .int y12), (2, .int x6), (0, .ref (ad 41)), (1, .int a1)]) hx hb dX4_sendTo_106 rfl hl (by decide) rfl (fun ls hl => ?_)
                refine lv_iload_n hx hb dX4_sendTo_107 rfl (lv_at hl 0 rfl) ?_
                refine z_ci hW hS hA (va_runS (As := [.int x39]) (rest := []) ⟨hx, hb, hml, hown, hts⟩ (sx_X4_isStation l G ad c I37  x39 _) (va_cwS 1 hts gX4_sendTo_X4_isStation rfl rfl rfl hy_X4_isStation.2 ⟨Nat.le_of_ble_eq_true rfl, Nat.le_of_ble_eq_true rfl⟩) (z_preS hK hW) rfl rfl hl.1 rfl (lv_room (Nat.le_of_ble_eq_true rfl)) dX4_sendTo_108 ⟨Nat.le_of_ble_eq_true rfl, Nat.le_of_ble_eq_true rfl⟩) (fun r u1 H locs hp hW hS => ?_)
                obtain ⟨e9, hp⟩ := hp
                rw [e9] at hW
                rcases hp with ⟨rfl, h40, h41⟩ | rfl
                · refine lv_if_eq (tgt := 150) hx hb dX4_sendTo_111 (by decide) (fun c42 => absurd c42 (by decide)) (fun c42 => ?_)
                  refine lv_aload_n hx hb dX4_sendTo_114 rfl (lv_at hl 4 rfl) ?_
                  refine z_get (T := TX4) (N := 13) (ci := 4) (i := 41) (v := .ref (ad 49)) hx hb hts zj_X4_sendTo_X4 hown hK hW rfl rfl 3 (by decide) (hts (.fieldLink RX4 23 "PetrolBoard$Loads" "sent" "[[I") (me_s (me_l (List.mem_of_getElem? (i := 2) rfl)))) (fun _ h => h) rfl dX4_sendTo_115 ?_
                  refine lv_iload hx hb dX4_sendTo_118 (lv_at hl 1 rfl) ?_
                  obtain ⟨k43, ek43, hk43⟩ : ∃ k : Nat, x24.toNatClampNeg = k ∧ k < 4 := ⟨_, rfl, z_clN rfl (by omega) (by omega)⟩
                  refine z_aald (i := 49) (v := .ref (ad (50 + k43))) hx hb hK hW rfl (by simp [z_tys]) rfl (z_ix rfl (by omega) (by omega)) (z_p49 ek43 hk43) dX4_sendTo_120 ?_
                  refine lv_iload_n hx hb dX4_sendTo_121 rfl (lv_at hl 0 rfl) ?_
                  refine lv_dup2_11 hx hb dX4_sendTo_122 rfl rfl ?_
                  refine z_iald (i := (50 + k43)) hx hb hK hW (z_s50 hk43) (z_ix rfl (by omega) (by omega)) dX4_sendTo_123 ?_
                  refine lv_topi (fun x44 ex44 => ?_)
                  refine lv_iload_n hx hb dX4_sendTo_124 rfl (lv_at hl 3 rfl) ?_
                  refine lv_isub hx hb dX4_sendTo_125 ?_
                  refine lv_topi (fun x45 ex45 => ?_)
                  refine z_iast (i := (50 + k43)) hx hb hK hW hS (z_s50 hk43) (z_ix rfl (by omega) (by omega)) dX4_sendTo_126 (fun H locs hz1 hW hS => ?_)
                  obtain ⟨I46, eI46⟩ : ∃ K : z_I, K = z_up I37 (50 + k43) x39.toNatClampNeg x45 := ⟨_, rfl⟩
                  rw [← eI46] at hW
                  have f47 := z_fr_a f38 (z_wa50 (L := L_X4_sendTo) (by decide) hk43) eI46
                  refine lv_aload_n hx hb dX4_sendTo_127 rfl (lv_at hl 4 rfl) ?_
                  refine lv_dup hx hb dX4_sendTo_128 rfl ?_
                  refine z_get (T := TX4) (N := 13) (ci := 4) (i := 41) (v := .int x36) hx hb hts zj_X4_sendTo_X4 hown hK hW rfl rfl 12 (by decide) (hts (.fieldLink RX4 55 "PetrolBoard$Loads" "sentMiles" "I") (me_s (me_l (List.mem_of_getElem? (i := 3) rfl)))) (fun _ h => h) (congrArg Value.int (by rw [eI46, z_up_n (by omega), eI37, z_up_s])) dX4_sendTo_129 ?_
                  refine lv_iload_n hx hb dX4_sendTo_132 rfl (lv_at hl 3 rfl) ?_
                  refine lv_aload_n hx hb dX4_sendTo_133 rfl (lv_at hl 4 rfl) ?_
                  refine z_get (T := TX4) (N := 13) (ci := 4) (i := 41) (v := .ref (ad 44)) hx hb hts zj_X4_sendTo_X4 hown hK hW rfl rfl 2 (by decide) (hts (.fieldLink RX4 20 "PetrolBoard$Loads" "miles" "[[I") (me_s (me_l (List.mem_of_getElem? (i := 4) rfl)))) (fun _ h => h) rfl dX4_sendTo_134 ?_
                  refine lv_iload hx hb dX4_sendTo_137 (lv_at hl 1 rfl) ?_
                  obtain ⟨k48, ek48, hk48⟩ : ∃ k : Nat, x24.toNatClampNeg = k ∧ k < 4 := ⟨_, rfl, z_clN rfl (by omega) (by omega)⟩
                  refine z_aald (i := 44) (v := .ref (ad (45 + k48))) hx hb hK hW rfl (by simp [z_tys]) rfl (z_ix rfl (by omega) (by omega)) (z_p44 ek48 hk48) dX4_sendTo_139 ?_
                  refine lv_iload_n hx hb dX4_sendTo_140 rfl (lv_at hl 0 rfl) ?_
                  refine z_iald (i := (45 + k48)) hx hb hK hW (z_s45 hk48) (z_ix rfl (by omega) (by omega)) dX4_sendTo_141 ?_
                  refine lv_topi (fun x49 ex49 => ?_)
                  refine lv_imul hx hb dX4_sendTo_142 ?_
                  refine lv_topi (fun x50 ex50 => ?_)
                  refine lv_isub hx hb dX4_sendTo_143 ?_
                  refine lv_topi (fun x51 ex51 => ?_)
                  refine z_put (T := TX4) (N := 13) (ci := 4) (i := 41) (v := .int x51) (I1 := z_up I46 41 12 x51) (J1 := JX) (P1 := PC c ad) hx hb hts zj_X4_sendTo_X4 tyX4 tyX4_ok nmX4 hown hK hW hS rfl rfl 12 (by decide) (hts (.fieldLink RX4 55 "PetrolBoard$Loads" "sentMiles" "I") (me_s (me_l (List.mem_of_getElem? (i := 3) rfl)))) (fun _ h => h) rfl rfl rfl (by first | rfl | exact congrArg _ z_up_s) (fun a b h ty => z_vI h ty) dX4_sendTo_144 (fun H locs hz1 hW hS => ?_)
                  obtain ⟨I52, eI52⟩ : ∃ K : z_I, K = z_up I46 41 12 x51 := ⟨_, rfl⟩
                  rw [← eI52] at hW
                  have f53 := z_fr_k f47 (show z_wr L_X4_sendTo 41 12 = true by decide) eI52
                  refine lv_goto (tgt := 161) hx hb dX4_sendTo_147 (by decide) ?_
                  obtain ⟨x54, ex54⟩ : ∃ y : Int32, y = y12 + 1 := ⟨_, rfl⟩
                  have tx54 : x54.toInt = y12.toInt + 1 := z_tadd ex54 rfl z_l1 (by omega) (by omega)
                  refine lv_iinc (v := x54) (lv' := [(4, .int x54), (3, .int x39), (5, .int x24), (2, .int x6), (0, .ref (ad 41)), (1, .int a1)]) hx hb dX4_sendTo_161 hl (k := 2) rfl (by rw [ex54]; rfl) (by decide) rfl (fun ls hl => ?_)
                  refine lv_goto (tgt := 32) hx hb dX4_sendTo_164 (by decide) ?_
                  exact lp11ih x54 x39 I52  _ _ _ (by omega) (by omega) f53 hW hS (lv_sub hl [0, 1, 3, 4, 5] rfl)
                · refine lv_if_eq (tgt := 150) hx hb dX4_sendTo_111 (by decide) (fun c55 => ?_) (fun c55 => absurd (by decide) c55)
                  refine lv_aload_n hx hb dX4_sendTo_150 rfl (lv_at hl 4 rfl) ?_
                  refine z_get (T := TX4) (N := 13) (ci := 4) (i := 41) (v := .ref (ad 54)) hx hb hts zj_X4_sendTo_X4 hown hK hW rfl rfl 4 (by decide) (hts (.fieldLink RX4 26 "PetrolBoard$Loads" "left" "[I") (me_s (me_l (List.mem_of_getElem? (i := 6) rfl)))) (fun _ h => h) rfl dX4_sendTo_151 ?_
                  refine lv_iload hx hb dX4_sendTo_154 (lv_at hl 1 rfl) ?_
                  refine lv_dup2_11 hx hb dX4_sendTo_156 rfl rfl ?_
                  refine z_iald (i := 54) hx hb hK hW rfl (z_ix rfl (by omega) (by omega)) dX4_sendTo_157 ?_
                  refine lv_topi (fun x56 ex56 => ?_)
                  refine lv_iload_n hx hb dX4_sendTo_158 rfl (lv_at hl 3 rfl) ?_
                  refine lv_isub hx hb dX4_sendTo_159 ?_
                  refine lv_topi (fun x57 ex57 => ?_)
                  refine z_iast (i := 54) hx hb hK hW hS rfl (z_ix rfl (by omega) (by omega)) dX4_sendTo_160 (fun H locs hz1 hW hS => ?_)
                  obtain ⟨I58, eI58⟩ : ∃ K : z_I, K = z_up I37 54 x24.toNatClampNeg x57 := ⟨_, rfl⟩
                  rw [← eI58] at hW
                  have f59 := z_fr_a f38 (show z_wa L_X4_sendTo 54 = true by decide) eI58
                  obtain ⟨x60, ex60⟩ : ∃ y : Int32, y = y12 + 1 := ⟨_, rfl⟩
                  have tx60 : x60.toInt = y12.toInt + 1 := z_tadd ex60 rfl z_l1 (by omega) (by omega)
                  refine lv_iinc (v := x60) (lv' := [(4, .int x60), (3, .int x39), (5, .int x24), (2, .int x6), (0, .ref (ad 41)), (1, .int a1)]) hx hb dX4_sendTo_161 hl (k := 2) rfl (by rw [ex60]; rfl) (by decide) rfl (fun ls hl => ?_)
                  refine lv_goto (tgt := 32) hx hb dX4_sendTo_164 (by decide) ?_
                  exact lp11ih x60 x39 I58  _ _ _ (by omega) (by omega) f59 hW hS (lv_sub hl [0, 1, 3, 4, 5] rfl)
              · refine lv_if_eq (tgt := 167) hx hb dX4_sendTo_55 (by decide) (fun c61 => ?_) (fun c61 => absurd (by decide) c61)
                refine lv_aload_n hx hb dX4_sendTo_167 rfl (lv_at hl 3 rfl) ?_
                refine lv_dup hx hb dX4_sendTo_168 rfl ?_
                refine z_get (T := TX4) (N := 13) (ci := 4) (i := 41) (v := .int (I14 41 11)) hx hb hts zj_X4_sendTo_X4 hown hK hW rfl rfl 11 (by decide) (hts (.fieldLink RX4 52 "PetrolBoard$Loads" "sentLoads" "I") (me_s (me_l (List.mem_of_getElem? (i := 7) rfl)))) (fun _ h => h) rfl dX4_sendTo_169 ?_
                refine lv_iload_n hx hb dX4_sendTo_172 rfl (lv_at hl 2 rfl) ?_
                refine lv_iadd hx hb dX4_sendTo_173 ?_
                refine lv_topi (fun x62 ex62 => ?_)
                refine z_put (T := TX4) (N := 13) (ci := 4) (i := 41) (v := .int x62) (I1 := z_up I14 41 11 x62) (J1 := JX) (P1 := PC c ad) hx hb hts zj_X4_sendTo_X4 tyX4 tyX4_ok nmX4 hown hK hW hS rfl rfl 11 (by decide) (hts (.fieldLink RX4 52 "PetrolBoard$Loads" "sentLoads" "I") (me_s (me_l (List.mem_of_getElem? (i := 7) rfl)))) (fun _ h => h) rfl rfl rfl (by first | rfl | exact congrArg _ z_up_s) (fun a b h ty => z_vI h ty) dX4_sendTo_174 (fun H locs hz1 hW hS => ?_)
                obtain ⟨I63, eI63⟩ : ∃ K : z_I, K = z_up I14 41 11 x62 := ⟨_, rfl⟩
                rw [← eI63] at hW
                have f64 := z_fr_k lp11fr (show z_wr L_X4_sendTo 41 11 = true by decide) eI63
                exact z_vret hx hb hr hK hS (Nat.le_of_ble_eq_true rfl) (Nat.le_of_ble_eq_true rfl) hlocks dX4_sendTo_177 (shC c, ad, I63, JX, PC c ad) hW ⟨I63, rfl, f64⟩
            · refine lv_if_eq (tgt := 167) hx hb dX4_sendTo_43 (by decide) (fun c65 => ?_) (fun c65 => absurd (by decide) c65)
              refine lv_aload_n hx hb dX4_sendTo_167 rfl (lv_at hl 3 rfl) ?_
              refine lv_dup hx hb dX4_sendTo_168 rfl ?_
              refine z_get (T := TX4) (N := 13) (ci := 4) (i := 41) (v := .int (I14 41 11)) hx hb hts zj_X4_sendTo_X4 hown hK hW rfl rfl 11 (by decide) (hts (.fieldLink RX4 52 "PetrolBoard$Loads" "sentLoads" "I") (me_s (me_l (List.mem_of_getElem? (i := 7) rfl)))) (fun _ h => h) rfl dX4_sendTo_169 ?_
              refine lv_iload_n hx hb dX4_sendTo_172 rfl (lv_at hl 2 rfl) ?_
              refine lv_iadd hx hb dX4_sendTo_173 ?_
              refine lv_topi (fun x66 ex66 => ?_)
              refine z_put (T := TX4) (N := 13) (ci := 4) (i := 41) (v := .int x66) (I1 := z_up I14 41 11 x66) (J1 := JX) (P1 := PC c ad) hx hb hts zj_X4_sendTo_X4 tyX4 tyX4_ok nmX4 hown hK hW hS rfl rfl 11 (by decide) (hts (.fieldLink RX4 52 "PetrolBoard$Loads" "sentLoads" "I") (me_s (me_l (List.mem_of_getElem? (i := 7) rfl)))) (fun _ h => h) rfl rfl rfl (by first | rfl | exact congrArg _ z_up_s) (fun a b h ty => z_vI h ty) dX4_sendTo_174 (fun H locs hz1 hW hS => ?_)
              obtain ⟨I67, eI67⟩ : ∃ K : z_I, K = z_up I14 41 11 x66 := ⟨_, rfl⟩
              rw [← eI67] at hW
              have f68 := z_fr_k lp11fr (show z_wr L_X4_sendTo 41 11 = true by decide) eI67
              exact z_vret hx hb hr hK hS (Nat.le_of_ble_eq_true rfl) (Nat.le_of_ble_eq_true rfl) hlocks dX4_sendTo_177 (shC c, ad, I67, JX, PC c ad) hW ⟨I67, rfl, f68⟩
      exact lp11 4294967296 (0) a1 I9  _ _ _ (z_m0u _) (by rw [z_l0]; omega) f10 hW hS (lv_sub hl [0, 1, 2, 3, 4] rfl)
    · have g69 := z_f_nlt rfl z_l10 c4
      exact z_vret hx hb hr hK hS (Nat.le_of_ble_eq_true rfl) (Nat.le_of_ble_eq_true rfl) hlocks dX4_sendTo_10 (shC c, ad, I, JX, PC c ad) hW ⟨I, rfl, z_fr_0⟩
noncomputable def L_X4_send : z_L := [(55, 999), (50, 999), (51, 999), (52, 999), (53, 999), (54, 999), (41, 12), (41, 11), (56, 999), (57, 999), (58, 999), (59, 999)]
theorem zj_X4_send_X4 : ∀ w ∈ wsX40, w ∈ wsX4_send := fun w h => (List.mem_cons_of_mem _ (List.mem_append_right _ h))
set_option maxHeartbeats 8000000 in
set_option maxRecDepth 100000 in
theorem sx_X4_send (l : Launch) (G : z_G) (ad : Nat → Nat) (c : z_C) (I : z_I) (a1 : Int32) : z_Mv l yX4_send wsX4_send { frames := 4, cells := 0, slots := 0, locals := 90 } [.ref (ad 41), .int a1] G (shC c, ad, I, JX, PC c ad) (fun u1 => ∃ I1 : z_I, u1 = (shC c, ad, I1, JX, PC c ad) ∧ z_fr L_X4_send I1 I) 0 0 := by
  intro sz
  refine z_headQ (cc := cX4_send) (maxL := 4) (ret := none) (by decide) rfl (Nat.le_of_ble_eq_true rfl) ?_
  intro p e s m below meth c0 ls hIn hK hsz hW hl
  obtain ⟨hx, hb, hr, hml, hown, hts, hlocks, hname⟩ := hIn
  subst hsz
  have hown : s.vm.findClass RX4 = some m.cls := hown
  have hA : ∀ q : Nat, s.heap.size ≤ q → z_A (shC c, ad, I, JX, PC c ad) s.heap.size q := fun q h => Or.inr h
  generalize hAe : z_A (shC c, ad, I, JX, PC c ad) s.heap.size = A at *
  have hS : va_S A s.heap s.heap [] := va_S.rf
  have hl : lv_has ls 4 [(0, .ref (ad 41)), (1, .int a1)] := hl
  refine lv_aload_n hx hb dX4_send_0 rfl (lv_at hl 0 rfl) ?_
  refine lv_iconst (v := 0) hx hb dX4_send_1 (by decide) ?_
  refine z_put (T := TX4) (N := 13) (ci := 4) (i := 41) (v := .int 0) (I1 := z_up I 41 11 0) (J1 := JX) (P1 := PC c ad) hx hb hts zj_X4_send_X4 tyX4 tyX4_ok nmX4 hown hK hW hS rfl rfl 11 (by decide) (hts (.fieldLink RX4 52 "PetrolBoard$Loads" "sentLoads" "I") (me_s (me_l (me_l (List.mem_of_getElem? (i := 0) rfl))))) (fun _ h => h) rfl rfl rfl (by first | rfl | exact congrArg _ z_up_s) (fun a b h ty => z_vI h ty) dX4_send_2 (fun H locs hz1 hW hS => ?_)
  obtain ⟨I1, eI1⟩ : ∃ K : z_I, K = z_up I 41 11 0 := ⟨_, rfl⟩
  rw [← eI1] at hW
  have f2 := z_fr_k z_fr_0 (show z_wr L_X4_send 41 11 = true by decide) eI1
  refine lv_aload_n hx hb dX4_send_5 rfl (lv_at hl 0 rfl) ?_
  refine lv_iconst (v := 0) hx hb dX4_send_6 (by decide) ?_
  refine z_put (T := TX4) (N := 13) (ci := 4) (i := 41) (v := .int 0) (I1 := z_up I1 41 12 0) (J1 := JX) (P1 := PC c ad) hx hb hts zj_X4_send_X4 tyX4 tyX4_ok nmX4 hown hK hW hS rfl rfl 12 (by decide) (hts (.fieldLink RX4 55 "PetrolBoard$Loads" "sentMiles" "I") (me_s (me_l (me_l (List.mem_of_getElem? (i := 1) rfl))))) (fun _ h => h) rfl rfl rfl (by first | rfl | exact congrArg _ z_up_s) (fun a b h ty => z_vI h ty) dX4_send_7 (fun H locs hz1 hW hS => ?_)
  obtain ⟨I3, eI3⟩ : ∃ K : z_I, K = z_up I1 41 12 0 := ⟨_, rfl⟩
  rw [← eI3] at hW
  have f4 := z_fr_k f2 (show z_wr L_X4_send 41 12 = true by decide) eI3
  refine lv_iconst (v := 0) hx hb dX4_send_10 (by decide) ?_
  refine lv_istore_n (lv' := [(2, .int 0), (0, .ref (ad 41)), (1, .int a1)]) hx hb dX4_send_11 rfl hl (by decide) rfl (fun ls hl => ?_)
  have lp5 : ∀ (f : Nat) (y6 : Int32) (I7 : z_I) (H : Heap) (locs : List Loc) (ls : Array Slot), (2147483647 < y6.toInt + (f : Int)) → (0 ≤ y6.toInt) → (z_fr L_X4_send I7 I) → z_W G A (shC c, ad, I7, JX, PC c ad) H → va_S A s.heap H locs → lv_has ls 4 [(2, .int y6), (0, .ref (ad 41)), (1, .int a1)] → W p l e (headSpec wsX4_send { frames := 4, cells := 0, slots := 0, locals := 90 }).room s m ([.ref (ad 41), .int a1] : List Value).toArray below meth c0 H locs 0 0 (MQ below (va_Qv (fun (u1 : z_U) => ∃ I1 : z_I, u1 = (shC c, ad, I1, JX, PC c ad) ∧ z_fr L_X4_send I1 I) (z_B G A) A) ([.ref (ad 41), .int a1] : List Value).toArray s 0 0 A) (F0 m 12 ls []) := by
    intro f
    induction f with
    | zero => intro y6 I7  H locs ls lp5m lp5l2 lp5fr hW hS hl; exact absurd lp5m (by have := Int32.toInt_lt y6; have := Int32.le_toInt y6; omega)
    | succ f lp5ih =>
      intro y6 I7  H locs ls lp5m lp5l2 lp5fr hW hS hl
      refine lv_iload_n hx hb dX4_send_12 rfl (lv_at hl 0 rfl) ?_
      refine lv_iconst (v := 4) hx hb dX4_send_13 (by decide) ?_
      refine lv_icmp_ge (tgt := 54) hx hb dX4_send_14 (by decide) (fun c8 => ?_) (fun c8 => ?_)
      · have g9 := z_f_ge rfl z_l4 c8
        refine lv_iconst (v := 0) hx hb dX4_send_54 (by decide) ?_
        refine lv_istore_n (lv' := [(2, .int 0), (0, .ref (ad 41)), (1, .int a1)]) hx hb dX4_send_55 rfl hl (by decide) rfl (fun ls hl => ?_)
        have lp10 : ∀ (f : Nat) (y11 : Int32) (I12 : z_I) (H : Heap) (locs : List Loc) (ls : Array Slot), (2147483647 < y11.toInt + (f : Int)) → (0 ≤ y11.toInt) → (z_fr L_X4_send I12 I) → z_W G A (shC c, ad, I12, JX, PC c ad) H → va_S A s.heap H locs → lv_has ls 4 [(2, .int y11), (0, .ref (ad 41)), (1, .int a1)] → W p l e (headSpec wsX4_send { frames := 4, cells := 0, slots := 0, locals := 90 }).room s m ([.ref (ad 41), .int a1] : List Value).toArray below meth c0 H locs 0 0 (MQ below (va_Qv (fun (u1 : z_U) => ∃ I1 : z_I, u1 = (shC c, ad, I1, JX, PC c ad) ∧ z_fr L_X4_send I1 I) (z_B G A) A) ([.ref (ad 41), .int a1] : List Value).toArray s 0 0 A) (F0 m 56 ls []) := by
          intro f
          induction f with
          | zero => intro y11 I12  H locs ls lp10m lp10l2 lp10fr hW hS hl; exact absurd lp10m (by have := Int32.toInt_lt y11; have := Int32.le_toInt y11; omega)
          | succ f lp10ih =>
            intro y11 I12  H locs ls lp10m lp10l2 lp10fr hW hS hl
            refine lv_iload_n hx hb dX4_send_56 rfl (lv_at hl 0 rfl) ?_
            refine lv_bipush (v := 10) hx hb dX4_send_57 (by decide) ?_
            refine lv_icmp_ge (tgt := 80) hx hb dX4_send_59 (by decide) (fun c13 => ?_) (fun c13 => ?_)
            · have g14 := z_f_ge rfl z_l10 c13
              refine lv_aload_n hx hb dX4_send_80 rfl (lv_at hl 1 rfl) ?_
              refine z_ci hW hS hA (va_runV (As := []) (rest := []) ⟨hx, hb, hml, hown, hts⟩ (sx_X4_cheapestEnd l G ad c I12   _) (cwV 0 hts gX4_send_X4_cheapestEnd rfl rfl rfl hy_X4_cheapestEnd ⟨Nat.le_of_ble_eq_true rfl, Nat.le_of_ble_eq_true rfl⟩) (z_preV (i := 41) hK hW rfl rfl) rfl rfl hl.1 rfl (lv_room (Nat.le_of_ble_eq_true rfl)) dX4_send_81 ⟨Nat.le_of_ble_eq_true rfl, Nat.le_of_ble_eq_true rfl⟩) (fun r u1 H locs hp hW hS => ?_)
              obtain ⟨I15, e9, fI15⟩ := hp
              rw [e9] at hW
              have f16 := z_fr_sub (L := L_X4_send) lp10fr fI15 (by decide)
              refine lv_topi (fun x17 ex17 => ?_)
              refine lv_istore_n (lv' := [(2, .int x17), (0, .ref (ad 41)), (1, .int a1)]) hx hb dX4_send_84 rfl hl (by decide) rfl (fun ls hl => ?_)
              refine lv_iconst (v := 0) hx hb dX4_send_85 (by decide) ?_
              refine lv_istore_n (lv' := [(3, .int 0), (2, .int x17), (0, .ref (ad 41)), (1, .int a1)]) hx hb dX4_send_86 rfl hl (by decide) rfl (fun ls hl => ?_)
              have lp18 : ∀ (f : Nat) (y19 : Int32) (y20 : Int32) (I21 : z_I) (H : Heap) (locs : List Loc) (ls : Array Slot), (2147483647 < y19.toInt + (f : Int)) → (0 ≤ y19.toInt) → (z_fr L_X4_send I21 I) → z_W G A (shC c, ad, I21, JX, PC c ad) H → va_S A s.heap H locs → lv_has ls 4 [(3, .int y19), (2, .int y20), (0, .ref (ad 41)), (1, .int a1)] → W p l e (headSpec wsX4_send { frames := 4, cells := 0, slots := 0, locals := 90 }).room s m ([.ref (ad 41), .int a1] : List Value).toArray below meth c0 H locs 0 0 (MQ below (va_Qv (fun (u1 : z_U) => ∃ I1 : z_I, u1 = (shC c, ad, I1, JX, PC c ad) ∧ z_fr L_X4_send I1 I) (z_B G A) A) ([.ref (ad 41), .int a1] : List Value).toArray s 0 0 A) (F0 m 87 ls []) := by
                intro f
                induction f with
                | zero => intro y19 y20 I21  H locs ls lp18m lp18l3 lp18fr hW hS hl; exact absurd lp18m (by have := Int32.toInt_lt y19; have := Int32.le_toInt y19; omega)
                | succ f lp18ih =>
                  intro y19 y20 I21  H locs ls lp18m lp18l3 lp18fr hW hS hl
                  refine lv_iload_n hx hb dX4_send_87 rfl (lv_at hl 0 rfl) ?_
                  refine lv_sipush (v := 1000) hx hb dX4_send_88 (by decide) ?_
                  refine lv_icmp_ge (tgt := 115) hx hb dX4_send_91 (by decide) (fun c22 => ?_) (fun c22 => ?_)
                  · have g23 := z_f_ge rfl z_l1000 c22
                    exact z_vret hx hb hr hK hS (Nat.le_of_ble_eq_true rfl) (Nat.le_of_ble_eq_true rfl) hlocks dX4_send_115 (shC c, ad, I21, JX, PC c ad) hW ⟨I21, rfl, lp18fr⟩
                  · have g24 := z_f_nge rfl z_l1000 c22
                    refine lv_iload_n hx hb dX4_send_94 rfl (lv_at hl 1 rfl) ?_
                    refine lv_iconst (v := (-1)) hx hb dX4_send_95 (by decide) ?_
                    refine lv_icmp_eq (tgt := 115) hx hb dX4_send_96 (by decide) (fun c25 => ?_) (fun c25 => ?_)
                    · have g26 := z_f_eq rfl z_lm1 c25
                      exact z_vret hx hb hr hK hS (Nat.le_of_ble_eq_true rfl) (Nat.le_of_ble_eq_true rfl) hlocks dX4_send_115 (shC c, ad, I21, JX, PC c ad) hW ⟨I21, rfl, lp18fr⟩
                    · have g27 := z_f_ne rfl z_lm1 c25
                      refine lv_aload_n hx hb dX4_send_99 rfl (lv_at hl 2 rfl) ?_
                      refine lv_iload_n hx hb dX4_send_100 rfl (lv_at hl 1 rfl) ?_
                      refine z_cv hW hS hA (va_runV (As := [.int y20]) (rest := []) ⟨hx, hb, hml, hown, hts⟩ (sx_X4_sendTo l G ad c I21  y20 _) (cwV 1 hts gX4_send_X4_sendTo rfl rfl rfl hy_X4_sendTo ⟨Nat.le_of_ble_eq_true rfl, Nat.le_of_ble_eq_true rfl⟩) (z_preV (i := 41) hK hW rfl rfl) rfl rfl hl.1 rfl (lv_room (Nat.le_of_ble_eq_true rfl)) dX4_send_101 ⟨Nat.le_of_ble_eq_true rfl, Nat.le_of_ble_eq_true rfl⟩) (fun u1 H locs hp hW hS => ?_)
                      obtain ⟨I28, e9, fI28⟩ := hp
                      rw [e9] at hW
                      have f29 := z_fr_sub (L := L_X4_send) lp18fr fI28 (by decide)
                      refine lv_aload_n hx hb dX4_send_104 rfl (lv_at hl 2 rfl) ?_
                      refine z_ci hW hS hA (va_runV (As := []) (rest := []) ⟨hx, hb, hml, hown, hts⟩ (sx_X4_cheapestEnd l G ad c I28   _) (cwV 0 hts gX4_send_X4_cheapestEnd rfl rfl rfl hy_X4_cheapestEnd ⟨Nat.le_of_ble_eq_true rfl, Nat.le_of_ble_eq_true rfl⟩) (z_preV (i := 41) hK hW rfl rfl) rfl rfl hl.1 rfl (lv_room (Nat.le_of_ble_eq_true rfl)) dX4_send_105 ⟨Nat.le_of_ble_eq_true rfl, Nat.le_of_ble_eq_true rfl⟩) (fun r u1 H locs hp hW hS => ?_)
                      obtain ⟨I30, e9, fI30⟩ := hp
                      rw [e9] at hW
                      have f31 := z_fr_sub (L := L_X4_send) f29 fI30 (by decide)
                      refine lv_topi (fun x32 ex32 => ?_)
                      refine lv_istore_n (lv' := [(2, .int x32), (3, .int y19), (0, .ref (ad 41)), (1, .int a1)]) hx hb dX4_send_108 rfl hl (by decide) rfl (fun ls hl => ?_)
                      obtain ⟨x33, ex33⟩ : ∃ y : Int32, y = y19 + 1 := ⟨_, rfl⟩
                      have tx33 : x33.toInt = y19.toInt + 1 := z_tadd ex33 rfl z_l1 (by omega) (by omega)
                      refine lv_iinc (v := x33) (lv' := [(3, .int x33), (2, .int x32), (0, .ref (ad 41)), (1, .int a1)]) hx hb dX4_send_109 hl (k := 1) rfl (by rw [ex33]; rfl) (by decide) rfl (fun ls hl => ?_)
                      refine lv_goto (tgt := 87) hx hb dX4_send_112 (by decide) ?_
                      exact lp18ih x33 x32 I30  _ _ _ (by omega) (by omega) f31 hW hS (lv_sub hl [0, 1, 2, 3] rfl)
              exact lp18 4294967296 (0) x17 I15  _ _ _ (z_m0u _) (by rw [z_l0]; omega) f16 hW hS (lv_sub hl [0, 1, 2, 3] rfl)
            · have g34 := z_f_nge rfl z_l10 c13
              refine lv_aload_n hx hb dX4_send_62 rfl (lv_at hl 1 rfl) ?_
              refine z_get (T := TX4) (N := 13) (ci := 4) (i := 41) (v := .ref (ad 55)) hx hb hts zj_X4_send_X4 hown hK hW rfl rfl 5 (by decide) (hts (.fieldLink RX4 29 "PetrolBoard$Loads" "lacking" "[I") (me_s (me_l (me_l (List.mem_of_getElem? (i := 5) rfl))))) (fun _ h => h) rfl dX4_send_63 ?_
              refine lv_iload_n hx hb dX4_send_66 rfl (lv_at hl 0 rfl) ?_
              refine lv_aload_n hx hb dX4_send_67 rfl (lv_at hl 1 rfl) ?_
              refine z_get (T := TX4) (N := 13) (ci := 4) (i := 41) (v := .ref (ad 43)) hx hb hts zj_X4_send_X4 hown hK hW rfl rfl 1 (by decide) (hts (.fieldLink RX4 15 "PetrolBoard$Loads" "wanted" "[I") (me_s (me_l (me_l (List.mem_of_getElem? (i := 6) rfl))))) (fun _ h => h) rfl dX4_send_68 ?_
              refine lv_iload_n hx hb dX4_send_71 rfl (lv_at hl 0 rfl) ?_
              refine z_iald (i := 43) hx hb hK hW rfl (z_ix rfl (by omega) (by omega)) dX4_send_72 ?_
              refine lv_topi (fun x35 ex35 => ?_)
              refine z_iast (i := 55) hx hb hK hW hS rfl (z_ix rfl (by omega) (by omega)) dX4_send_73 (fun H locs hz1 hW hS => ?_)
              obtain ⟨I36, eI36⟩ : ∃ K : z_I, K = z_up I12 55 y11.toNatClampNeg x35 := ⟨_, rfl⟩
              rw [← eI36] at hW
              have f37 := z_fr_a lp10fr (show z_wa L_X4_send 55 = true by decide) eI36
              obtain ⟨x38, ex38⟩ : ∃ y : Int32, y = y11 + 1 := ⟨_, rfl⟩
              have tx38 : x38.toInt = y11.toInt + 1 := z_tadd ex38 rfl z_l1 (by omega) (by omega)
              refine lv_iinc (v := x38) (lv' := [(2, .int x38), (0, .ref (ad 41)), (1, .int a1)]) hx hb dX4_send_74 hl (k := 0) rfl (by rw [ex38]; rfl) (by decide) rfl (fun ls hl => ?_)
              refine lv_goto (tgt := 56) hx hb dX4_send_77 (by decide) ?_
              exact lp10ih x38 I36  _ _ _ (by omega) (by omega) f37 hW hS (lv_sub hl [0, 1, 2] rfl)
        exact lp10 4294967296 (0) I7  _ _ _ (z_m0u _) (by rw [z_l0]; omega) lp5fr hW hS (lv_sub hl [0, 1, 2] rfl)
      · have g39 := z_f_nge rfl z_l4 c8
        refine lv_aload_n hx hb dX4_send_17 rfl (lv_at hl 1 rfl) ?_
        refine z_get (T := TX4) (N := 13) (ci := 4) (i := 41) (v := .ref (ad 54)) hx hb hts zj_X4_send_X4 hown hK hW rfl rfl 4 (by decide) (hts (.fieldLink RX4 26 "PetrolBoard$Loads" "left" "[I") (me_s (me_l (me_l (List.mem_of_getElem? (i := 2) rfl))))) (fun _ h => h) rfl dX4_send_18 ?_
        refine lv_iload_n hx hb dX4_send_21 rfl (lv_at hl 0 rfl) ?_
        refine lv_iload_n hx hb dX4_send_22 rfl (lv_at hl 0 rfl) ?_
        refine lv_iload_n hx hb dX4_send_23 rfl (lv_at hl 2 rfl) ?_
        refine lv_icmp_ne (tgt := 31) hx hb dX4_send_24 (by decide) (fun c40 => ?_) (fun c40 => ?_)
        · have g41 := z_f_ne rfl rfl c40
          refine lv_aload_n hx hb dX4_send_31 rfl (lv_at hl 1 rfl) ?_
          refine z_get (T := TX4) (N := 13) (ci := 4) (i := 41) (v := .ref (ad 42)) hx hb hts zj_X4_send_X4 hown hK hW rfl rfl 0 (by decide) (hts (.fieldLink RX4 9 "PetrolBoard$Loads" "inPort" "[I") (me_s (me_l (me_l (List.mem_of_getElem? (i := 3) rfl))))) (fun _ h => h) rfl dX4_send_32 ?_
          refine lv_iload_n hx hb dX4_send_35 rfl (lv_at hl 0 rfl) ?_
          refine z_iald (i := 42) hx hb hK hW rfl (z_ix rfl (by omega) (by omega)) dX4_send_36 ?_
          refine lv_topi (fun x42 ex42 => ?_)
          refine z_iast (i := 54) hx hb hK hW hS rfl (z_ix rfl (by omega) (by omega)) dX4_send_37 (fun H locs hz1 hW hS => ?_)
          obtain ⟨I43, eI43⟩ : ∃ K : z_I, K = z_up I7 54 y6.toNatClampNeg x42 := ⟨_, rfl⟩
          rw [← eI43] at hW
          have f44 := z_fr_a lp5fr (show z_wa L_X4_send 54 = true by decide) eI43
          refine lv_aload_n hx hb dX4_send_38 rfl (lv_at hl 1 rfl) ?_
          refine z_get (T := TX4) (N := 13) (ci := 4) (i := 41) (v := .ref (ad 49)) hx hb hts zj_X4_send_X4 hown hK hW rfl rfl 3 (by decide) (hts (.fieldLink RX4 23 "PetrolBoard$Loads" "sent" "[[I") (me_s (me_l (me_l (List.mem_of_getElem? (i := 4) rfl))))) (fun _ h => h) rfl dX4_send_39 ?_
          refine lv_iload_n hx hb dX4_send_42 rfl (lv_at hl 0 rfl) ?_
          obtain ⟨k45, ek45, hk45⟩ : ∃ k : Nat, y6.toNatClampNeg = k ∧ k < 4 := ⟨_, rfl, z_clN rfl (by omega) (by omega)⟩
          refine z_aald (i := 49) (v := .ref (ad (50 + k45))) hx hb hK hW rfl (by simp [z_tys]) rfl (z_ix rfl (by omega) (by omega)) (z_p49 ek45 hk45) dX4_send_43 ?_
          refine lv_iconst (v := 0) hx hb dX4_send_44 (by decide) ?_
          refine z_cc hW hS hA (va_runS (As := [.ref (ad (50 + k45)), .int 0]) (rest := []) ⟨hx, hb, hml, hown, hts⟩ (ct_fill l G (50 + k45) 10 0 (z_s50 hk45) (by decide) _) (va_cwS 2 hts gX4_send_J7_fill_53178 rfl rfl rfl hy_J7_fill_53178.2 ⟨Nat.le_of_ble_eq_true rfl, Nat.le_of_ble_eq_true rfl⟩) (z_preS hK hW) rfl rfl hl.1 rfl (lv_room (Nat.le_of_ble_eq_true rfl)) dX4_send_45 ⟨Nat.le_of_ble_eq_true rfl, Nat.le_of_ble_eq_true rfl⟩) (fun H locs hz1 hW hS => ?_)
          obtain ⟨I46, eI46⟩ : ∃ K : z_I, K = z_fi I43 (50 + k45) 0 := ⟨_, rfl⟩
          rw [← eI46] at hW
          have f47 := z_fr_f f44 (z_wa50 (L := L_X4_send) (by decide) hk45) eI46
          obtain ⟨x48, ex48⟩ : ∃ y : Int32, y = y6 + 1 := ⟨_, rfl⟩
          have tx48 : x48.toInt = y6.toInt + 1 := z_tadd ex48 rfl z_l1 (by omega) (by omega)
          refine lv_iinc (v := x48) (lv' := [(2, .int x48), (0, .ref (ad 41)), (1, .int a1)]) hx hb dX4_send_48 hl (k := 0) rfl (by rw [ex48]; rfl) (by decide) rfl (fun ls hl => ?_)
          refine lv_goto (tgt := 12) hx hb dX4_send_51 (by decide) ?_
          exact lp5ih x48 I46  _ _ _ (by omega) (by omega) f47 hW hS (lv_sub hl [0, 1, 2] rfl)
        · have g49 := z_f_eq rfl rfl c40
          refine lv_iconst (v := 0) hx hb dX4_send_27 (by decide) ?_
          refine lv_goto (tgt := 37) hx hb dX4_send_28 (by decide) ?_
          refine z_iast (i := 54) hx hb hK hW hS rfl (z_ix rfl (by omega) (by omega)) dX4_send_37 (fun H locs hz1 hW hS => ?_)
          obtain ⟨I50, eI50⟩ : ∃ K : z_I, K = z_up I7 54 y6.toNatClampNeg 0 := ⟨_, rfl⟩
          rw [← eI50] at hW
          have f51 := z_fr_a lp5fr (show z_wa L_X4_send 54 = true by decide) eI50
          refine lv_aload_n hx hb dX4_send_38 rfl (lv_at hl 1 rfl) ?_
          refine z_get (T := TX4) (N := 13) (ci := 4) (i := 41) (v := .ref (ad 49)) hx hb hts zj_X4_send_X4 hown hK hW rfl rfl 3 (by decide) (hts (.fieldLink RX4 23 "PetrolBoard$Loads" "sent" "[[I") (me_s (me_l (me_l (List.mem_of_getElem? (i := 4) rfl))))) (fun _ h => h) rfl dX4_send_39 ?_
          refine lv_iload_n hx hb dX4_send_42 rfl (lv_at hl 0 rfl) ?_
          obtain ⟨k52, ek52, hk52⟩ : ∃ k : Nat, y6.toNatClampNeg = k ∧ k < 4 := ⟨_, rfl, z_clN rfl (by omega) (by omega)⟩
          refine z_aald (i := 49) (v := .ref (ad (50 + k52))) hx hb hK hW rfl (by simp [z_tys]) rfl (z_ix rfl (by omega) (by omega)) (z_p49 ek52 hk52) dX4_send_43 ?_
          refine lv_iconst (v := 0) hx hb dX4_send_44 (by decide) ?_
          refine z_cc hW hS hA (va_runS (As := [.ref (ad (50 + k52)), .int 0]) (rest := []) ⟨hx, hb, hml, hown, hts⟩ (ct_fill l G (50 + k52) 10 0 (z_s50 hk52) (by decide) _) (va_cwS 2 hts gX4_send_J7_fill_53178 rfl rfl rfl hy_J7_fill_53178.2 ⟨Nat.le_of_ble_eq_true rfl, Nat.le_of_ble_eq_true rfl⟩) (z_preS hK hW) rfl rfl hl.1 rfl (lv_room (Nat.le_of_ble_eq_true rfl)) dX4_send_45 ⟨Nat.le_of_ble_eq_true rfl, Nat.le_of_ble_eq_true rfl⟩) (fun H locs hz1 hW hS => ?_)
          obtain ⟨I53, eI53⟩ : ∃ K : z_I, K = z_fi I50 (50 + k52) 0 := ⟨_, rfl⟩
          rw [← eI53] at hW
          have f54 := z_fr_f f51 (z_wa50 (L := L_X4_send) (by decide) hk52) eI53
          obtain ⟨x55, ex55⟩ : ∃ y : Int32, y = y6 + 1 := ⟨_, rfl⟩
          have tx55 : x55.toInt = y6.toInt + 1 := z_tadd ex55 rfl z_l1 (by omega) (by omega)
          refine lv_iinc (v := x55) (lv' := [(2, .int x55), (0, .ref (ad 41)), (1, .int a1)]) hx hb dX4_send_48 hl (k := 0) rfl (by rw [ex55]; rfl) (by decide) rfl (fun ls hl => ?_)
          refine lv_goto (tgt := 12) hx hb dX4_send_51 (by decide) ?_
          exact lp5ih x55 I53  _ _ _ (by omega) (by omega) f54 hW hS (lv_sub hl [0, 1, 2] rfl)
  exact lp5 4294967296 (0) I3  _ _ _ (z_m0u _) (by rw [z_l0]; omega) f4 hW hS (lv_sub hl [0, 1, 2] rfl)
