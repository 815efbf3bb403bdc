theorem dX11_usual_0 : decode cX11_usual 0 = .ok (.iload_n 0, 1) := z_dd_26 (by decide +kernel)
theorem dX11_usual_1 : decode cX11_usual 1 = .ok (.ifCond .lt 19, 3) := z_dd_155 (by decide +kernel)
theorem dX11_usual_20 : decode cX11_usual 20 = .ok (.iconst (-1), 1) := z_dd_2 (by decide +kernel)
theorem dX11_usual_21 : decode cX11_usual 21 = .ok (.ireturn, 1) := z_dd_172 (by decide +kernel)
theorem dX11_usual_4 : decode cX11_usual 4 = .ok (.iload_n 0, 1) := z_dd_26 (by decide +kernel)
theorem dX11_usual_5 : decode cX11_usual 5 = .ok (.getstatic 426, 3) := z_dd_178 (by decide +kernel)
theorem dX11_usual_8 : decode cX11_usual 8 = .ok (.arraylength, 1) := z_dd_190 (by decide +kernel)
theorem dX11_usual_9 : decode cX11_usual 9 = .ok (.if_icmp .ge 11, 3) := z_dd_162 (by decide +kernel)
theorem dX11_usual_12 : decode cX11_usual 12 = .ok (.getstatic 426, 3) := z_dd_178 (by decide +kernel)
theorem dX11_usual_15 : decode cX11_usual 15 = .ok (.iload_n 0, 1) := z_dd_26 (by decide +kernel)
theorem dX11_usual_16 : decode cX11_usual 16 = .ok (.iaload, 1) := z_dd_46 (by decide +kernel)
theorem dX11_usual_17 : decode cX11_usual 17 = .ok (.goto 4, 3) := z_dd_167 (by decide +kernel)
theorem dX5_nameValue_0 : decode cX5_nameValue 0 = .ok (.iload_n 1, 1) := z_dd_27 (by decide +kernel)
theorem dX5_nameValue_1 : decode cX5_nameValue 1 = .ok (.ifCond .lt 21, 3) := z_dd_155 (by decide +kernel)
theorem dX5_nameValue_22 : decode cX5_nameValue 22 = .ok (.iconst 0, 1) := z_dd_3 (by decide +kernel)
theorem dX5_nameValue_23 : decode cX5_nameValue 23 = .ok (.ireturn, 1) := z_dd_172 (by decide +kernel)
theorem dX5_nameValue_4 : decode cX5_nameValue 4 = .ok (.iload_n 1, 1) := z_dd_27 (by decide +kernel)
theorem dX5_nameValue_5 : decode cX5_nameValue 5 = .ok (.aload_n 0, 1) := z_dd_42 (by decide +kernel)
theorem dX5_nameValue_6 : decode cX5_nameValue 6 = .ok (.getfield 9, 3) := z_dd_180 (by decide +kernel)
theorem dX5_nameValue_9 : decode cX5_nameValue 9 = .ok (.arraylength, 1) := z_dd_190 (by decide +kernel)
theorem dX5_nameValue_10 : decode cX5_nameValue 10 = .ok (.if_icmp .ge 12, 3) := z_dd_162 (by decide +kernel)
theorem dX5_nameValue_13 : decode cX5_nameValue 13 = .ok (.aload_n 0, 1) := z_dd_42 (by decide +kernel)
theorem dX5_nameValue_14 : decode cX5_nameValue 14 = .ok (.getfield 9, 3) := z_dd_180 (by decide +kernel)
theorem dX5_nameValue_17 : decode cX5_nameValue 17 = .ok (.iload_n 1, 1) := z_dd_27 (by decide +kernel)
theorem dX5_nameValue_18 : decode cX5_nameValue 18 = .ok (.iaload, 1) := z_dd_46 (by decide +kernel)
theorem dX5_nameValue_19 : decode cX5_nameValue 19 = .ok (.goto 4, 3) := z_dd_167 (by decide +kernel)
theorem dX5_joined_0 : decode cX5_joined 0 = .ok (.iload_n 0, 1) := z_dd_26 (by decide +kernel)
theorem dX5_joined_1 : decode cX5_joined 1 = .ok (.tableswitch 180 (-10) (-1) #[172, 158, 144, 130, 114, 98, 82, 73, 64, 55], 55) := by decide +kernel
theorem dX5_joined_173 : decode cX5_joined 173 = .ok (.iload_n 1, 1) := z_dd_27 (by decide +kernel)
theorem dX5_joined_174 : decode cX5_joined 174 = .ok (.iload_n 2, 1) := z_dd_28 (by decide +kernel)
theorem dX5_joined_175 : decode cX5_joined 175 = .ok (.iand, 1) := z_dd_126 (by decide +kernel)
theorem dX5_joined_176 : decode cX5_joined 176 = .ok (.i2l, 1) := z_dd_133 (by decide +kernel)
theorem dX5_joined_177 : decode cX5_joined 177 = .ok (.lstore_n 3, 1) := z_dd_66 (by decide +kernel)
theorem dX5_joined_178 : decode cX5_joined 178 = .ok (.goto 8, 3) := z_dd_167 (by decide +kernel)
theorem dX5_joined_186 : decode cX5_joined 186 = .ok (.ldc2_w 32, 3) := z_dd_20 (by decide +kernel)
theorem dX5_joined_189 : decode cX5_joined 189 = .ok (.ldc2_w 34, 3) := z_dd_20 (by decide +kernel)
theorem dX5_joined_192 : decode cX5_joined 192 = .ok (.lload_n 3, 1) := z_dd_33 (by decide +kernel)
theorem dX5_joined_193 : decode cX5_joined 193 = .ok (.invokestatic 36, 3) := z_dd_184 (by decide +kernel)
theorem dX5_joined_196 : decode cX5_joined 196 = .ok (.invokestatic 40, 3) := z_dd_184 (by decide +kernel)
theorem dX5_joined_199 : decode cX5_joined 199 = .ok (.l2i, 1) := z_dd_136 (by decide +kernel)
theorem dX5_joined_200 : decode cX5_joined 200 = .ok (.ireturn, 1) := z_dd_172 (by decide +kernel)
theorem dX5_joined_159 : decode cX5_joined 159 = .ok (.iload_n 1, 1) := z_dd_27 (by decide +kernel)
theorem dX5_joined_160 : decode cX5_joined 160 = .ok (.iload_n 2, 1) := z_dd_28 (by decide +kernel)
theorem dX5_joined_161 : decode cX5_joined 161 = .ok (.if_icmp .ne 7, 3) := z_dd_160 (by decide +kernel)
theorem dX5_joined_168 : decode cX5_joined 168 = .ok (.lconst 0, 1) := z_dd_9 (by decide +kernel)
theorem dX5_joined_169 : decode cX5_joined 169 = .ok (.lstore_n 3, 1) := z_dd_66 (by decide +kernel)
theorem dX5_joined_170 : decode cX5_joined 170 = .ok (.goto 16, 3) := z_dd_167 (by decide +kernel)
theorem dX5_joined_164 : decode cX5_joined 164 = .ok (.lconst 1, 1) := z_dd_10 (by decide +kernel)
theorem dX5_joined_165 : decode cX5_joined 165 = .ok (.goto 4, 3) := z_dd_167 (by decide +kernel)
theorem dX5_joined_145 : decode cX5_joined 145 = .ok (.iload_n 1, 1) := z_dd_27 (by decide +kernel)
theorem dX5_joined_146 : decode cX5_joined 146 = .ok (.iload_n 2, 1) := z_dd_28 (by decide +kernel)
theorem dX5_joined_147 : decode cX5_joined 147 = .ok (.if_icmp .le 7, 3) := z_dd_164 (by decide +kernel)
theorem dX5_joined_154 : decode cX5_joined 154 = .ok (.lconst 0, 1) := z_dd_9 (by decide +kernel)
theorem dX5_joined_155 : decode cX5_joined 155 = .ok (.lstore_n 3, 1) := z_dd_66 (by decide +kernel)
theorem dX5_joined_156 : decode cX5_joined 156 = .ok (.goto 30, 3) := z_dd_167 (by decide +kernel)
theorem dX5_joined_150 : decode cX5_joined 150 = .ok (.lconst 1, 1) := z_dd_10 (by decide +kernel)
theorem dX5_joined_151 : decode cX5_joined 151 = .ok (.goto 4, 3) := z_dd_167 (by decide +kernel)
theorem dX5_joined_131 : decode cX5_joined 131 = .ok (.iload_n 1, 1) := z_dd_27 (by decide +kernel)
theorem dX5_joined_132 : decode cX5_joined 132 = .ok (.iload_n 2, 1) := z_dd_28 (by decide +kernel)
theorem dX5_joined_133 : decode cX5_joined 133 = .ok (.if_icmp .ge 7, 3) := z_dd_162 (by decide +kernel)
theorem dX5_joined_140 : decode cX5_joined 140 = .ok (.lconst 0, 1) := z_dd_9 (by decide +kernel)
theorem dX5_joined_141 : decode cX5_joined 141 = .ok (.lstore_n 3, 1) := z_dd_66 (by decide +kernel)
theorem dX5_joined_142 : decode cX5_joined 142 = .ok (.goto 44, 3) := z_dd_167 (by decide +kernel)
theorem dX5_joined_136 : decode cX5_joined 136 = .ok (.lconst 1, 1) := z_dd_10 (by decide +kernel)
theorem dX5_joined_137 : decode cX5_joined 137 = .ok (.goto 4, 3) := z_dd_167 (by decide +kernel)
theorem dX5_joined_115 : decode cX5_joined 115 = .ok (.iload_n 1, 1) := z_dd_27 (by decide +kernel)
theorem dX5_joined_116 : decode cX5_joined 116 = .ok (.iload_n 2, 1) := z_dd_28 (by decide +kernel)
theorem dX5_joined_117 : decode cX5_joined 117 = .ok (.if_icmp .le 8, 3) := z_dd_164 (by decide +kernel)
theorem dX5_joined_125 : decode cX5_joined 125 = .ok (.iload_n 2, 1) := z_dd_28 (by decide +kernel)
theorem dX5_joined_126 : decode cX5_joined 126 = .ok (.i2l, 1) := z_dd_133 (by decide +kernel)
theorem dX5_joined_127 : decode cX5_joined 127 = .ok (.lstore_n 3, 1) := z_dd_66 (by decide +kernel)
theorem dX5_joined_128 : decode cX5_joined 128 = .ok (.goto 58, 3) := z_dd_167 (by decide +kernel)
theorem dX5_joined_120 : decode cX5_joined 120 = .ok (.iload_n 1, 1) := z_dd_27 (by decide +kernel)
theorem dX5_joined_121 : decode cX5_joined 121 = .ok (.i2l, 1) := z_dd_133 (by decide +kernel)
theorem dX5_joined_122 : decode cX5_joined 122 = .ok (.goto 5, 3) := z_dd_167 (by decide +kernel)
theorem dX5_joined_99 : decode cX5_joined 99 = .ok (.iload_n 1, 1) := z_dd_27 (by decide +kernel)
theorem dX5_joined_100 : decode cX5_joined 100 = .ok (.iload_n 2, 1) := z_dd_28 (by decide +kernel)
theorem dX5_joined_101 : decode cX5_joined 101 = .ok (.if_icmp .ge 8, 3) := z_dd_162 (by decide +kernel)
theorem dX5_joined_109 : decode cX5_joined 109 = .ok (.iload_n 2, 1) := z_dd_28 (by decide +kernel)
theorem dX5_joined_110 : decode cX5_joined 110 = .ok (.i2l, 1) := z_dd_133 (by decide +kernel)
theorem dX5_joined_111 : decode cX5_joined 111 = .ok (.lstore_n 3, 1) := z_dd_66 (by decide +kernel)
theorem dX5_joined_112 : decode cX5_joined 112 = .ok (.goto 74, 3) := z_dd_167 (by decide +kernel)
theorem dX5_joined_104 : decode cX5_joined 104 = .ok (.iload_n 1, 1) := z_dd_27 (by decide +kernel)
theorem dX5_joined_105 : decode cX5_joined 105 = .ok (.i2l, 1) := z_dd_133 (by decide +kernel)
theorem dX5_joined_106 : decode cX5_joined 106 = .ok (.goto 5, 3) := z_dd_167 (by decide +kernel)
theorem dX5_joined_83 : decode cX5_joined 83 = .ok (.iload_n 2, 1) := z_dd_28 (by decide +kernel)
theorem dX5_joined_84 : decode cX5_joined 84 = .ok (.ifCond .ne 7, 3) := z_dd_154 (by decide +kernel)
theorem dX5_joined_91 : decode cX5_joined 91 = .ok (.iload_n 1, 1) := z_dd_27 (by decide +kernel)
theorem dX5_joined_92 : decode cX5_joined 92 = .ok (.iload_n 2, 1) := z_dd_28 (by decide +kernel)
theorem dX5_joined_93 : decode cX5_joined 93 = .ok (.idiv, 1) := z_dd_108 (by decide +kernel)
theorem dX5_joined_94 : decode cX5_joined 94 = .ok (.i2l, 1) := z_dd_133 (by decide +kernel)
theorem dX5_joined_95 : decode cX5_joined 95 = .ok (.lstore_n 3, 1) := z_dd_66 (by decide +kernel)
theorem dX5_joined_96 : decode cX5_joined 96 = .ok (.goto 90, 3) := z_dd_167 (by decide +kernel)
theorem dX5_joined_87 : decode cX5_joined 87 = .ok (.lconst 0, 1) := z_dd_9 (by decide +kernel)
theorem dX5_joined_88 : decode cX5_joined 88 = .ok (.goto 7, 3) := z_dd_167 (by decide +kernel)
theorem dX5_joined_74 : decode cX5_joined 74 = .ok (.iload_n 1, 1) := z_dd_27 (by decide +kernel)
theorem dX5_joined_75 : decode cX5_joined 75 = .ok (.i2l, 1) := z_dd_133 (by decide +kernel)
theorem dX5_joined_76 : decode cX5_joined 76 = .ok (.iload_n 2, 1) := z_dd_28 (by decide +kernel)
theorem dX5_joined_77 : decode cX5_joined 77 = .ok (.i2l, 1) := z_dd_133 (by decide +kernel)
theorem dX5_joined_78 : decode cX5_joined 78 = .ok (.lmul, 1) := z_dd_105 (by decide +kernel)
theorem dX5_joined_79 : decode cX5_joined 79 = .ok (.lstore_n 3, 1) := z_dd_66 (by decide +kernel)
theorem dX5_joined_80 : decode cX5_joined 80 = .ok (.goto 106, 3) := z_dd_167 (by decide +kernel)
theorem dX5_joined_65 : decode cX5_joined 65 = .ok (.iload_n 1, 1) := z_dd_27 (by decide +kernel)
theorem dX5_joined_66 : decode cX5_joined 66 = .ok (.i2l, 1) := z_dd_133 (by decide +kernel)
theorem dX5_joined_67 : decode cX5_joined 67 = .ok (.iload_n 2, 1) := z_dd_28 (by decide +kernel)
theorem dX5_joined_68 : decode cX5_joined 68 = .ok (.i2l, 1) := z_dd_133 (by decide +kernel)
theorem dX5_joined_69 : decode cX5_joined 69 = .ok (.lsub, 1) := z_dd_101 (by decide +kernel)
theorem dX5_joined_70 : decode cX5_joined 70 = .ok (.lstore_n 3, 1) := z_dd_66 (by decide +kernel)
theorem dX5_joined_71 : decode cX5_joined 71 = .ok (.goto 115, 3) := z_dd_167 (by decide +kernel)
theorem dX5_joined_56 : decode cX5_joined 56 = .ok (.iload_n 1, 1) := z_dd_27 (by decide +kernel)
theorem dX5_joined_57 : decode cX5_joined 57 = .ok (.i2l, 1) := z_dd_133 (by decide +kernel)
theorem dX5_joined_58 : decode cX5_joined 58 = .ok (.iload_n 2, 1) := z_dd_28 (by decide +kernel)
theorem dX5_joined_59 : decode cX5_joined 59 = .ok (.i2l, 1) := z_dd_133 (by decide +kernel)
theorem dX5_joined_60 : decode cX5_joined 60 = .ok (.ladd, 1) := z_dd_97 (by decide +kernel)
theorem dX5_joined_61 : decode cX5_joined 61 = .ok (.lstore_n 3, 1) := z_dd_66 (by decide +kernel)
theorem dX5_joined_62 : decode cX5_joined 62 = .ok (.goto 124, 3) := z_dd_167 (by decide +kernel)
theorem dX5_joined_181 : decode cX5_joined 181 = .ok (.iload_n 1, 1) := z_dd_27 (by decide +kernel)
theorem dX5_joined_182 : decode cX5_joined 182 = .ok (.iload_n 2, 1) := z_dd_28 (by decide +kernel)
theorem dX5_joined_183 : decode cX5_joined 183 = .ok (.ior, 1) := z_dd_128 (by decide +kernel)
theorem dX5_joined_184 : decode cX5_joined 184 = .ok (.i2l, 1) := z_dd_133 (by decide +kernel)
theorem dX5_joined_185 : decode cX5_joined 185 = .ok (.lstore_n 3, 1) := z_dd_66 (by decide +kernel)
theorem dX5_result_0 : decode cX5_result 0 = .ok (.iconst 0, 1) := z_dd_3 (by decide +kernel)
theorem dX5_result_1 : decode cX5_result 1 = .ok (.istore_n 3, 1) := z_dd_62 (by decide +kernel)
theorem dX5_result_2 : decode cX5_result 2 = .ok (.iload_n 2, 1) := z_dd_28 (by decide +kernel)
theorem dX5_result_3 : decode cX5_result 3 = .ok (.iconst 0, 1) := z_dd_3 (by decide +kernel)
theorem dX5_result_4 : decode cX5_result 4 = .ok (.invokestatic 18, 3) := z_dd_184 (by decide +kernel)
theorem dX5_result_7 : decode cX5_result 7 = .ok (.istore 4, 2) := z_dd_54 (by decide +kernel)
theorem dX5_result_9 : decode cX5_result 9 = .ok (.iload 4, 2) := z_dd_21 (by decide +kernel)
theorem dX5_result_11 : decode cX5_result 11 = .ok (.aload_n 1, 1) := z_dd_43 (by decide +kernel)
theorem dX5_result_12 : decode cX5_result 12 = .ok (.arraylength, 1) := z_dd_190 (by decide +kernel)
theorem dX5_result_13 : decode cX5_result 13 = .ok (.if_icmp .ge 150, 3) := z_dd_162 (by decide +kernel)
theorem dX5_result_163 : decode cX5_result 163 = .ok (.iload_n 3, 1) := z_dd_29 (by decide +kernel)
theorem dX5_result_164 : decode cX5_result 164 = .ok (.iconst 1, 1) := z_dd_4 (by decide +kernel)
theorem dX5_result_165 : decode cX5_result 165 = .ok (.if_icmp .ne 12, 3) := z_dd_160 (by decide +kernel)
theorem dX5_result_177 : decode cX5_result 177 = .ok (.iconst 0, 1) := z_dd_3 (by decide +kernel)
theorem dX5_result_178 : decode cX5_result 178 = .ok (.ireturn, 1) := z_dd_172 (by decide +kernel)
theorem dX5_result_168 : decode cX5_result 168 = .ok (.aload_n 0, 1) := z_dd_42 (by decide +kernel)
theorem dX5_result_169 : decode cX5_result 169 = .ok (.getfield 15, 3) := z_dd_180 (by decide +kernel)
theorem dX5_result_172 : decode cX5_result 172 = .ok (.iconst 0, 1) := z_dd_3 (by decide +kernel)
theorem dX5_result_173 : decode cX5_result 173 = .ok (.iaload, 1) := z_dd_46 (by decide +kernel)
theorem dX5_result_174 : decode cX5_result 174 = .ok (.goto 4, 3) := z_dd_167 (by decide +kernel)
theorem dX5_result_16 : decode cX5_result 16 = .ok (.aload_n 1, 1) := z_dd_43 (by decide +kernel)
theorem dX5_result_17 : decode cX5_result 17 = .ok (.iload 4, 2) := z_dd_21 (by decide +kernel)
theorem dX5_result_19 : decode cX5_result 19 = .ok (.iaload, 1) := z_dd_46 (by decide +kernel)
theorem dX5_result_20 : decode cX5_result 20 = .ok (.bipush (-13), 2) := z_dd_16 (by decide +kernel)
theorem dX5_result_22 : decode cX5_result 22 = .ok (.if_icmp .eq 141, 3) := z_dd_159 (by decide +kernel)
theorem dX5_result_25 : decode cX5_result 25 = .ok (.aload_n 1, 1) := z_dd_43 (by decide +kernel)
theorem dX5_result_26 : decode cX5_result 26 = .ok (.iload 4, 2) := z_dd_21 (by decide +kernel)
theorem dX5_result_28 : decode cX5_result 28 = .ok (.iaload, 1) := z_dd_46 (by decide +kernel)
theorem dX5_result_29 : decode cX5_result 29 = .ok (.istore 5, 2) := z_dd_54 (by decide +kernel)
theorem dX5_result_31 : decode cX5_result 31 = .ok (.iload 5, 2) := z_dd_21 (by decide +kernel)
theorem dX5_result_33 : decode cX5_result 33 = .ok (.ifCond .ge 10, 3) := z_dd_156 (by decide +kernel)
theorem dX5_result_43 : decode cX5_result 43 = .ok (.iload_n 3, 1) := z_dd_29 (by decide +kernel)
theorem dX5_result_44 : decode cX5_result 44 = .ok (.aload_n 0, 1) := z_dd_42 (by decide +kernel)
theorem dX5_result_45 : decode cX5_result 45 = .ok (.getfield 15, 3) := z_dd_180 (by decide +kernel)
theorem dX5_result_48 : decode cX5_result 48 = .ok (.arraylength, 1) := z_dd_190 (by decide +kernel)
theorem dX5_result_49 : decode cX5_result 49 = .ok (.if_icmp .lt 5, 3) := z_dd_161 (by decide +kernel)
theorem dX5_result_54 : decode cX5_result 54 = .ok (.aload_n 0, 1) := z_dd_42 (by decide +kernel)
theorem dX5_result_55 : decode cX5_result 55 = .ok (.getfield 15, 3) := z_dd_180 (by decide +kernel)
theorem dX5_result_58 : decode cX5_result 58 = .ok (.iload_n 3, 1) := z_dd_29 (by decide +kernel)
theorem dX5_result_59 : decode cX5_result 59 = .ok (.iload 5, 2) := z_dd_21 (by decide +kernel)
theorem dX5_result_61 : decode cX5_result 61 = .ok (.ifCond .lt 8, 3) := z_dd_155 (by decide +kernel)
theorem dX5_result_64 : decode cX5_result 64 = .ok (.iload 5, 2) := z_dd_21 (by decide +kernel)
theorem dX5_result_66 : decode cX5_result 66 = .ok (.goto 12, 3) := z_dd_167 (by decide +kernel)
theorem dX5_result_78 : decode cX5_result 78 = .ok (.iastore, 1) := z_dd_79 (by decide +kernel)
theorem dX5_result_79 : decode cX5_result 79 = .ok (.iinc 3 1, 3) := z_dd_132 (by decide +kernel)
theorem dX5_result_82 : decode cX5_result 82 = .ok (.goto 75, 3) := z_dd_167 (by decide +kernel)
theorem dX5_result_157 : decode cX5_result 157 = .ok (.iinc 4 1, 3) := z_dd_132 (by decide +kernel)
theorem dX5_result_160 : decode cX5_result 160 = .ok (.goto (-151), 3) := z_dd_167 (by decide +kernel)
theorem dX5_result_52 : decode cX5_result 52 = .ok (.iconst 0, 1) := z_dd_3 (by decide +kernel)
theorem dX5_result_53 : decode cX5_result 53 = .ok (.ireturn, 1) := z_dd_172 (by decide +kernel)
theorem dX5_result_36 : decode cX5_result 36 = .ok (.iload 5, 2) := z_dd_21 (by decide +kernel)
theorem dX5_result_38 : decode cX5_result 38 = .ok (.bipush (-20), 2) := z_dd_16 (by decide +kernel)
theorem dX5_result_40 : decode cX5_result 40 = .ok (.if_icmp .gt 45, 3) := z_dd_163 (by decide +kernel)
theorem dX5_result_85 : decode cX5_result 85 = .ok (.iload 5, 2) := z_dd_21 (by decide +kernel)
theorem dX5_result_87 : decode cX5_result 87 = .ok (.bipush (-12), 2) := z_dd_16 (by decide +kernel)
theorem dX5_result_89 : decode cX5_result 89 = .ok (.if_icmp .ne 31, 3) := z_dd_160 (by decide +kernel)
theorem dX5_result_120 : decode cX5_result 120 = .ok (.iload_n 3, 1) := z_dd_29 (by decide +kernel)
theorem dX5_result_121 : decode cX5_result 121 = .ok (.iconst 2, 1) := z_dd_5 (by decide +kernel)
theorem dX5_result_122 : decode cX5_result 122 = .ok (.if_icmp .ge 5, 3) := z_dd_162 (by decide +kernel)
theorem dX5_result_127 : decode cX5_result 127 = .ok (.iinc 3 (-1), 3) := z_dd_132 (by decide +kernel)
theorem dX5_result_130 : decode cX5_result 130 = .ok (.aload_n 0, 1) := z_dd_42 (by decide +kernel)
theorem dX5_result_131 : decode cX5_result 131 = .ok (.getfield 15, 3) := z_dd_180 (by decide +kernel)
theorem dX5_result_134 : decode cX5_result 134 = .ok (.iload_n 3, 1) := z_dd_29 (by decide +kernel)
theorem dX5_result_135 : decode cX5_result 135 = .ok (.iconst 1, 1) := z_dd_4 (by decide +kernel)
theorem dX5_result_136 : decode cX5_result 136 = .ok (.isub, 1) := z_dd_100 (by decide +kernel)
theorem dX5_result_137 : decode cX5_result 137 = .ok (.iload 5, 2) := z_dd_21 (by decide +kernel)
theorem dX5_result_139 : decode cX5_result 139 = .ok (.aload_n 0, 1) := z_dd_42 (by decide +kernel)
theorem dX5_result_140 : decode cX5_result 140 = .ok (.getfield 15, 3) := z_dd_180 (by decide +kernel)
theorem dX5_result_143 : decode cX5_result 143 = .ok (.iload_n 3, 1) := z_dd_29 (by decide +kernel)
theorem dX5_result_144 : decode cX5_result 144 = .ok (.iconst 1, 1) := z_dd_4 (by decide +kernel)
theorem dX5_result_145 : decode cX5_result 145 = .ok (.isub, 1) := z_dd_100 (by decide +kernel)
theorem dX5_result_146 : decode cX5_result 146 = .ok (.iaload, 1) := z_dd_46 (by decide +kernel)
theorem dX5_result_147 : decode cX5_result 147 = .ok (.aload_n 0, 1) := z_dd_42 (by decide +kernel)
theorem dX5_result_148 : decode cX5_result 148 = .ok (.getfield 15, 3) := z_dd_180 (by decide +kernel)
theorem dX5_result_151 : decode cX5_result 151 = .ok (.iload_n 3, 1) := z_dd_29 (by decide +kernel)
theorem dX5_result_152 : decode cX5_result 152 = .ok (.iaload, 1) := z_dd_46 (by decide +kernel)
set_option maxRecDepth 20000 in
theorem ggX5_result_X5_joined : GoodIn wsX5_result wsX5_joined := goodIn_sub (fa_c (me_s (me_l (List.mem_of_getElem? (i := 13) rfl))) (fa_c (me_s (me_l (List.mem_of_getElem? (i := 14) rfl))) (fa_c (me_s (me_l (List.mem_of_getElem? (i := 15) rfl))) (fa_c (me_s (me_l (List.mem_of_getElem? (i := 16) rfl))) (fa_c (me_s (me_l (List.mem_of_getElem? (i := 17) rfl))) (fa_c (me_s (me_l (List.mem_of_getElem? (i := 2) rfl))) (fa_c (me_s (me_l (List.mem_of_getElem? (i := 18) rfl))) (fa_c (me_s (me_l (List.mem_of_getElem? (i := 19) rfl))) (fa_c (me_s (me_l (List.mem_of_getElem? (i := 20) rfl))) (fa_c (me_s (me_l (List.mem_of_getElem? (i := 21) rfl))) fa_n)))))))))) (by decide +kernel)
set_option maxRecDepth 20000 in
theorem gX5_result_X5_joined : GoodIn wsX5_result (va_wsS RX5 28 yX5_joined wsX5_joined) := goodIn_app (goodIn_sub (fa_c (me_s (me_l (List.mem_of_getElem? (i := 11) rfl))) (fa_c (me_s (me_l (List.mem_of_getElem? (i := 12) rfl))) (fa_c (me_s (me_l (List.mem_of_getElem? (i := 8) rfl))) fa_n))) (by decide +kernel)) ggX5_result_X5_joined
theorem dX5_result_153 : decode cX5_result 153 = .ok (.invokestatic 28, 3) := z_dd_184 (by decide +kernel)
theorem dX5_result_156 : decode cX5_result 156 = .ok (.iastore, 1) := z_dd_79 (by decide +kernel)
theorem dX5_result_125 : decode cX5_result 125 = .ok (.iconst 0, 1) := z_dd_3 (by decide +kernel)
theorem dX5_result_126 : decode cX5_result 126 = .ok (.ireturn, 1) := z_dd_172 (by decide +kernel)
theorem dX5_result_92 : decode cX5_result 92 = .ok (.iload_n 3, 1) := z_dd_29 (by decide +kernel)
theorem dX5_result_93 : decode cX5_result 93 = .ok (.iconst 1, 1) := z_dd_4 (by decide +kernel)
theorem dX5_result_94 : decode cX5_result 94 = .ok (.if_icmp .ge 5, 3) := z_dd_162 (by decide +kernel)
theorem dX5_result_99 : decode cX5_result 99 = .ok (.aload_n 0, 1) := z_dd_42 (by decide +kernel)
theorem dX5_result_100 : decode cX5_result 100 = .ok (.getfield 15, 3) := z_dd_180 (by decide +kernel)
theorem dX5_result_103 : decode cX5_result 103 = .ok (.iload_n 3, 1) := z_dd_29 (by decide +kernel)
theorem dX5_result_104 : decode cX5_result 104 = .ok (.iconst 1, 1) := z_dd_4 (by decide +kernel)
theorem dX5_result_105 : decode cX5_result 105 = .ok (.isub, 1) := z_dd_100 (by decide +kernel)
theorem dX5_result_106 : decode cX5_result 106 = .ok (.iconst 1, 1) := z_dd_4 (by decide +kernel)
theorem dX5_result_107 : decode cX5_result 107 = .ok (.aload_n 0, 1) := z_dd_42 (by decide +kernel)
theorem dX5_result_108 : decode cX5_result 108 = .ok (.getfield 15, 3) := z_dd_180 (by decide +kernel)
theorem dX5_result_111 : decode cX5_result 111 = .ok (.iload_n 3, 1) := z_dd_29 (by decide +kernel)
theorem dX5_result_112 : decode cX5_result 112 = .ok (.iconst 1, 1) := z_dd_4 (by decide +kernel)
theorem dX5_result_113 : decode cX5_result 113 = .ok (.isub, 1) := z_dd_100 (by decide +kernel)
theorem dX5_result_114 : decode cX5_result 114 = .ok (.iaload, 1) := z_dd_46 (by decide +kernel)
theorem dX5_result_115 : decode cX5_result 115 = .ok (.isub, 1) := z_dd_100 (by decide +kernel)
theorem dX5_result_116 : decode cX5_result 116 = .ok (.iastore, 1) := z_dd_79 (by decide +kernel)
theorem dX5_result_117 : decode cX5_result 117 = .ok (.goto 40, 3) := z_dd_167 (by decide +kernel)
theorem dX5_result_97 : decode cX5_result 97 = .ok (.iconst 0, 1) := z_dd_3 (by decide +kernel)
theorem dX5_result_98 : decode cX5_result 98 = .ok (.ireturn, 1) := z_dd_172 (by decide +kernel)
theorem dX5_result_69 : decode cX5_result 69 = .ok (.aload_n 0, 1) := z_dd_42 (by decide +kernel)
theorem dX5_result_70 : decode cX5_result 70 = .ok (.bipush (-20), 2) := z_dd_16 (by decide +kernel)
theorem dX5_result_72 : decode cX5_result 72 = .ok (.iload 5, 2) := z_dd_21 (by decide +kernel)
theorem dX5_result_74 : decode cX5_result 74 = .ok (.isub, 1) := z_dd_100 (by decide +kernel)
set_option maxRecDepth 20000 in
theorem ggX5_result_X5_nameValue : GoodIn wsX5_result wsX5_nameValue := goodIn_sub (fa_c (me_s (me_l (List.mem_of_getElem? (i := 9) rfl))) (fa_a (fa_c (me_s (me_l (List.mem_of_getElem? (i := 10) rfl))) fa_n) (fun w h => (me_s (me_r h))))) (by decide +kernel)
set_option maxRecDepth 20000 in
theorem gX5_result_X5_nameValue : GoodIn wsX5_result (wsV RX5 24 RX5 yX5_nameValue wsX5_nameValue) := goodIn_app (goodIn_sub (fa_c (me_s (me_l (List.mem_of_getElem? (i := 5) rfl))) (fa_c (me_s (me_l (List.mem_of_getElem? (i := 6) rfl))) (fa_c (me_s (me_l (List.mem_of_getElem? (i := 7) rfl))) (fa_c (me_s (me_l (List.mem_of_getElem? (i := 8) rfl))) fa_n)))) (by decide +kernel)) ggX5_result_X5_nameValue
theorem dX5_result_75 : decode cX5_result 75 = .ok (.invokevirtual 24, 3) := z_dd_182 (by decide +kernel)
theorem dX7_amount_0 : decode cX7_amount 0 = .ok (.aload_n 0, 1) := z_dd_42 (by decide +kernel)
theorem dX7_amount_1 : decode cX7_amount 1 = .ok (.getfield 44, 3) := z_dd_180 (by decide +kernel)
theorem dX7_amount_4 : decode cX7_amount 4 = .ok (.arraylength, 1) := z_dd_190 (by decide +kernel)
theorem dX7_amount_5 : decode cX7_amount 5 = .ok (.iconst 1, 1) := z_dd_4 (by decide +kernel)
theorem dX7_amount_6 : decode cX7_amount 6 = .ok (.isub, 1) := z_dd_100 (by decide +kernel)
theorem dX7_amount_7 : decode cX7_amount 7 = .ok (.istore_n 2, 1) := z_dd_61 (by decide +kernel)
theorem dX7_amount_8 : decode cX7_amount 8 = .ok (.iload_n 2, 1) := z_dd_28 (by decide +kernel)
theorem dX7_amount_9 : decode cX7_amount 9 = .ok (.ifCond .lt 39, 3) := z_dd_155 (by decide +kernel)
theorem dX7_amount_48 : decode cX7_amount 48 = .ok (.iload_n 1, 1) := z_dd_27 (by decide +kernel)
set_option maxRecDepth 20000 in
theorem ggX7_amount_X11_usual : GoodIn wsX7_amount wsX11_usual := goodIn_sub (fa_c (me_s (me_l (List.mem_of_getElem? (i := 4) rfl))) (fa_c (me_s (me_l (List.mem_of_getElem? (i := 5) rfl))) fa_n)) (by decide +kernel)
set_option maxRecDepth 20000 in
theorem gX7_amount_X11_usual_n53 : GoodIn wsX7_amount (wsX11_usual) := ggX7_amount_X11_usual
theorem dX7_amount_49 : decode cX7_amount 49 = .ok (.invokestatic 53, 3) := z_dd_184 (by decide +kernel)
theorem dX7_amount_52 : decode cX7_amount 52 = .ok (.ireturn, 1) := z_dd_172 (by decide +kernel)
theorem dX7_amount_12 : decode cX7_amount 12 = .ok (.iload_n 2, 1) := z_dd_28 (by decide +kernel)
theorem dX7_amount_13 : decode cX7_amount 13 = .ok (.aload_n 0, 1) := z_dd_42 (by decide +kernel)
theorem dX7_amount_14 : decode cX7_amount 14 = .ok (.getfield 40, 3) := z_dd_180 (by decide +kernel)
theorem dX7_amount_17 : decode cX7_amount 17 = .ok (.arraylength, 1) := z_dd_190 (by decide +kernel)
theorem dX7_amount_18 : decode cX7_amount 18 = .ok (.if_icmp .ge 24, 3) := z_dd_162 (by decide +kernel)
theorem dX7_amount_42 : decode cX7_amount 42 = .ok (.iinc 2 (-1), 3) := z_dd_132 (by decide +kernel)
theorem dX7_amount_45 : decode cX7_amount 45 = .ok (.goto (-37), 3) := z_dd_167 (by decide +kernel)
theorem dX7_amount_21 : decode cX7_amount 21 = .ok (.aload_n 0, 1) := z_dd_42 (by decide +kernel)
theorem dX7_amount_22 : decode cX7_amount 22 = .ok (.getfield 40, 3) := z_dd_180 (by decide +kernel)
theorem dX7_amount_25 : decode cX7_amount 25 = .ok (.iload_n 2, 1) := z_dd_28 (by decide +kernel)
theorem dX7_amount_26 : decode cX7_amount 26 = .ok (.iaload, 1) := z_dd_46 (by decide +kernel)
theorem dX7_amount_27 : decode cX7_amount 27 = .ok (.sipush 303, 3) := z_dd_17 (by decide +kernel)
theorem dX7_amount_30 : decode cX7_amount 30 = .ok (.iload_n 1, 1) := z_dd_27 (by decide +kernel)
theorem dX7_amount_31 : decode cX7_amount 31 = .ok (.iadd, 1) := z_dd_96 (by decide +kernel)
theorem dX7_amount_32 : decode cX7_amount 32 = .ok (.if_icmp .ne 10, 3) := z_dd_160 (by decide +kernel)
theorem dX7_amount_35 : decode cX7_amount 35 = .ok (.aload_n 0, 1) := z_dd_42 (by decide +kernel)
theorem dX7_amount_36 : decode cX7_amount 36 = .ok (.getfield 44, 3) := z_dd_180 (by decide +kernel)
theorem dX7_amount_39 : decode cX7_amount 39 = .ok (.iload_n 2, 1) := z_dd_28 (by decide +kernel)
theorem dX7_amount_40 : decode cX7_amount 40 = .ok (.iaload, 1) := z_dd_46 (by decide +kernel)
theorem dX7_amount_41 : decode cX7_amount 41 = .ok (.ireturn, 1) := z_dd_172 (by decide +kernel)
theorem dX7_holds_0 : decode cX7_holds 0 = .ok (.iload_n 1, 1) := z_dd_27 (by decide +kernel)
theorem dX7_holds_1 : decode cX7_holds 1 = .ok (.ifCond .lt 22, 3) := z_dd_155 (by decide +kernel)
theorem dX7_holds_23 : decode cX7_holds 23 = .ok (.iconst 1, 1) := z_dd_4 (by decide +kernel)
theorem dX7_holds_24 : decode cX7_holds 24 = .ok (.ireturn, 1) := z_dd_172 (by decide +kernel)
theorem dX7_holds_4 : decode cX7_holds 4 = .ok (.iload_n 1, 1) := z_dd_27 (by decide +kernel)
theorem dX7_holds_5 : decode cX7_holds 5 = .ok (.aload_n 0, 1) := z_dd_42 (by decide +kernel)
theorem dX7_holds_6 : decode cX7_holds 6 = .ok (.getfield 48, 3) := z_dd_180 (by decide +kernel)
theorem dX7_holds_9 : decode cX7_holds 9 = .ok (.arraylength, 1) := z_dd_190 (by decide +kernel)
theorem dX7_holds_10 : decode cX7_holds 10 = .ok (.if_icmp .ge 13, 3) := z_dd_162 (by decide +kernel)
theorem dX7_holds_13 : decode cX7_holds 13 = .ok (.aload_n 0, 1) := z_dd_42 (by decide +kernel)
theorem dX7_holds_14 : decode cX7_holds 14 = .ok (.getfield 48, 3) := z_dd_180 (by decide +kernel)
theorem dX7_holds_17 : decode cX7_holds 17 = .ok (.iload_n 1, 1) := z_dd_27 (by decide +kernel)
theorem dX7_holds_18 : decode cX7_holds 18 = .ok (.iaload, 1) := z_dd_46 (by decide +kernel)
theorem dX7_holds_19 : decode cX7_holds 19 = .ok (.iconst (-1), 1) := z_dd_2 (by decide +kernel)
theorem dX7_holds_20 : decode cX7_holds 20 = .ok (.if_icmp .ne 5, 3) := z_dd_160 (by decide +kernel)
theorem dX7_holds_25 : decode cX7_holds 25 = .ok (.aload_n 2, 1) := z_dd_44 (by decide +kernel)
theorem dX7_holds_26 : decode cX7_holds 26 = .ok (.aload_n 0, 1) := z_dd_42 (by decide +kernel)
theorem dX7_holds_27 : decode cX7_holds 27 = .ok (.getfield 52, 3) := z_dd_180 (by decide +kernel)
theorem dX7_holds_30 : decode cX7_holds 30 = .ok (.aload_n 0, 1) := z_dd_42 (by decide +kernel)
theorem dX7_holds_31 : decode cX7_holds 31 = .ok (.getfield 48, 3) := z_dd_180 (by decide +kernel)
theorem dX7_holds_34 : decode cX7_holds 34 = .ok (.iload_n 1, 1) := z_dd_27 (by decide +kernel)
theorem dX7_holds_35 : decode cX7_holds 35 = .ok (.iaload, 1) := z_dd_46 (by decide +kernel)
set_option maxRecDepth 20000 in
theorem ggX7_holds_X5_result : GoodIn wsX7_holds wsX5_result := goodIn_sub (fa_c (me_s (me_l (me_l (me_l (List.mem_of_getElem? (i := 6) rfl))))) (fa_a (fa_c (me_s (me_l (me_l (me_l (List.mem_of_getElem? (i := 7) rfl))))) (fa_c (me_s (me_l (me_l (me_l (List.mem_of_getElem? (i := 8) rfl))))) (fa_c (me_s (me_l (me_l (me_l (List.mem_of_getElem? (i := 9) rfl))))) (fa_c (me_s (me_l (me_l (me_l (List.mem_of_getElem? (i := 10) rfl))))) (fa_c (me_s (me_l (me_l (me_l (List.mem_of_getElem? (i := 11) rfl))))) (fa_c (me_s (me_l (me_l (me_l (List.mem_of_getElem? (i := 12) rfl))))) (fa_c (me_s (me_l (me_l (me_l (List.mem_of_getElem? (i := 13) rfl))))) (fa_c (me_s (me_l (me_l (me_l (List.mem_of_getElem? (i := 14) rfl))))) (fa_c (me_s (me_l (me_l (me_l (List.mem_of_getElem? (i := 5) rfl))))) (fa_c (me_s (me_l (me_l (me_l (List.mem_of_getElem? (i := 15) rfl))))) (fa_c (me_s (me_l (me_l (me_l (List.mem_of_getElem? (i := 16) rfl))))) (fa_c (me_s (me_l (me_l (me_l (List.mem_of_getElem? (i := 17) rfl))))) (fa_c (me_s (me_l (me_l (me_l (List.mem_of_getElem? (i := 18) rfl))))) (fa_c (me_s (me_l (me_l (me_l (List.mem_of_getElem? (i := 19) rfl))))) (fa_c (me_s (me_l (me_l (me_l (List.mem_of_getElem? (i := 20) rfl))))) (fa_c (me_s (me_l (me_l (me_l (List.mem_of_getElem? (i := 21) rfl))))) (fa_c (me_s (me_l (me_l (me_l (List.mem_of_getElem? (i := 22) rfl))))) (fa_c (me_s (me_l (me_l (me_l (List.mem_of_getElem? (i := 23) rfl))))) (fa_c (me_s (me_l (me_l (me_r (List.mem_of_getElem? (i := 0) rfl))))) (fa_c (me_s (me_l (me_l (me_r (List.mem_of_getElem? (i := 1) rfl))))) (fa_c (me_s (me_l (me_l (me_r (List.mem_of_getElem? (i := 2) rfl))))) (fa_c (me_s (me_l (me_l (me_r (List.mem_of_getElem? (i := 3) rfl))))) fa_n)))))))))))))))))))))) (fun w h => (me_s (me_r h))))) (by decide +kernel)
set_option maxRecDepth 20000 in
theorem gX7_holds_X5_result : GoodIn wsX7_holds (wsV RX7 61 RX5 yX5_result wsX5_result) := goodIn_app (goodIn_sub (fa_c (me_s (me_l (me_l (me_l (List.mem_of_getElem? (i := 2) rfl))))) (fa_c (me_s (me_l (me_l (me_l (List.mem_of_getElem? (i := 3) rfl))))) (fa_c (me_s (me_l (me_l (me_l (List.mem_of_getElem? (i := 4) rfl))))) (fa_c (me_s (me_l (me_l (me_l (List.mem_of_getElem? (i := 5) rfl))))) fa_n)))) (by decide +kernel)) ggX7_holds_X5_result
theorem dX7_holds_36 : decode cX7_holds 36 = .ok (.invokevirtual 61, 3) := z_dd_182 (by decide +kernel)
theorem dX7_holds_39 : decode cX7_holds 39 = .ok (.ifCond .eq 7, 3) := z_dd_153 (by decide +kernel)
theorem dX7_holds_46 : decode cX7_holds 46 = .ok (.iconst 0, 1) := z_dd_3 (by decide +kernel)
theorem dX7_holds_47 : decode cX7_holds 47 = .ok (.ireturn, 1) := z_dd_172 (by decide +kernel)
theorem dX7_holds_42 : decode cX7_holds 42 = .ok (.iconst 1, 1) := z_dd_4 (by decide +kernel)
theorem dX7_holds_43 : decode cX7_holds 43 = .ok (.goto 4, 3) := z_dd_167 (by decide +kernel)
theorem dX7_stops_0 : decode cX7_stops 0 = .ok (.iconst 0, 1) := z_dd_3 (by decide +kernel)
theorem dX7_stops_1 : decode cX7_stops 1 = .ok (.istore_n 2, 1) := z_dd_61 (by decide +kernel)
theorem dX7_stops_2 : decode cX7_stops 2 = .ok (.iload_n 2, 1) := z_dd_28 (by decide +kernel)
theorem dX7_stops_3 : decode cX7_stops 3 = .ok (.aload_n 0, 1) := z_dd_42 (by decide +kernel)
theorem dX7_stops_4 : decode cX7_stops 4 = .ok (.getfield 40, 3) := z_dd_180 (by decide +kernel)
theorem dX7_stops_7 : decode cX7_stops 7 = .ok (.arraylength, 1) := z_dd_190 (by decide +kernel)
theorem dX7_stops_8 : decode cX7_stops 8 = .ok (.if_icmp .ge 32, 3) := z_dd_162 (by decide +kernel)
theorem dX7_stops_40 : decode cX7_stops 40 = .ok (.iconst 0, 1) := z_dd_3 (by decide +kernel)
theorem dX7_stops_41 : decode cX7_stops 41 = .ok (.ireturn, 1) := z_dd_172 (by decide +kernel)
theorem dX7_stops_11 : decode cX7_stops 11 = .ok (.aload_n 0, 1) := z_dd_42 (by decide +kernel)
theorem dX7_stops_12 : decode cX7_stops 12 = .ok (.getfield 40, 3) := z_dd_180 (by decide +kernel)
theorem dX7_stops_15 : decode cX7_stops 15 = .ok (.iload_n 2, 1) := z_dd_28 (by decide +kernel)
theorem dX7_stops_16 : decode cX7_stops 16 = .ok (.iaload, 1) := z_dd_46 (by decide +kernel)
theorem dX7_stops_17 : decode cX7_stops 17 = .ok (.sipush 302, 3) := z_dd_17 (by decide +kernel)
theorem dX7_stops_20 : decode cX7_stops 20 = .ok (.if_icmp .ne 14, 3) := z_dd_160 (by decide +kernel)
theorem dX7_stops_34 : decode cX7_stops 34 = .ok (.iinc 2 1, 3) := z_dd_132 (by decide +kernel)
theorem dX7_stops_37 : decode cX7_stops 37 = .ok (.goto (-35), 3) := z_dd_167 (by decide +kernel)
theorem dX7_stops_23 : decode cX7_stops 23 = .ok (.aload_n 0, 1) := z_dd_42 (by decide +kernel)
theorem dX7_stops_24 : decode cX7_stops 24 = .ok (.iload_n 2, 1) := z_dd_28 (by decide +kernel)
theorem dX7_stops_25 : decode cX7_stops 25 = .ok (.aload_n 1, 1) := z_dd_43 (by decide +kernel)
set_option maxRecDepth 20000 in
theorem ggX7_stops_X7_holds : GoodIn wsX7_stops wsX7_holds := goodIn_sub (fa_c (me_s (me_l (me_l (me_l (List.mem_of_getElem? (i := 5) rfl))))) (fa_a (fa_a (fa_a (fa_c (me_s (me_l (me_l (me_l (List.mem_of_getElem? (i := 6) rfl))))) (fa_c (me_s (me_l (me_l (me_l (List.mem_of_getElem? (i := 7) rfl))))) (fa_c (me_s (me_l (me_l (me_l (List.mem_of_getElem? (i := 8) rfl))))) (fa_c (me_s (me_l (me_l (me_l (List.mem_of_getElem? (i := 9) rfl))))) (fa_c (me_s (me_l (me_l (me_l (List.mem_of_getElem? (i := 10) rfl))))) (fa_c (me_s (me_l (me_l (me_l (List.mem_of_getElem? (i := 11) rfl))))) (fa_c (me_s (me_l (me_l (me_l (List.mem_of_getElem? (i := 12) rfl))))) (fa_c (me_s (me_l (me_l (me_l (List.mem_of_getElem? (i := 13) rfl))))) (fa_c (me_s (me_l (me_l (me_l (List.mem_of_getElem? (i := 14) rfl))))) (fa_c (me_s (me_l (me_l (me_l (List.mem_of_getElem? (i := 15) rfl))))) (fa_c (me_s (me_l (me_l (me_l (List.mem_of_getElem? (i := 16) rfl))))) (fa_c (me_s (me_l (me_l (me_l (List.mem_of_getElem? (i := 17) rfl))))) (fa_c (me_s (me_l (me_l (me_l (List.mem_of_getElem? (i := 18) rfl))))) (fa_c (me_s (me_l (me_l (me_l (List.mem_of_getElem? (i := 19) rfl))))) (fa_c (me_s (me_l (me_l (me_l (List.mem_of_getElem? (i := 20) rfl))))) (fa_c (me_s (me_l (me_l (me_l (List.mem_of_getElem? (i := 21) rfl))))) (fa_c (me_s (me_l (me_l (me_l (List.mem_of_getElem? (i := 22) rfl))))) (fa_c (me_s (me_l (me_l (me_l (List.mem_of_getElem? (i := 23) rfl))))) (fa_c (me_s (me_l (me_l (me_r (List.mem_of_getElem? (i := 0) rfl))))) (fa_c (me_s (me_l (me_l (me_r (List.mem_of_getElem? (i := 1) rfl))))) (fa_c (me_s (me_l (me_l (me_r (List.mem_of_getElem? (i := 2) rfl))))) (fa_c (me_s (me_l (me_l (me_r (List.mem_of_getElem? (i := 3) rfl))))) (fa_c (me_s (me_l (me_l (me_r (List.mem_of_getElem? (i := 4) rfl))))) (fa_c (me_s (me_l (me_l (me_r (List.mem_of_getElem? (i := 5) rfl))))) fa_n)))))))))))))))))))))))) (fa_c (me_s (me_l (me_l (me_r (List.mem_of_getElem? (i := 6) rfl))))) (fa_c (me_s (me_l (me_l (me_r (List.mem_of_getElem? (i := 7) rfl))))) (fa_c (me_s (me_l (me_l (me_r (List.mem_of_getElem? (i := 8) rfl))))) (fa_c (me_s (me_l (me_l (me_r (List.mem_of_getElem? (i := 9) rfl))))) fa_n))))) (fun w h => (me_s (me_l (me_r h))))) (fun w h => (me_s (me_r h))))) (by decide +kernel)
set_option maxRecDepth 20000 in
theorem gX7_stops_X7_holds : GoodIn wsX7_stops (wsV RX7 57 RX7 yX7_holds wsX7_holds) := goodIn_app (goodIn_sub (fa_c (me_s (me_l (me_l (me_l (List.mem_of_getElem? (i := 1) rfl))))) (fa_c (me_s (me_l (me_l (me_l (List.mem_of_getElem? (i := 2) rfl))))) (fa_c (me_s (me_l (me_l (me_l (List.mem_of_getElem? (i := 3) rfl))))) (fa_c (me_s (me_l (me_l (me_l (List.mem_of_getElem? (i := 4) rfl))))) fa_n)))) (by decide +kernel)) ggX7_stops_X7_holds
theorem dX7_stops_26 : decode cX7_stops 26 = .ok (.invokevirtual 57, 3) := z_dd_182 (by decide +kernel)
theorem dX7_stops_29 : decode cX7_stops 29 = .ok (.ifCond .eq 5, 3) := z_dd_153 (by decide +kernel)
theorem dX7_stops_32 : decode cX7_stops 32 = .ok (.iconst 1, 1) := z_dd_4 (by decide +kernel)
theorem dX7_stops_33 : decode cX7_stops 33 = .ok (.ireturn, 1) := z_dd_172 (by decide +kernel)
theorem dX7_dealt_0 : decode cX7_dealt 0 = .ok (.iconst 0, 1) := z_dd_3 (by decide +kernel)
theorem dX7_dealt_1 : decode cX7_dealt 1 = .ok (.istore_n 3, 1) := z_dd_62 (by decide +kernel)
theorem dX7_dealt_2 : decode cX7_dealt 2 = .ok (.iload_n 3, 1) := z_dd_29 (by decide +kernel)
theorem dX7_dealt_3 : decode cX7_dealt 3 = .ok (.aload_n 0, 1) := z_dd_42 (by decide +kernel)
theorem dX7_dealt_4 : decode cX7_dealt 4 = .ok (.getfield 40, 3) := z_dd_180 (by decide +kernel)
theorem dX7_dealt_7 : decode cX7_dealt 7 = .ok (.arraylength, 1) := z_dd_190 (by decide +kernel)
theorem dX7_dealt_8 : decode cX7_dealt 8 = .ok (.if_icmp .ge 65, 3) := z_dd_162 (by decide +kernel)
theorem dX7_dealt_73 : decode cX7_dealt 73 = .ok (.iconst 0, 1) := z_dd_3 (by decide +kernel)
theorem dX7_dealt_74 : decode cX7_dealt 74 = .ok (.ireturn, 1) := z_dd_172 (by decide +kernel)
theorem dX7_dealt_11 : decode cX7_dealt 11 = .ok (.aload_n 0, 1) := z_dd_42 (by decide +kernel)
theorem dX7_dealt_12 : decode cX7_dealt 12 = .ok (.getfield 40, 3) := z_dd_180 (by decide +kernel)
theorem dX7_dealt_15 : decode cX7_dealt 15 = .ok (.iload_n 3, 1) := z_dd_29 (by decide +kernel)
theorem dX7_dealt_16 : decode cX7_dealt 16 = .ok (.iaload, 1) := z_dd_46 (by decide +kernel)
theorem dX7_dealt_17 : decode cX7_dealt 17 = .ok (.iload_n 1, 1) := z_dd_27 (by decide +kernel)
theorem dX7_dealt_18 : decode cX7_dealt 18 = .ok (.if_icmp .ne 49, 3) := z_dd_160 (by decide +kernel)
theorem dX7_dealt_67 : decode cX7_dealt 67 = .ok (.iinc 3 1, 3) := z_dd_132 (by decide +kernel)
theorem dX7_dealt_70 : decode cX7_dealt 70 = .ok (.goto (-68), 3) := z_dd_167 (by decide +kernel)
theorem dX7_dealt_21 : decode cX7_dealt 21 = .ok (.iload_n 3, 1) := z_dd_29 (by decide +kernel)
theorem dX7_dealt_22 : decode cX7_dealt 22 = .ok (.aload_n 0, 1) := z_dd_42 (by decide +kernel)
theorem dX7_dealt_23 : decode cX7_dealt 23 = .ok (.getfield 44, 3) := z_dd_180 (by decide +kernel)
theorem dX7_dealt_26 : decode cX7_dealt 26 = .ok (.arraylength, 1) := z_dd_190 (by decide +kernel)
theorem dX7_dealt_27 : decode cX7_dealt 27 = .ok (.if_icmp .ge 40, 3) := z_dd_162 (by decide +kernel)
theorem dX7_dealt_30 : decode cX7_dealt 30 = .ok (.aload_n 0, 1) := z_dd_42 (by decide +kernel)
theorem dX7_dealt_31 : decode cX7_dealt 31 = .ok (.iload_n 3, 1) := z_dd_29 (by decide +kernel)
theorem dX7_dealt_32 : decode cX7_dealt 32 = .ok (.aload_n 2, 1) := z_dd_44 (by decide +kernel)
set_option maxRecDepth 20000 in
theorem ggX7_dealt_X7_holds : GoodIn wsX7_dealt wsX7_holds := goodIn_sub (fa_c (me_s (me_l (me_l (me_l (List.mem_of_getElem? (i := 14) rfl))))) (fa_a (fa_a (fa_a (fa_c (me_s (me_l (me_l (me_l (List.mem_of_getElem? (i := 15) rfl))))) (fa_c (me_s (me_l (me_l (me_l (List.mem_of_getElem? (i := 2) rfl))))) (fa_c (me_s (me_l (me_l (me_l (List.mem_of_getElem? (i := 16) rfl))))) (fa_c (me_s (me_l (me_l (me_l (List.mem_of_getElem? (i := 17) rfl))))) (fa_c (me_s (me_l (me_l (me_l (List.mem_of_getElem? (i := 18) rfl))))) (fa_c (me_s (me_l (me_l (me_l (List.mem_of_getElem? (i := 19) rfl))))) (fa_c (me_s (me_l (me_l (me_l (List.mem_of_getElem? (i := 20) rfl))))) (fa_c (me_s (me_l (me_l (me_l (List.mem_of_getElem? (i := 21) rfl))))) (fa_c (me_s (me_l (me_l (me_l (List.mem_of_getElem? (i := 8) rfl))))) (fa_c (me_s (me_l (me_l (me_l (List.mem_of_getElem? (i := 5) rfl))))) (fa_c (me_s (me_l (me_l (me_l (List.mem_of_getElem? (i := 9) rfl))))) (fa_c (me_s (me_l (me_l (me_l (List.mem_of_getElem? (i := 22) rfl))))) (fa_c (me_s (me_l (me_l (me_l (List.mem_of_getElem? (i := 23) rfl))))) (fa_c (me_s (me_l (me_l (me_r (List.mem_of_getElem? (i := 0) rfl))))) (fa_c (me_s (me_l (me_l (me_r (List.mem_of_getElem? (i := 1) rfl))))) (fa_c (me_s (me_l (me_l (me_r (List.mem_of_getElem? (i := 2) rfl))))) (fa_c (me_s (me_l (me_l (me_r (List.mem_of_getElem? (i := 3) rfl))))) (fa_c (me_s (me_l (me_l (me_r (List.mem_of_getElem? (i := 4) rfl))))) (fa_c (me_s (me_l (me_l (me_r (List.mem_of_getElem? (i := 5) rfl))))) (fa_c (me_s (me_l (me_l (me_r (List.mem_of_getElem? (i := 6) rfl))))) (fa_c (me_s (me_l (me_l (me_r (List.mem_of_getElem? (i := 7) rfl))))) (fa_c (me_s (me_l (me_l (me_r (List.mem_of_getElem? (i := 8) rfl))))) (fa_c (me_s (me_l (me_l (me_r (List.mem_of_getElem? (i := 9) rfl))))) (fa_c (me_s (me_l (me_l (me_r (List.mem_of_getElem? (i := 10) rfl))))) fa_n)))))))))))))))))))))))) (fa_c (me_s (me_l (me_l (me_r (List.mem_of_getElem? (i := 11) rfl))))) (fa_c (me_s (me_l (me_l (me_r (List.mem_of_getElem? (i := 12) rfl))))) (fa_c (me_s (me_l (me_l (me_r (List.mem_of_getElem? (i := 13) rfl))))) (fa_c (me_s (me_l (me_l (me_r (List.mem_of_getElem? (i := 14) rfl))))) fa_n))))) (fun w h => (me_s (me_l (me_r h))))) (fun w h => (me_s (me_r h))))) (by decide +kernel)
set_option maxRecDepth 20000 in
theorem gX7_dealt_X7_holds : GoodIn wsX7_dealt (wsV RX7 57 RX7 yX7_holds wsX7_holds) := goodIn_app (goodIn_sub (fa_c (me_s (me_l (me_l (me_l (List.mem_of_getElem? (i := 10) rfl))))) (fa_c (me_s (me_l (me_l (me_l (List.mem_of_getElem? (i := 11) rfl))))) (fa_c (me_s (me_l (me_l (me_l (List.mem_of_getElem? (i := 12) rfl))))) (fa_c (me_s (me_l (me_l (me_l (List.mem_of_getElem? (i := 13) rfl))))) fa_n)))) (by decide +kernel)) ggX7_dealt_X7_holds
theorem dX7_dealt_33 : decode cX7_dealt 33 = .ok (.invokevirtual 57, 3) := z_dd_182 (by decide +kernel)
theorem dX7_dealt_36 : decode cX7_dealt 36 = .ok (.ifCond .eq 31, 3) := z_dd_153 (by decide +kernel)
theorem dX7_dealt_39 : decode cX7_dealt 39 = .ok (.aload_n 2, 1) := z_dd_44 (by decide +kernel)
theorem dX7_dealt_40 : decode cX7_dealt 40 = .ok (.aload_n 0, 1) := z_dd_42 (by decide +kernel)
theorem dX7_dealt_41 : decode cX7_dealt 41 = .ok (.getfield 52, 3) := z_dd_180 (by decide +kernel)
theorem dX7_dealt_44 : decode cX7_dealt 44 = .ok (.aload_n 0, 1) := z_dd_42 (by decide +kernel)
theorem dX7_dealt_45 : decode cX7_dealt 45 = .ok (.getfield 44, 3) := z_dd_180 (by decide +kernel)
theorem dX7_dealt_48 : decode cX7_dealt 48 = .ok (.iload_n 3, 1) := z_dd_29 (by decide +kernel)
theorem dX7_dealt_49 : decode cX7_dealt 49 = .ok (.iaload, 1) := z_dd_46 (by decide +kernel)
set_option maxRecDepth 20000 in
theorem ggX7_dealt_X5_result : GoodIn wsX7_dealt wsX5_result := goodIn_sub (fa_c (me_s (me_l (me_l (me_l (List.mem_of_getElem? (i := 20) rfl))))) (fa_a (fa_c (me_s (me_l (me_l (me_l (List.mem_of_getElem? (i := 21) rfl))))) (fa_c (me_s (me_l (me_l (me_l (List.mem_of_getElem? (i := 8) rfl))))) (fa_c (me_s (me_l (me_l (me_l (List.mem_of_getElem? (i := 5) rfl))))) (fa_c (me_s (me_l (me_l (me_l (List.mem_of_getElem? (i := 9) rfl))))) (fa_c (me_s (me_l (me_l (me_l (List.mem_of_getElem? (i := 22) rfl))))) (fa_c (me_s (me_l (me_l (me_l (List.mem_of_getElem? (i := 23) rfl))))) (fa_c (me_s (me_l (me_l (me_r (List.mem_of_getElem? (i := 0) rfl))))) (fa_c (me_s (me_l (me_l (me_r (List.mem_of_getElem? (i := 1) rfl))))) (fa_c (me_s (me_l (me_l (me_l (List.mem_of_getElem? (i := 19) rfl))))) (fa_c (me_s (me_l (me_l (me_r (List.mem_of_getElem? (i := 2) rfl))))) (fa_c (me_s (me_l (me_l (me_r (List.mem_of_getElem? (i := 3) rfl))))) (fa_c (me_s (me_l (me_l (me_r (List.mem_of_getElem? (i := 4) rfl))))) (fa_c (me_s (me_l (me_l (me_r (List.mem_of_getElem? (i := 5) rfl))))) (fa_c (me_s (me_l (me_l (me_r (List.mem_of_getElem? (i := 6) rfl))))) (fa_c (me_s (me_l (me_l (me_r (List.mem_of_getElem? (i := 7) rfl))))) (fa_c (me_s (me_l (me_l (me_r (List.mem_of_getElem? (i := 8) rfl))))) (fa_c (me_s (me_l (me_l (me_r (List.mem_of_getElem? (i := 9) rfl))))) (fa_c (me_s (me_l (me_l (me_r (List.mem_of_getElem? (i := 10) rfl))))) (fa_c (me_s (me_l (me_l (me_r (List.mem_of_getElem? (i := 11) rfl))))) (fa_c (me_s (me_l (me_l (me_r (List.mem_of_getElem? (i := 12) rfl))))) (fa_c (me_s (me_l (me_l (me_r (List.mem_of_getElem? (i := 13) rfl))))) (fa_c (me_s (me_l (me_l (me_r (List.mem_of_getElem? (i := 14) rfl))))) fa_n)))))))))))))))))))))) (fun w h => (me_s (me_r h))))) (by decide +kernel)
set_option maxRecDepth 20000 in
theorem gX7_dealt_X5_result : GoodIn wsX7_dealt (wsV RX7 61 RX5 yX5_result wsX5_result) := goodIn_app (goodIn_sub (fa_c (me_s (me_l (me_l (me_l (List.mem_of_getElem? (i := 16) rfl))))) (fa_c (me_s (me_l (me_l (me_l (List.mem_of_getElem? (i := 17) rfl))))) (fa_c (me_s (me_l (me_l (me_l (List.mem_of_getElem? (i := 18) rfl))))) (fa_c (me_s (me_l (me_l (me_l (List.mem_of_getElem? (i := 19) rfl))))) fa_n)))) (by decide +kernel)) ggX7_dealt_X5_result
theorem dX7_dealt_50 : decode cX7_dealt 50 = .ok (.invokevirtual 61, 3) := z_dd_182 (by decide +kernel)
theorem dX7_dealt_53 : decode cX7_dealt 53 = .ok (.istore 4, 2) := z_dd_54 (by decide +kernel)
theorem dX7_dealt_55 : decode cX7_dealt 55 = .ok (.iconst 0, 1) := z_dd_3 (by decide +kernel)
theorem dX7_dealt_56 : decode cX7_dealt 56 = .ok (.bipush 99, 2) := z_dd_16 (by decide +kernel)
theorem dX7_dealt_58 : decode cX7_dealt 58 = .ok (.iload 4, 2) := z_dd_21 (by decide +kernel)
theorem dX7_dealt_60 : decode cX7_dealt 60 = .ok (.invokestatic 67, 3) := z_dd_184 (by decide +kernel)
theorem dX7_dealt_63 : decode cX7_dealt 63 = .ok (.invokestatic 73, 3) := z_dd_184 (by decide +kernel)
theorem dX7_dealt_66 : decode cX7_dealt 66 = .ok (.ireturn, 1) := z_dd_172 (by decide +kernel)
theorem z_lm20 : ((-20) : Int32).toInt = -20 := by decide
theorem z_lm13 : ((-13) : Int32).toInt = -13 := by decide
theorem z_lm12 : ((-12) : Int32).toInt = -12 := by decide
theorem z_lm10 : ((-10) : Int32).toInt = -10 := by decide
theorem z_lm9 : ((-9) : Int32).toInt = -9 := by decide
theorem z_lm8 : ((-8) : Int32).toInt = -8 := by decide
theorem z_lm7 : ((-7) : Int32).toInt = -7 := by decide
theorem z_lm6 : ((-6) : Int32).toInt = -6 := by decide
theorem z_lm5 : ((-5) : Int32).toInt = -5 := by decide
theorem z_lm4 : ((-4) : Int32).toInt = -4 := by decide
theorem z_lm3 : ((-3) : Int32).toInt = -3 := by decide
theorem z_lm2 : ((-2) : Int32).toInt = -2 := by decide
theorem z_l64 : (64 : Int32).toInt = 64 := by decide
theorem z_l302 : (302 : Int32).toInt = 302 := by decide
theorem z_l303 : (303 : Int32).toInt = 303 := by decide
/-! the ORDERS' cells: the k-th lies at 200 + 5 k, its rows behind it -/
noncomputable def z_okc (c : z_C) : Prop := ∀ k, k < c.2.1 → c.2.2.1 k ≤ 24 ∧ c.2.2.2 k ≤ 500
theorem z_so0 {c : z_C} {k : Nat} (hk : k < c.2.1) : shC c (200 + 5 * k) = some (.inr 7) := by
  have h1 : (200 + 5 * k - 200) / 5 = k := by omega
  have h2 : (200 + 5 * k - 200) % 5 = 0 := by omega
  unfold shC
  rw [if_neg (by omega), if_neg (by omega), if_pos ⟨by omega, by rw [h1]; exact hk⟩, if_pos h2]
theorem z_so123 {c : z_C} {k j : Nat} (hk : k < c.2.1) (hj : 1 ≤ j ∧ j ≤ 3) : shC c (200 + 5 * k + j) = some (.inl (.int, c.2.2.1 k)) := by
  have h1 : (200 + 5 * k + j - 200) / 5 = k := by omega
  have h2 : ¬ (200 + 5 * k + j - 200) % 5 = 0 := by omega
  have h3 : ¬ (200 + 5 * k + j - 200) % 5 = 4 := by omega
  unfold shC
  rw [if_neg (by omega), if_neg (by omega), if_pos ⟨by omega, by rw [h1]; exact hk⟩, if_neg h2, if_neg h3, h1]
theorem z_so4 {c : z_C} {k : Nat} (hk : k < c.2.1) : shC c (200 + 5 * k + 4) = some (.inl (.int, c.2.2.2 k)) := by
  have h1 : (200 + 5 * k + 4 - 200) / 5 = k := by omega
  have h2 : ¬ (200 + 5 * k + 4 - 200) % 5 = 0 := by omega
  have h3 : (200 + 5 * k + 4 - 200) % 5 = 4 := by omega
  unfold shC
  rw [if_neg (by omega), if_neg (by omega), if_pos ⟨by omega, by rw [h1]; exact hk⟩, if_neg h2, if_pos h3, h1]
theorem z_pO {c : z_C} {ad : Nat → Nat} {I : z_I} {J : z_J} {k f j : Nat} (hf : z_oo f = some j) (ht : z_tf 7 f = .array .int) : z_v I J (PC c ad) (z_tf 7 f) (200 + 5 * k) f = .ref (ad (200 + 5 * k + j)) := by
  rw [ht]
  show va_rf (PC c ad (200 + 5 * k) f) = _
  unfold PC
  rw [if_neg (by omega), if_neg (by omega), if_pos (by omega), hf]
  rfl
theorem z_p22 {c : z_C} {ad : Nat → Nat} {I : z_I} {J : z_J} {C : String} {j k : Nat} (e : j = k) (hk : k < c.2.1) : z_v I J (PC c ad) (.object C) 22 j = .ref (ad (200 + 5 * k)) := by
  subst e
  show va_rf (PC c ad 22 j) = _
  unfold PC
  rw [if_pos (by omega), if_neg (by omega), if_pos rfl, if_pos hk]
  rfl
theorem z_p22n {c : z_C} {ad : Nat → Nat} {I : z_I} {J : z_J} {C : String} {j : Nat} (hk : ¬ j < c.2.1) : z_v I J (PC c ad) (.object C) 22 j = .null := by
  show va_rf (PC c ad 22 j) = _
  unfold PC
  rw [if_pos (by omega), if_neg (by omega), if_pos rfl, if_neg hk]
  rfl
theorem z_len {n : Nat} (h : n ≤ 1000) : n.toInt32.toInt = (n : Int) := nI_toInt (n := n) (by omega)
noncomputable def z_MvS (l : Launch) (y : MethodName) (ws : List Cond) (rm : Room) (av : List Value) (G : z_G) (u : z_U) (post : z_U → Prop) (mc ms : Nat) : Prop := ∀ sz : Nat, Met l y ws rm (z_PcS G u av sz) (va_Qv post (z_B G (z_A u sz)) (z_A u sz)) mc ms (z_A u sz)
noncomputable def z_MlS (l : Launch) (y : MethodName) (ws : List Cond) (rm : Room) (av : List Value) (G : z_G) (u : z_U) (post : Int64 → z_U → Prop) (mc ms : Nat) : Prop := ∀ sz : Nat, Met l y ws rm (z_PcS G u av sz) (va_Ql post (z_B G (z_A u sz)) (z_A u sz)) mc ms (z_A u sz)
noncomputable def z_un (j : Nat) : Int32 := if j = 0 then 10 else if j = 1 then 1 else if j = 2 then 5 else if j = 3 then 0 else 20
/-- an answer that is an object -/
theorem z_qretO {p : Program} {l : Launch} {e : Env} {R : Room} {s : State} {m : MethodId} {args : Array Value} {below : List Frame} {meth : Method} {c : Code} {H : Heap} {locs : List Loc} {cells slots : Nat} {cc : ByteArray} {pc : Nat} {ls : Array Slot} {G : z_G} {A : Nat → Prop} {mc ms : Nat} {post : Option Nat → z_U → Prop} {a : Nat} {rt : String} (hexec : p.tables.exec = Jvm.exec) (hb : c.code = cc) (hr : meth.sig.returnType = some (.object rt)) (hK : z_K G s) (hS : va_S A s.heap H locs) (hc : cells ≤ mc) (hs : slots ≤ ms) (hlocks : meth.locks = false) (hdg : decode cc pc = .ok (.areturn, 1)) (u1 : z_U) (hW : z_W G A u1 H) (hp : post (some a) u1) : W p l e R s m args below meth c H locs cells slots (MQ below (va_Qq post (z_B G A) A) args s mc ms A) (F0 m pc ls [.ref a]) :=
  W.widen hc hs (W.aret hexec hb hr (Or.inl ⟨_, rfl⟩) (Or.inr ⟨_, rfl⟩) (fun t ht hWm => ⟨⟨some a, u1, rfl, hp, hK.warm hWm, by rw [ht]; exact hW⟩, hS.F ht⟩) hS.2.2 hdg hlocks)
set_option maxHeartbeats 8000000 in
set_option maxRecDepth 100000 in
theorem sx_X11_usual (l : Launch) (G : z_G) (ad : Nat → Nat) (c : z_C) (I : z_I) (a1 : Int32) : z_MS l yX11_usual wsX11_usual { frames := 1, cells := 0, slots := 0, locals := 12 } [.int a1] G (shC c, ad, I, JX, PC c ad) (fun r u1 => u1 = (shC c, ad, I, JX, PC c ad)) 0 0 := by
  intro sz
  refine z_headS (cc := cX11_usual) (maxL := 1) (ret := (some .int)) (by decide) rfl (Nat.le_of_ble_eq_true rfl) ?_
  intro p e s m below meth c0 ls hIn hK hsz hW hl hSt
  obtain ⟨hx, hb, hr, hml, hown, hts, hlocks, hname⟩ := hIn
  subst hsz
  have hown : s.vm.findClass RX11 = some m.cls := hown
  have hA : ∀ q : Nat, s.heap.size ≤ q → z_A (shC c, ad, I, JX, PC c ad) s.heap.size q := fun q h => Or.inr h
  generalize hAe : z_A (shC c, ad, I, JX, PC c ad) s.heap.size = A at *
  have hS : va_S A s.heap s.heap [] := va_S.rf
  have hl : lv_has ls 1 [(0, .int a1)] := hl
  obtain ⟨t0, hZ, hT⟩ := hSt
  refine lv_iload_n hx hb dX11_usual_0 rfl (lv_at hl 0 rfl) ?_
  refine lv_if_lt (tgt := 20) hx hb dX11_usual_1 (by decide) (fun c1 => ?_) (fun c1 => ?_)
  · have g2 := z_f_lt rfl z_l0 c1
    have b3 := Int32.toInt_lt a1
    refine lv_iconst (v := (-1)) hx hb dX11_usual_20 (by decide) ?_
    exact z_iret hx hb hr hK hS (Nat.le_of_ble_eq_true rfl) (Nat.le_of_ble_eq_true rfl) hlocks dX11_usual_21 (shC c, ad, I, JX, PC c ad) hW rfl
  · have g4 := z_f_nlt rfl z_l0 c1
    have b5 := Int32.toInt_lt a1
    refine lv_iload_n hx hb dX11_usual_4 rfl (lv_at hl 0 rfl) ?_
    refine va_gets hx hb hZ hS hown (hts (.fieldLink RX11 426 "PetrolBoard" "USUAL" "[I") (me_s (List.mem_of_getElem? (i := 0) rfl))) (fun _ h => h) dX11_usual_5 ?_
    refine va_tlen (v := 5) hx hb hT hS rfl dX11_usual_8 ?_
    refine lv_icmp_ge (tgt := 20) hx hb dX11_usual_9 (by decide) (fun c6 => ?_) (fun c6 => ?_)
    · have g7 := z_f_ge rfl z_l5 c6
      refine lv_iconst (v := (-1)) hx hb dX11_usual_20 (by decide) ?_
      exact z_iret hx hb hr hK hS (Nat.le_of_ble_eq_true rfl) (Nat.le_of_ble_eq_true rfl) hlocks dX11_usual_21 (shC c, ad, I, JX, PC c ad) hW rfl
    · have g8 := z_f_nge rfl z_l5 c6
      refine va_gets hx hb hZ hS hown (hts (.fieldLink RX11 426 "PetrolBoard" "USUAL" "[I") (me_s (List.mem_of_getElem? (i := 0) rfl))) (fun _ h => h) dX11_usual_12 ?_
      refine lv_iload_n hx hb dX11_usual_15 rfl (lv_at hl 0 rfl) ?_
      refine va_ti (v := .int (z_un (a1 : Int32).toNatClampNeg)) hx hb hT hS (z_ix rfl (by omega) (by omega)) rfl dX11_usual_16 ?_
      refine lv_topi (fun x9 ex9 => ?_)
      refine lv_goto (tgt := 21) hx hb dX11_usual_17 (by decide) ?_
      exact z_iret hx hb hr hK hS (Nat.le_of_ble_eq_true rfl) (Nat.le_of_ble_eq_true rfl) hlocks dX11_usual_21 (shC c, ad, I, JX, PC c ad) hW rfl
theorem zj_X5_nameValue_X5 : ∀ w ∈ wsX50, w ∈ wsX5_nameValue := fun w h => (List.mem_cons_of_mem _ (List.mem_append_right _ h))
set_option maxHeartbeats 8000000 in
set_option maxRecDepth 100000 in
theorem sx_X5_nameValue (l : Launch) (G : z_G) (ad : Nat → Nat) (c : z_C) (I : z_I) (a1 : Int32) : z_M l yX5_nameValue wsX5_nameValue { frames := 1, cells := 0, slots := 0, locals := 12 } [.ref (ad 23), .int a1] G (shC c, ad, I, JX, PC c ad) (fun r u1 => u1 = (shC c, ad, I, JX, PC c ad)) 0 0 := by
  intro sz
  refine z_headQ (cc := cX5_nameValue) (maxL := 2) (ret := (some .int)) (by decide) rfl (Nat.le_of_ble_eq_true rfl) ?_
  intro p e s m below meth c0 ls hIn hK hsz hW hl
  obtain ⟨hx, hb, hr, hml, hown, hts, hlocks, hname⟩ := hIn
  subst hsz
  have hown : s.vm.findClass RX5 = some m.cls := hown
  have hA : ∀ q : Nat, s.heap.size ≤ q → z_A (shC c, ad, I, JX, PC c ad) s.heap.size q := fun q h => Or.inr h
  generalize hAe : z_A (shC c, ad, I, JX, PC c ad) s.heap.size = A at *
  have hS : va_S A s.heap s.heap [] := va_S.rf
  have hl : lv_has ls 2 [(0, .ref (ad 23)), (1, .int a1)] := hl
  refine lv_iload_n hx hb dX5_nameValue_0 rfl (lv_at hl 1 rfl) ?_
  refine lv_if_lt (tgt := 22) hx hb dX5_nameValue_1 (by decide) (fun c1 => ?_) (fun c1 => ?_)
  · have g2 := z_f_lt rfl z_l0 c1
    have b3 := Int32.toInt_lt a1
    refine lv_iconst (v := 0) hx hb dX5_nameValue_22 (by decide) ?_
    exact z_iret hx hb hr hK hS (Nat.le_of_ble_eq_true rfl) (Nat.le_of_ble_eq_true rfl) hlocks dX5_nameValue_23 (shC c, ad, I, JX, PC c ad) hW rfl
  · have g4 := z_f_nlt rfl z_l0 c1
    have b5 := Int32.toInt_lt a1
    refine lv_iload_n hx hb dX5_nameValue_4 rfl (lv_at hl 1 rfl) ?_
    refine lv_aload_n hx hb dX5_nameValue_5 rfl (lv_at hl 0 rfl) ?_
    refine z_get (T := TX5) (N := 2) (ci := 5) (i := 23) (v := .ref (ad 24)) hx hb hts zj_X5_nameValue_X5 hown hK hW rfl rfl 0 (by decide) (hts (.fieldLink RX5 9 "PetrolBoard$Machine" "names" "[I") (me_s (me_l (List.mem_of_getElem? (i := 0) rfl)))) (fun _ h => h) rfl dX5_nameValue_6 ?_
    refine z_alen (i := 24) (v := 7) hx hb hK hW rfl (by simp [z_tys]) (by rfl) dX5_nameValue_9 ?_
    refine lv_icmp_ge (tgt := 22) hx hb dX5_nameValue_10 (by decide) (fun c6 => ?_) (fun c6 => ?_)
    · have g7 := z_f_ge rfl z_l7 c6
      refine lv_iconst (v := 0) hx hb dX5_nameValue_22 (by decide) ?_
      exact z_iret hx hb hr hK hS (Nat.le_of_ble_eq_true rfl) (Nat.le_of_ble_eq_true rfl) hlocks dX5_nameValue_23 (shC c, ad, I, JX, PC c ad) hW rfl
    · have g8 := z_f_nge rfl z_l7 c6
      refine lv_aload_n hx hb dX5_nameValue_13 rfl (lv_at hl 0 rfl) ?_
      refine z_get (T := TX5) (N := 2) (ci := 5) (i := 23) (v := .ref (ad 24)) hx hb hts zj_X5_nameValue_X5 hown hK hW rfl rfl 0 (by decide) (hts (.fieldLink RX5 9 "PetrolBoard$Machine" "names" "[I") (me_s (me_l (List.mem_of_getElem? (i := 0) rfl)))) (fun _ h => h) rfl dX5_nameValue_14 ?_
      refine lv_iload_n hx hb dX5_nameValue_17 rfl (lv_at hl 1 rfl) ?_
      refine z_iald (i := 24) hx hb hK hW rfl (z_ix rfl (by omega) (by omega)) dX5_nameValue_18 ?_
      refine lv_topi (fun x9 ex9 => ?_)
      refine lv_goto (tgt := 23) hx hb dX5_nameValue_19 (by decide) ?_
      exact z_iret hx hb hr hK hS (Nat.le_of_ble_eq_true rfl) (Nat.le_of_ble_eq_true rfl) hlocks dX5_nameValue_23 (shC c, ad, I, JX, PC c ad) hW rfl
set_option maxHeartbeats 8000000 in
set_option maxRecDepth 100000 in
theorem sx_X5_joined (l : Launch) (G : z_G) (ad : Nat → Nat) (c : z_C) (I : z_I) (a1 : Int32) (a2 : Int32) (a3 : Int32) : z_M l yX5_joined wsX5_joined { frames := 1, cells := 0, slots := 0, locals := 40 } [.int a1, .int a2, .int a3] G (shC c, ad, I, JX, PC c ad) (fun r u1 => u1 = (shC c, ad, I, JX, PC c ad)) 0 0 := by
  intro sz
  refine z_headQ (cc := cX5_joined) (maxL := 5) (ret := (some .int)) (by decide) rfl (Nat.le_of_ble_eq_true rfl) ?_
  intro p e s m below meth c0 ls hIn hK hsz hW hl
  obtain ⟨hx, hb, hr, hml, hown, hts, hlocks, hname⟩ := hIn
  subst hsz
  have hown : s.vm.findClass RX5 = some m.cls := hown
  have hA : ∀ q : Nat, s.heap.size ≤ q → z_A (shC c, ad, I, JX, PC c ad) s.heap.size q := fun q h => Or.inr h
  generalize hAe : z_A (shC c, ad, I, JX, PC c ad) s.heap.size = A at *
  have hS : va_S A s.heap s.heap [] := va_S.rf
  have hl : lv_has ls 5 [(0, .int a1), (1, .int a2), (2, .int a3)] := hl
  refine lv_iload_n hx hb dX5_joined_0 rfl (lv_at hl 0 rfl) ?_
  by_cases q1 : a1 = (-10)
  · refine lv_tableIn (tgt := 173) hx hb dX5_joined_1 (by rw [q1]; decide) (by rw [q1]; decide) (by rw [q1]; rfl) (by decide) ?_
    refine lv_iload_n hx hb dX5_joined_173 rfl (lv_at hl 1 rfl) ?_
    refine lv_iload_n hx hb dX5_joined_174 rfl (lv_at hl 2 rfl) ?_
    refine lv_iand hx hb dX5_joined_175 ?_
    refine lv_topi (fun x2 ex2 => ?_)
    refine lv_i2l (v := x2.toInt64) hx hb dX5_joined_176 rfl ?_
    refine lv_topl (fun w3 ew3 => ?_)
    refine lv_lstore_n (lv' := [(3, .long w3), (0, .int a1), (1, .int a2), (2, .int a3)]) hx hb dX5_joined_177 rfl hl (by decide) rfl (fun ls hl => ?_)
    refine lv_goto (tgt := 186) hx hb dX5_joined_178 (by decide) ?_
    refine lv_ldc2 (v := (-1000000000)) hx hb hown (hts (.constantLong RX5 32 (-1000000000)) (me_s (List.mem_of_getElem? (i := 0) rfl))) dX5_joined_186 ?_
    refine lv_ldc2 (v := 1000000000) hx hb hown (hts (.constantLong RX5 34 (1000000000)) (me_s (List.mem_of_getElem? (i := 1) rfl))) dX5_joined_189 ?_
    refine lv_lload_n hx hb dX5_joined_192 rfl (lv_at hl 0 rfl) ?_
    refine va_mmin_long (x := 1000000000) (y := w3) hx hb (hml.trans hl.1.symm) hown (hts (.methodLink RX5 36 Lib.MathLoose.min_long.x) (me_s (List.mem_of_getElem? (i := 2) rfl))) (hts (.static Lib.MathLoose.min_long.x) (me_s (List.mem_of_getElem? (i := 3) rfl))) (hts (.initialized "java/lang/Math") (me_s (List.mem_of_getElem? (i := 4) rfl))) (hts (.code Lib.MathLoose.min_long.x Lib.MathLoose.min_long.code 4 (some .long)) (me_s (List.mem_of_getElem? (i := 5) rfl))) (Nat.le_of_ble_eq_true rfl) (Nat.le_of_ble_eq_true rfl) (Nat.le_of_ble_eq_true rfl) (Nat.le_of_ble_eq_true rfl) dX5_joined_193 ?_
    refine lv_topl (fun w4 ew4 => ?_)
    refine va_mmax_long (x := (-1000000000)) (y := w4) hx hb (hml.trans hl.1.symm) hown (hts (.methodLink RX5 40 Lib.MathLoose.max_long.x) (me_s (List.mem_of_getElem? (i := 6) rfl))) (hts (.static Lib.MathLoose.max_long.x) (me_s (List.mem_of_getElem? (i := 7) rfl))) (hts (.initialized "java/lang/Math") (me_s (List.mem_of_getElem? (i := 4) rfl))) (hts (.code Lib.MathLoose.max_long.x Lib.MathLoose.max_long.code 4 (some .long)) (me_s (List.mem_of_getElem? (i := 8) rfl))) (Nat.le_of_ble_eq_true rfl) (Nat.le_of_ble_eq_true rfl) (Nat.le_of_ble_eq_true rfl) (Nat.le_of_ble_eq_true rfl) dX5_joined_196 ?_
    refine lv_topl (fun w5 ew5 => ?_)
    refine lv_l2i (v := w5.toInt32) hx hb dX5_joined_199 rfl ?_
    refine lv_topi (fun x6 ex6 => ?_)
    exact z_iret hx hb hr hK hS (Nat.le_of_ble_eq_true rfl) (Nat.le_of_ble_eq_true rfl) hlocks dX5_joined_200 (shC c, ad, I, JX, PC c ad) hW rfl
  by_cases q7 : a1 = (-9)
  · refine lv_tableIn (tgt := 159) hx hb dX5_joined_1 (by rw [q7]; decide) (by rw [q7]; decide) (by rw [q7]; rfl) (by decide) ?_
    refine lv_iload_n hx hb dX5_joined_159 rfl (lv_at hl 1 rfl) ?_
    refine lv_iload_n hx hb dX5_joined_160 rfl (lv_at hl 2 rfl) ?_
    refine lv_icmp_ne (tgt := 168) hx hb dX5_joined_161 (by decide) (fun c8 => ?_) (fun c8 => ?_)
    · have g9 := z_f_ne rfl rfl c8
      have b10 := Int32.toInt_lt a2
      have b11 := Int32.toInt_lt a3
      refine lv_lconst (v := 0) hx hb dX5_joined_168 (by decide) ?_
      refine lv_lstore_n (lv' := [(3, .long 0), (0, .int a1), (1, .int a2), (2, .int a3)]) hx hb dX5_joined_169 rfl hl (by decide) rfl (fun ls hl => ?_)
      refine lv_goto (tgt := 186) hx hb dX5_joined_170 (by decide) ?_
      refine lv_ldc2 (v := (-1000000000)) hx hb hown (hts (.constantLong RX5 32 (-1000000000)) (me_s (List.mem_of_getElem? (i := 0) rfl))) dX5_joined_186 ?_
      refine lv_ldc2 (v := 1000000000) hx hb hown (hts (.constantLong RX5 34 (1000000000)) (me_s (List.mem_of_getElem? (i := 1) rfl))) dX5_joined_189 ?_
      refine lv_lload_n hx hb dX5_joined_192 rfl (lv_at hl 0 rfl) ?_
      refine va_mmin_long (x := 1000000000) (y := 0) hx hb (hml.trans hl.1.symm) hown (hts (.methodLink RX5 36 Lib.MathLoose.min_long.x) (me_s (List.mem_of_getElem? (i := 2) rfl))) (hts (.static Lib.MathLoose.min_long.x) (me_s (List.mem_of_getElem? (i := 3) rfl))) (hts (.initialized "java/lang/Math") (me_s (List.mem_of_getElem? (i := 4) rfl))) (hts (.code Lib.MathLoose.min_long.x Lib.MathLoose.min_long.code 4 (some .long)) (me_s (List.mem_of_getElem? (i := 5) rfl))) (Nat.le_of_ble_eq_true rfl) (Nat.le_of_ble_eq_true rfl) (Nat.le_of_ble_eq_true rfl) (Nat.le_of_ble_eq_true rfl) dX5_joined_193 ?_
      refine lv_topl (fun w12 ew12 => ?_)
      refine va_mmax_long (x := (-1000000000)) (y := w12) hx hb (hml.trans hl.1.symm) hown (hts (.methodLink RX5 40 Lib.MathLoose.max_long.x) (me_s (List.mem_of_getElem? (i := 6) rfl))) (hts (.static Lib.MathLoose.max_long.x) (me_s (List.mem_of_getElem? (i := 7) rfl))) (hts (.initialized "java/lang/Math") (me_s (List.mem_of_getElem? (i := 4) rfl))) (hts (.code Lib.MathLoose.max_long.x Lib.MathLoose.max_long.code 4 (some .long)) (me_s (List.mem_of_getElem? (i := 8) rfl))) (Nat.le_of_ble_eq_true rfl) (Nat.le_of_ble_eq_true rfl) (Nat.le_of_ble_eq_true rfl) (Nat.le_of_ble_eq_true rfl) dX5_joined_196 ?_
      refine lv_topl (fun w13 ew13 => ?_)
      refine lv_l2i (v := w13.toInt32) hx hb dX5_joined_199 rfl ?_
      refine lv_topi (fun x14 ex14 => ?_)
      exact z_iret hx hb hr hK hS (Nat.le_of_ble_eq_true rfl) (Nat.le_of_ble_eq_true rfl) hlocks dX5_joined_200 (shC c, ad, I, JX, PC c ad) hW rfl
    · have g15 := z_f_eq rfl rfl c8
      have b16 := Int32.toInt_lt a2
      have b17 := Int32.toInt_lt a3
      refine lv_lconst (v := 1) hx hb dX5_joined_164 (by decide) ?_
      refine lv_goto (tgt := 169) hx hb dX5_joined_165 (by decide) ?_
      refine lv_lstore_n (lv' := [(3, .long 1), (0, .int a1), (1, .int a2), (2, .int a3)]) hx hb dX5_joined_169 rfl hl (by decide) rfl (fun ls hl => ?_)
      refine lv_goto (tgt := 186) hx hb dX5_joined_170 (by decide) ?_
      refine lv_ldc2 (v := (-1000000000)) hx hb hown (hts (.constantLong RX5 32 (-1000000000)) (me_s (List.mem_of_getElem? (i := 0) rfl))) dX5_joined_186 ?_
      refine lv_ldc2 (v := 1000000000) hx hb hown (hts (.constantLong RX5 34 (1000000000)) (me_s (List.mem_of_getElem? (i := 1) rfl))) dX5_joined_189 ?_
      refine lv_lload_n hx hb dX5_joined_192 rfl (lv_at hl 0 rfl) ?_
      refine va_mmin_long (x := 1000000000) (y := 1) hx hb (hml.trans hl.1.symm) hown (hts (.methodLink RX5 36 Lib.MathLoose.min_long.x) (me_s (List.mem_of_getElem? (i := 2) rfl))) (hts (.static Lib.MathLoose.min_long.x) (me_s (List.mem_of_getElem? (i := 3) rfl))) (hts (.initialized "java/lang/Math") (me_s (List.mem_of_getElem? (i := 4) rfl))) (hts (.code Lib.MathLoose.min_long.x Lib.MathLoose.min_long.code 4 (some .long)) (me_s (List.mem_of_getElem? (i := 5) rfl))) (Nat.le_of_ble_eq_true rfl) (Nat.le_of_ble_eq_true rfl) (Nat.le_of_ble_eq_true rfl) (Nat.le_of_ble_eq_true rfl) dX5_joined_193 ?_
      refine lv_topl (fun w18 ew18 => ?_)
      refine va_mmax_long (x := (-1000000000)) (y := w18) hx hb (hml.trans hl.1.symm) hown (hts (.methodLink RX5 40 Lib.MathLoose.max_long.x) (me_s (List.mem_of_getElem? (i := 6) rfl))) (hts (.static Lib.MathLoose.max_long.x) (me_s (List.mem_of_getElem? (i := 7) rfl))) (hts (.initialized "java/lang/Math") (me_s (List.mem_of_getElem? (i := 4) rfl))) (hts (.code Lib.MathLoose.max_long.x Lib.MathLoose.max_long.code 4 (some .long)) (me_s (List.mem_of_getElem? (i := 8) rfl))) (Nat.le_of_ble_eq_true rfl) (Nat.le_of_ble_eq_true rfl) (Nat.le_of_ble_eq_true rfl) (Nat.le_of_ble_eq_true rfl) dX5_joined_196 ?_
      refine lv_topl (fun w19 ew19 => ?_)
      refine lv_l2i (v := w19.toInt32) hx hb dX5_joined_199 rfl ?_
      refine lv_topi (fun x20 ex20 => ?_)
      exact z_iret hx hb hr hK hS (Nat.le_of_ble_eq_true rfl) (Nat.le_of_ble_eq_true rfl) hlocks dX5_joined_200 (shC c, ad, I, JX, PC c ad) hW rfl
  by_cases q21 : a1 = (-8)
  · refine lv_tableIn (tgt := 145) hx hb dX5_joined_1 (by rw [q21]; decide) (by rw [q21]; decide) (by rw [q21]; rfl) (by decide) ?_
    refine lv_iload_n hx hb dX5_joined_145 rfl (lv_at hl 1 rfl) ?_
    refine lv_iload_n hx hb dX5_joined_146 rfl (lv_at hl 2 rfl) ?_
    refine lv_icmp_le (tgt := 154) hx hb dX5_joined_147 (by decide) (fun c22 => ?_) (fun c22 => ?_)
    · have g23 := z_f_le rfl rfl c22
      have b24 := Int32.toInt_lt a2
      have b25 := Int32.toInt_lt a3
      refine lv_lconst (v := 0) hx hb dX5_joined_154 (by decide) ?_
      refine lv_lstore_n (lv' := [(3, .long 0), (0, .int a1), (1, .int a2), (2, .int a3)]) hx hb dX5_joined_155 rfl hl (by decide) rfl (fun ls hl => ?_)
      refine lv_goto (tgt := 186) hx hb dX5_joined_156 (by decide) ?_
      refine lv_ldc2 (v := (-1000000000)) hx hb hown (hts (.constantLong RX5 32 (-1000000000)) (me_s (List.mem_of_getElem? (i := 0) rfl))) dX5_joined_186 ?_
      refine lv_ldc2 (v := 1000000000) hx hb hown (hts (.constantLong RX5 34 (1000000000)) (me_s (List.mem_of_getElem? (i := 1) rfl))) dX5_joined_189 ?_
      refine lv_lload_n hx hb dX5_joined_192 rfl (lv_at hl 0 rfl) ?_
      refine va_mmin_long (x := 1000000000) (y := 0) hx hb (hml.trans hl.1.symm) hown (hts (.methodLink RX5 36 Lib.MathLoose.min_long.x) (me_s (List.mem_of_getElem? (i := 2) rfl))) (hts (.static Lib.MathLoose.min_long.x) (me_s (List.mem_of_getElem? (i := 3) rfl))) (hts (.initialized "java/lang/Math") (me_s (List.mem_of_getElem? (i := 4) rfl))) (hts (.code Lib.MathLoose.min_long.x Lib.MathLoose.min_long.code 4 (some .long)) (me_s (List.mem_of_getElem? (i := 5) rfl))) (Nat.le_of_ble_eq_true rfl) (Nat.le_of_ble_eq_true rfl) (Nat.le_of_ble_eq_true rfl) (Nat.le_of_ble_eq_true rfl) dX5_joined_193 ?_
      refine lv_topl (fun w26 ew26 => ?_)
      refine va_mmax_long (x := (-1000000000)) (y := w26) hx hb (hml.trans hl.1.symm) hown (hts (.methodLink RX5 40 Lib.MathLoose.max_long.x) (me_s (List.mem_of_getElem? (i := 6) rfl))) (hts (.static Lib.MathLoose.max_long.x) (me_s (List.mem_of_getElem? (i := 7) rfl))) (hts (.initialized "java/lang/Math") (me_s (List.mem_of_getElem? (i := 4) rfl))) (hts (.code Lib.MathLoose.max_long.x Lib.MathLoose.max_long.code 4 (some .long)) (me_s (List.mem_of_getElem? (i := 8) rfl))) (Nat.le_of_ble_eq_true rfl) (Nat.le_of_ble_eq_true rfl) (Nat.le_of_ble_eq_true rfl) (Nat.le_of_ble_eq_true rfl) dX5_joined_196 ?_
      refine lv_topl (fun w27 ew27 => ?_)
      refine lv_l2i (v := w27.toInt32) hx hb dX5_joined_199 rfl ?_
      refine lv_topi (fun x28 ex28 => ?_)
      exact z_iret hx hb hr hK hS (Nat.le_of_ble_eq_true rfl) (Nat.le_of_ble_eq_true rfl) hlocks dX5_joined_200 (shC c, ad, I, JX, PC c ad) hW rfl
    · have g29 := z_f_nle rfl rfl c22
      have b30 := Int32.toInt_lt a2
      have b31 := Int32.toInt_lt a3
      refine lv_lconst (v := 1) hx hb dX5_joined_150 (by decide) ?_
      refine lv_goto (tgt := 155) hx hb dX5_joined_151 (by decide) ?_
      refine lv_lstore_n (lv' := [(3, .long 1), (0, .int a1), (1, .int a2), (2, .int a3)]) hx hb dX5_joined_155 rfl hl (by decide) rfl (fun ls hl => ?_)
      refine lv_goto (tgt := 186) hx hb dX5_joined_156 (by decide) ?_
      refine lv_ldc2 (v := (-1000000000)) hx hb hown (hts (.constantLong RX5 32 (-1000000000)) (me_s (List.mem_of_getElem? (i := 0) rfl))) dX5_joined_186 ?_
      refine lv_ldc2 (v := 1000000000) hx hb hown (hts (.constantLong RX5 34 (1000000000)) (me_s (List.mem_of_getElem? (i := 1) rfl))) dX5_joined_189 ?_
      refine lv_lload_n hx hb dX5_joined_192 rfl (lv_at hl 0 rfl) ?_
      refine va_mmin_long (x := 1000000000) (y := 1) hx hb (hml.trans hl.1.symm) hown (hts (.methodLink RX5 36 Lib.MathLoose.min_long.x) (me_s (List.mem_of_getElem? (i := 2) rfl))) (hts (.static Lib.MathLoose.min_long.x) (me_s (List.mem_of_getElem? (i := 3) rfl))) (hts (.initialized "java/lang/Math") (me_s (List.mem_of_getElem? (i := 4) rfl))) (hts (.code Lib.MathLoose.min_long.x Lib.MathLoose.min_long.code 4 (some .long)) (me_s (List.mem_of_getElem? (i := 5) rfl))) (Nat.le_of_ble_eq_true rfl) (Nat.le_of_ble_eq_true rfl) (Nat.le_of_ble_eq_true rfl) (Nat.le_of_ble_eq_true rfl) dX5_joined_193 ?_
      refine lv_topl (fun w32 ew32 => ?_)
      refine va_mmax_long (x := (-1000000000)) (y := w32) hx hb (hml.trans hl.1.symm) hown (hts (.methodLink RX5 40 Lib.MathLoose.max_long.x) (me_s (List.mem_of_getElem? (i := 6) rfl))) (hts (.static Lib.MathLoose.max_long.x) (me_s (List.mem_of_getElem? (i := 7) rfl))) (hts (.initialized "java/lang/Math") (me_s (List.mem_of_getElem? (i := 4) rfl))) (hts (.code Lib.MathLoose.max_long.x Lib.MathLoose.max_long.code 4 (some .long)) (me_s (List.mem_of_getElem? (i := 8) rfl))) (Nat.le_of_ble_eq_true rfl) (Nat.le_of_ble_eq_true rfl) (Nat.le_of_ble_eq_true rfl) (Nat.le_of_ble_eq_true rfl) dX5_joined_196 ?_
      refine lv_topl (fun w33 ew33 => ?_)
      refine lv_l2i (v := w33.toInt32) hx hb dX5_joined_199 rfl ?_
      refine lv_topi (fun x34 ex34 => ?_)
      exact z_iret hx hb hr hK hS (Nat.le_of_ble_eq_true rfl) (Nat.le_of_ble_eq_true rfl) hlocks dX5_joined_200 (shC c, ad, I, JX, PC c ad) hW rfl
  by_cases q35 : a1 = (-7)
  · refine lv_tableIn (tgt := 131) hx hb dX5_joined_1 (by rw [q35]; decide) (by rw [q35]; decide) (by rw [q35]; rfl) (by decide) ?_
    refine lv_iload_n hx hb dX5_joined_131 rfl (lv_at hl 1 rfl) ?_
    refine lv_iload_n hx hb dX5_joined_132 rfl (lv_at hl 2 rfl) ?_
    refine lv_icmp_ge (tgt := 140) hx hb dX5_joined_133 (by decide) (fun c36 => ?_) (fun c36 => ?_)
    · have g37 := z_f_ge rfl rfl c36
      have b38 := Int32.toInt_lt a2
      have b39 := Int32.toInt_lt a3
      refine lv_lconst (v := 0) hx hb dX5_joined_140 (by decide) ?_
      refine lv_lstore_n (lv' := [(3, .long 0), (0, .int a1), (1, .int a2), (2, .int a3)]) hx hb dX5_joined_141 rfl hl (by decide) rfl (fun ls hl => ?_)
      refine lv_goto (tgt := 186) hx hb dX5_joined_142 (by decide) ?_
      refine lv_ldc2 (v := (-1000000000)) hx hb hown (hts (.constantLong RX5 32 (-1000000000)) (me_s (List.mem_of_getElem? (i := 0) rfl))) dX5_joined_186 ?_
      refine lv_ldc2 (v := 1000000000) hx hb hown (hts (.constantLong RX5 34 (1000000000)) (me_s (List.mem_of_getElem? (i := 1) rfl))) dX5_joined_189 ?_
      refine lv_lload_n hx hb dX5_joined_192 rfl (lv_at hl 0 rfl) ?_
      refine va_mmin_long (x := 1000000000) (y := 0) hx hb (hml.trans hl.1.symm) hown (hts (.methodLink RX5 36 Lib.MathLoose.min_long.x) (me_s (List.mem_of_getElem? (i := 2) rfl))) (hts (.static Lib.MathLoose.min_long.x) (me_s (List.mem_of_getElem? (i := 3) rfl))) (hts (.initialized "java/lang/Math") (me_s (List.mem_of_getElem? (i := 4) rfl))) (hts (.code Lib.MathLoose.min_long.x Lib.MathLoose.min_long.code 4 (some .long)) (me_s (List.mem_of_getElem? (i := 5) rfl))) (Nat.le_of_ble_eq_true rfl) (Nat.le_of_ble_eq_true rfl) (Nat.le_of_ble_eq_true rfl) (Nat.le_of_ble_eq_true rfl) dX5_joined_193 ?_
      refine lv_topl (fun w40 ew40 => ?_)
      refine va_mmax_long (x := (-1000000000)) (y := w40) hx hb (hml.trans hl.1.symm) hown (hts (.methodLink RX5 40 Lib.MathLoose.max_long.x) (me_s (List.mem_of_getElem? (i := 6) rfl))) (hts (.static Lib.MathLoose.max_long.x) (me_s (List.mem_of_getElem? (i := 7) rfl))) (hts (.initialized "java/lang/Math") (me_s (List.mem_of_getElem? (i := 4) rfl))) (hts (.code Lib.MathLoose.max_long.x Lib.MathLoose.max_long.code 4 (some .long)) (me_s (List.mem_of_getElem? (i := 8) rfl))) (Nat.le_of_ble_eq_true rfl) (Nat.le_of_ble_eq_true rfl) (Nat.le_of_ble_eq_true rfl) (Nat.le_of_ble_eq_true rfl) dX5_joined_196 ?_
      refine lv_topl (fun w41 ew41 => ?_)
      refine lv_l2i (v := w41.toInt32) hx hb dX5_joined_199 rfl ?_
      refine lv_topi (fun x42 ex42 => ?_)
      exact z_iret hx hb hr hK hS (Nat.le_of_ble_eq_true rfl) (Nat.le_of_ble_eq_true rfl) hlocks dX5_joined_200 (shC c, ad, I, JX, PC c ad) hW rfl
    · have g43 := z_f_nge rfl rfl c36
      have b44 := Int32.toInt_lt a2
      have b45 := Int32.toInt_lt a3
      refine lv_lconst (v := 1) hx hb dX5_joined_136 (by decide) ?_
      refine lv_goto (tgt := 141) hx hb dX5_joined_137 (by decide) ?_
      refine lv_lstore_n (lv' := [(3, .long 1), (0, .int a1), (1, .int a2), (2, .int a3)]) hx hb dX5_joined_141 rfl hl (by decide) rfl (fun ls hl => ?_)
      refine lv_goto (tgt := 186) hx hb dX5_joined_142 (by decide) ?_
      refine lv_ldc2 (v := (-1000000000)) hx hb hown (hts (.constantLong RX5 32 (-1000000000)) (me_s (List.mem_of_getElem? (i := 0) rfl))) dX5_joined_186 ?_
      refine lv_ldc2 (v := 1000000000) hx hb hown (hts (.constantLong RX5 34 (1000000000)) (me_s (List.mem_of_getElem? (i := 1) rfl))) dX5_joined_189 ?_
      refine lv_lload_n hx hb dX5_joined_192 rfl (lv_at hl 0 rfl) ?_
      refine va_mmin_long (x := 1000000000) (y := 1) hx hb (hml.trans hl.1.symm) hown (hts (.methodLink RX5 36 Lib.MathLoose.min_long.x) (me_s (List.mem_of_getElem? (i := 2) rfl))) (hts (.static Lib.MathLoose.min_long.x) (me_s (List.mem_of_getElem? (i := 3) rfl))) (hts (.initialized "java/lang/Math") (me_s (List.mem_of_getElem? (i := 4) rfl))) (hts (.code Lib.MathLoose.min_long.x Lib.MathLoose.min_long.code 4 (some .long)) (me_s (List.mem_of_getElem? (i := 5) rfl))) (Nat.le_of_ble_eq_true rfl) (Nat.le_of_ble_eq_true rfl) (Nat.le_of_ble_eq_true rfl) (Nat.le_of_ble_eq_true rfl) dX5_joined_193 ?_
      refine lv_topl (fun w46 ew46 => ?_)
      refine va_mmax_long (x := (-1000000000)) (y := w46) hx hb (hml.trans hl.1.symm) hown (hts (.methodLink RX5 40 Lib.MathLoose.max_long.x) (me_s (List.mem_of_getElem? (i := 6) rfl))) (hts (.static Lib.MathLoose.max_long.x) (me_s (List.mem_of_getElem? (i := 7) rfl))) (hts (.initialized "java/lang/Math") (me_s (List.mem_of_getElem? (i := 4) rfl))) (hts (.code Lib.MathLoose.max_long.x Lib.MathLoose.max_long.code 4 (some .long)) (me_s (List.mem_of_getElem? (i := 8) rfl))) (Nat.le_of_ble_eq_true rfl) (Nat.le_of_ble_eq_true rfl) (Nat.le_of_ble_eq_true rfl) (Nat.le_of_ble_eq_true rfl) dX5_joined_196 ?_
      refine lv_topl (fun w47 ew47 => ?_)
      refine lv_l2i (v := w47.toInt32) hx hb dX5_joined_199 rfl ?_
      refine lv_topi (fun x48 ex48 => ?_)
      exact z_iret hx hb hr hK hS (Nat.le_of_ble_eq_true rfl) (Nat.le_of_ble_eq_true rfl) hlocks dX5_joined_200 (shC c, ad, I, JX, PC c ad) hW rfl
  by_cases q49 : a1 = (-6)
  · refine lv_tableIn (tgt := 115) hx hb dX5_joined_1 (by rw [q49]; decide) (by rw [q49]; decide) (by rw [q49]; rfl) (by decide) ?_
    refine lv_iload_n hx hb dX5_joined_115 rfl (lv_at hl 1 rfl) ?_
    refine lv_iload_n hx hb dX5_joined_116 rfl (lv_at hl 2 rfl) ?_
    refine lv_icmp_le (tgt := 125) hx hb dX5_joined_117 (by decide) (fun c50 => ?_) (fun c50 => ?_)
    · have g51 := z_f_le rfl rfl c50
      have b52 := Int32.toInt_lt a2
      have b53 := Int32.toInt_lt a3
      refine lv_iload_n hx hb dX5_joined_125 rfl (lv_at hl 2 rfl) ?_
      refine lv_i2l (v := a3.toInt64) hx hb dX5_joined_126 rfl ?_
      refine lv_topl (fun w54 ew54 => ?_)
      refine lv_lstore_n (lv' := [(3, .long w54), (0, .int a1), (1, .int a2), (2, .int a3)]) hx hb dX5_joined_127 rfl hl (by decide) rfl (fun ls hl => ?_)
      refine lv_goto (tgt := 186) hx hb dX5_joined_128 (by decide) ?_
      refine lv_ldc2 (v := (-1000000000)) hx hb hown (hts (.constantLong RX5 32 (-1000000000)) (me_s (List.mem_of_getElem? (i := 0) rfl))) dX5_joined_186 ?_
      refine lv_ldc2 (v := 1000000000) hx hb hown (hts (.constantLong RX5 34 (1000000000)) (me_s (List.mem_of_getElem? (i := 1) rfl))) dX5_joined_189 ?_
      refine lv_lload_n hx hb dX5_joined_192 rfl (lv_at hl 0 rfl) ?_
      refine va_mmin_long (x := 1000000000) (y := w54) hx hb (hml.trans hl.1.symm) hown (hts (.methodLink RX5 36 Lib.MathLoose.min_long.x) (me_s (List.mem_of_getElem? (i := 2) rfl))) (hts (.static Lib.MathLoose.min_long.x) (me_s (List.mem_of_getElem? (i := 3) rfl))) (hts (.initialized "java/lang/Math") (me_s (List.mem_of_getElem? (i := 4) rfl))) (hts (.code Lib.MathLoose.min_long.x Lib.MathLoose.min_long.code 4 (some .long)) (me_s (List.mem_of_getElem? (i := 5) rfl))) (Nat.le_of_ble_eq_true rfl) (Nat.le_of_ble_eq_true rfl) (Nat.le_of_ble_eq_true rfl) (Nat.le_of_ble_eq_true rfl) dX5_joined_193 ?_
      refine lv_topl (fun w55 ew55 => ?_)
      refine va_mmax_long (x := (-1000000000)) (y := w55) hx hb (hml.trans hl.1.symm) hown (hts (.methodLink RX5 40 Lib.MathLoose.max_long.x) (me_s (List.mem_of_getElem? (i := 6) rfl))) (hts (.static Lib.MathLoose.max_long.x) (me_s (List.mem_of_getElem? (i := 7) rfl))) (hts (.initialized "java/lang/Math") (me_s (List.mem_of_getElem? (i := 4) rfl))) (hts (.code Lib.MathLoose.max_long.x Lib.MathLoose.max_long.code 4 (some .long)) (me_s (List.mem_of_getElem? (i := 8) rfl))) (Nat.le_of_ble_eq_true rfl) (Nat.le_of_ble_eq_true rfl) (Nat.le_of_ble_eq_true rfl) (Nat.le_of_ble_eq_true rfl) dX5_joined_196 ?_
      refine lv_topl (fun w56 ew56 => ?_)
      refine lv_l2i (v := w56.toInt32) hx hb dX5_joined_199 rfl ?_
      refine lv_topi (fun x57 ex57 => ?_)
      exact z_iret hx hb hr hK hS (Nat.le_of_ble_eq_true rfl) (Nat.le_of_ble_eq_true rfl) hlocks dX5_joined_200 (shC c, ad, I, JX, PC c ad) hW rfl
    · have g58 := z_f_nle rfl rfl c50
      have b59 := Int32.toInt_lt a2
      have b60 := Int32.toInt_lt a3
      refine lv_iload_n hx hb dX5_joined_120 rfl (lv_at hl 1 rfl) ?_
      refine lv_i2l (v := a2.toInt64) hx hb dX5_joined_121 rfl ?_
      refine lv_topl (fun w61 ew61 => ?_)
      refine lv_goto (tgt := 127) hx hb dX5_joined_122 (by decide) ?_
      refine lv_lstore_n (lv' := [(3, .long w61), (0, .int a1), (1, .int a2), (2, .int a3)]) hx hb dX5_joined_127 rfl hl (by decide) rfl (fun ls hl => ?_)
      refine lv_goto (tgt := 186) hx hb dX5_joined_128 (by decide) ?_
      refine lv_ldc2 (v := (-1000000000)) hx hb hown (hts (.constantLong RX5 32 (-1000000000)) (me_s (List.mem_of_getElem? (i := 0) rfl))) dX5_joined_186 ?_
      refine lv_ldc2 (v := 1000000000) hx hb hown (hts (.constantLong RX5 34 (1000000000)) (me_s (List.mem_of_getElem? (i := 1) rfl))) dX5_joined_189 ?_
      refine lv_lload_n hx hb dX5_joined_192 rfl (lv_at hl 0 rfl) ?_
      refine va_mmin_long (x := 1000000000) (y := w61) hx hb (hml.trans hl.1.symm) hown (hts (.methodLink RX5 36 Lib.MathLoose.min_long.x) (me_s (List.mem_of_getElem? (i := 2) rfl))) (hts (.static Lib.MathLoose.min_long.x) (me_s (List.mem_of_getElem? (i := 3) rfl))) (hts (.initialized "java/lang/Math") (me_s (List.mem_of_getElem? (i := 4) rfl))) (hts (.code Lib.MathLoose.min_long.x Lib.MathLoose.min_long.code 4 (some .long)) (me_s (List.mem_of_getElem? (i := 5) rfl))) (Nat.le_of_ble_eq_true rfl) (Nat.le_of_ble_eq_true rfl) (Nat.le_of_ble_eq_true rfl) (Nat.le_of_ble_eq_true rfl) dX5_joined_193 ?_
      refine lv_topl (fun w62 ew62 => ?_)
      refine va_mmax_long (x := (-1000000000)) (y := w62) hx hb (hml.trans hl.1.symm) hown (hts (.methodLink RX5 40 Lib.MathLoose.max_long.x) (me_s (List.mem_of_getElem? (i := 6) rfl))) (hts (.static Lib.MathLoose.max_long.x) (me_s (List.mem_of_getElem? (i := 7) rfl))) (hts (.initialized "java/lang/Math") (me_s (List.mem_of_getElem? (i := 4) rfl))) (hts (.code Lib.MathLoose.max_long.x Lib.MathLoose.max_long.code 4 (some .long)) (me_s (List.mem_of_getElem? (i := 8) rfl))) (Nat.le_of_ble_eq_true rfl) (Nat.le_of_ble_eq_true rfl) (Nat.le_of_ble_eq_true rfl) (Nat.le_of_ble_eq_true rfl) dX5_joined_196 ?_
      refine lv_topl (fun w63 ew63 => ?_)
      refine lv_l2i (v := w63.toInt32) hx hb dX5_joined_199 rfl ?_
      refine lv_topi (fun x64 ex64 => ?_)
      exact z_iret hx hb hr hK hS (Nat.le_of_ble_eq_true rfl) (Nat.le_of_ble_eq_true rfl) hlocks dX5_joined_200 (shC c, ad, I, JX, PC c ad) hW rfl
  by_cases q65 : a1 = (-5)
  · refine lv_tableIn (tgt := 99) hx hb dX5_joined_1 (by rw [q65]; decide) (by rw [q65]; decide) (by rw [q65]; rfl) (by decide) ?_
    refine lv_iload_n hx hb dX5_joined_99 rfl (lv_at hl 1 rfl) ?_
    refine lv_iload_n hx hb dX5_joined_100 rfl (lv_at hl 2 rfl) ?_
    refine lv_icmp_ge (tgt := 109) hx hb dX5_joined_101 (by decide) (fun c66 => ?_) (fun c66 => ?_)
    · have g67 := z_f_ge rfl rfl c66
      have b68 := Int32.toInt_lt a2
      have b69 := Int32.toInt_lt a3
      refine lv_iload_n hx hb dX5_joined_109 rfl (lv_at hl 2 rfl) ?_
      refine lv_i2l (v := a3.toInt64) hx hb dX5_joined_110 rfl ?_
      refine lv_topl (fun w70 ew70 => ?_)
      refine lv_lstore_n (lv' := [(3, .long w70), (0, .int a1), (1, .int a2), (2, .int a3)]) hx hb dX5_joined_111 rfl hl (by decide) rfl (fun ls hl => ?_)
      refine lv_goto (tgt := 186) hx hb dX5_joined_112 (by decide) ?_
      refine lv_ldc2 (v := (-1000000000)) hx hb hown (hts (.constantLong RX5 32 (-1000000000)) (me_s (List.mem_of_getElem? (i := 0) rfl))) dX5_joined_186 ?_
      refine lv_ldc2 (v := 1000000000) hx hb hown (hts (.constantLong RX5 34 (1000000000)) (me_s (List.mem_of_getElem? (i := 1) rfl))) dX5_joined_189 ?_
      refine lv_lload_n hx hb dX5_joined_192 rfl (lv_at hl 0 rfl) ?_
      refine va_mmin_long (x := 1000000000) (y := w70) hx hb (hml.trans hl.1.symm) hown (hts (.methodLink RX5 36 Lib.MathLoose.min_long.x) (me_s (List.mem_of_getElem? (i := 2) rfl))) (hts (.static Lib.MathLoose.min_long.x) (me_s (List.mem_of_getElem? (i := 3) rfl))) (hts (.initialized "java/lang/Math") (me_s (List.mem_of_getElem? (i := 4) rfl))) (hts (.code Lib.MathLoose.min_long.x Lib.MathLoose.min_long.code 4 (some .long)) (me_s (List.mem_of_getElem? (i := 5) rfl))) (Nat.le_of_ble_eq_true rfl) (Nat.le_of_ble_eq_true rfl) (Nat.le_of_ble_eq_true rfl) (Nat.le_of_ble_eq_true rfl) dX5_joined_193 ?_
      refine lv_topl (fun w71 ew71 => ?_)
      refine va_mmax_long (x := (-1000000000)) (y := w71) hx hb (hml.trans hl.1.symm) hown (hts (.methodLink RX5 40 Lib.MathLoose.max_long.x) (me_s (List.mem_of_getElem? (i := 6) rfl))) (hts (.static Lib.MathLoose.max_long.x) (me_s (List.mem_of_getElem? (i := 7) rfl))) (hts (.initialized "java/lang/Math") (me_s (List.mem_of_getElem? (i := 4) rfl))) (hts (.code Lib.MathLoose.max_long.x Lib.MathLoose.max_long.code 4 (some .long)) (me_s (List.mem_of_getElem? (i := 8) rfl))) (Nat.le_of_ble_eq_true rfl) (Nat.le_of_ble_eq_true rfl) (Nat.le_of_ble_eq_true rfl) (Nat.le_of_ble_eq_true rfl) dX5_joined_196 ?_
      refine lv_topl (fun w72 ew72 => ?_)
      refine lv_l2i (v := w72.toInt32) hx hb dX5_joined_199 rfl ?_
      refine lv_topi (fun x73 ex73 => ?_)
      exact z_iret hx hb hr hK hS (Nat.le_of_ble_eq_true rfl) (Nat.le_of_ble_eq_true rfl) hlocks dX5_joined_200 (shC c, ad, I, JX, PC c ad) hW rfl
    · have g74 := z_f_nge rfl rfl c66
      have b75 := Int32.toInt_lt a2
      have b76 := Int32.toInt_lt a3
      refine lv_iload_n hx hb dX5_joined_104 rfl (lv_at hl 1 rfl) ?_
      refine lv_i2l (v := a2.toInt64) hx hb dX5_joined_105 rfl ?_
      refine lv_topl (fun w77 ew77 => ?_)
      refine lv_goto (tgt := 111) hx hb dX5_joined_106 (by decide) ?_
      refine lv_lstore_n (lv' := [(3, .long w77), (0, .int a1), (1, .int a2), (2, .int a3)]) hx hb dX5_joined_111 rfl hl (by decide) rfl (fun ls hl => ?_)
      refine lv_goto (tgt := 186) hx hb dX5_joined_112 (by decide) ?_
      refine lv_ldc2 (v := (-1000000000)) hx hb hown (hts (.constantLong RX5 32 (-1000000000)) (me_s (List.mem_of_getElem? (i := 0) rfl))) dX5_joined_186 ?_
      refine lv_ldc2 (v := 1000000000) hx hb hown (hts (.constantLong RX5 34 (1000000000)) (me_s (List.mem_of_getElem? (i := 1) rfl))) dX5_joined_189 ?_
      refine lv_lload_n hx hb dX5_joined_192 rfl (lv_at hl 0 rfl) ?_
      refine va_mmin_long (x := 1000000000) (y := w77) hx hb (hml.trans hl.1.symm) hown (hts (.methodLink RX5 36 Lib.MathLoose.min_long.x) (me_s (List.mem_of_getElem? (i := 2) rfl))) (hts (.static Lib.MathLoose.min_long.x) (me_s (List.mem_of_getElem? (i := 3) rfl))) (hts (.initialized "java/lang/Math") (me_s (List.mem_of_getElem? (i := 4) rfl))) (hts (.code Lib.MathLoose.min_long.x Lib.MathLoose.min_long.code 4 (some .long)) (me_s (List.mem_of_getElem? (i := 5) rfl))) (Nat.le_of_ble_eq_true rfl) (Nat.le_of_ble_eq_true rfl) (Nat.le_of_ble_eq_true rfl) (Nat.le_of_ble_eq_true rfl) dX5_joined_193 ?_
      refine lv_topl (fun w78 ew78 => ?_)
      refine va_mmax_long (x := (-1000000000)) (y := w78) hx hb (hml.trans hl.1.symm) hown (hts (.methodLink RX5 40 Lib.MathLoose.max_long.x) (me_s (List.mem_of_getElem? (i := 6) rfl))) (hts (.static Lib.MathLoose.max_long.x) (me_s (List.mem_of_getElem? (i := 7) rfl))) (hts (.initialized "java/lang/Math") (me_s (List.mem_of_getElem? (i := 4) rfl))) (hts (.code Lib.MathLoose.max_long.x Lib.MathLoose.max_long.code 4 (some .long)) (me_s (List.mem_of_getElem? (i := 8) rfl))) (Nat.le_of_ble_eq_true rfl) (Nat.le_of_ble_eq_true rfl) (Nat.le_of_ble_eq_true rfl) (Nat.le_of_ble_eq_true rfl) dX5_joined_196 ?_
      refine lv_topl (fun w79 ew79 => ?_)
      refine lv_l2i (v := w79.toInt32) hx hb dX5_joined_199 rfl ?_
      refine lv_topi (fun x80 ex80 => ?_)
      exact z_iret hx hb hr hK hS (Nat.le_of_ble_eq_true rfl) (Nat.le_of_ble_eq_true rfl) hlocks dX5_joined_200 (shC c, ad, I, JX, PC c ad) hW rfl
  by_cases q81 : a1 = (-4)
  · refine lv_tableIn (tgt := 83) hx hb dX5_joined_1 (by rw [q81]; decide) (by rw [q81]; decide) (by rw [q81]; rfl) (by decide) ?_
    refine lv_iload_n hx hb dX5_joined_83 rfl (lv_at hl 2 rfl) ?_
    refine lv_if_ne (tgt := 91) hx hb dX5_joined_84 (by decide) (fun c82 => ?_) (fun c82 => ?_)
    · have g83 := z_f_ne rfl z_l0 c82
      have b84 := Int32.toInt_lt a3
      refine lv_iload_n hx hb dX5_joined_91 rfl (lv_at hl 1 rfl) ?_
      refine lv_iload_n hx hb dX5_joined_92 rfl (lv_at hl 2 rfl) ?_
      refine lv_idiv hx hb dX5_joined_93 (z_nz rfl (by omega)) ?_
      refine lv_topi (fun x85 ex85 => ?_)
      refine lv_i2l (v := x85.toInt64) hx hb dX5_joined_94 rfl ?_
      refine lv_topl (fun w86 ew86 => ?_)
      refine lv_lstore_n (lv' := [(3, .long w86), (0, .int a1), (1, .int a2), (2, .int a3)]) hx hb dX5_joined_95 rfl hl (by decide) rfl (fun ls hl => ?_)
      refine lv_goto (tgt := 186) hx hb dX5_joined_96 (by decide) ?_
      refine lv_ldc2 (v := (-1000000000)) hx hb hown (hts (.constantLong RX5 32 (-1000000000)) (me_s (List.mem_of_getElem? (i := 0) rfl))) dX5_joined_186 ?_
      refine lv_ldc2 (v := 1000000000) hx hb hown (hts (.constantLong RX5 34 (1000000000)) (me_s (List.mem_of_getElem? (i := 1) rfl))) dX5_joined_189 ?_
      refine lv_lload_n hx hb dX5_joined_192 rfl (lv_at hl 0 rfl) ?_
      refine va_mmin_long (x := 1000000000) (y := w86) hx hb (hml.trans hl.1.symm) hown (hts (.methodLink RX5 36 Lib.MathLoose.min_long.x) (me_s (List.mem_of_getElem? (i := 2) rfl))) (hts (.static Lib.MathLoose.min_long.x) (me_s (List.mem_of_getElem? (i := 3) rfl))) (hts (.initialized "java/lang/Math") (me_s (List.mem_of_getElem? (i := 4) rfl))) (hts (.code Lib.MathLoose.min_long.x Lib.MathLoose.min_long.code 4 (some .long)) (me_s (List.mem_of_getElem? (i := 5) rfl))) (Nat.le_of_ble_eq_true rfl) (Nat.le_of_ble_eq_true rfl) (Nat.le_of_ble_eq_true rfl) (Nat.le_of_ble_eq_true rfl) dX5_joined_193 ?_
      refine lv_topl (fun w87 ew87 => ?_)
      refine va_mmax_long (x := (-1000000000)) (y := w87) hx hb (hml.trans hl.1.symm) hown (hts (.methodLink RX5 40 Lib.MathLoose.max_long.x) (me_s (List.mem_of_getElem? (i := 6) rfl))) (hts (.static Lib.MathLoose.max_long.x) (me_s (List.mem_of_getElem? (i := 7) rfl))) (hts (.initialized "java/lang/Math") (me_s (List.mem_of_getElem? (i := 4) rfl))) (hts (.code Lib.MathLoose.max_long.x Lib.MathLoose.max_long.code 4 (some .long)) (me_s (List.mem_of_getElem? (i := 8) rfl))) (Nat.le_of_ble_eq_true rfl) (Nat.le_of_ble_eq_true rfl) (Nat.le_of_ble_eq_true rfl) (Nat.le_of_ble_eq_true rfl) dX5_joined_196 ?_
      refine lv_topl (fun w88 ew88 => ?_)
      refine lv_l2i (v := w88.toInt32) hx hb dX5_joined_199 rfl ?_
      refine lv_topi (fun x89 ex89 => ?_)
      exact z_iret hx hb hr hK hS (Nat.le_of_ble_eq_true rfl) (Nat.le_of_ble_eq_true rfl) hlocks dX5_joined_200 (shC c, ad, I, JX, PC c ad) hW rfl
    · have g90 := z_f_eq rfl z_l0 c82
      have b91 := Int32.toInt_lt a3
      refine lv_lconst (v := 0) hx hb dX5_joined_87 (by decide) ?_
      refine lv_goto (tgt := 95) hx hb dX5_joined_88 (by decide) ?_
      refine lv_lstore_n (lv' := [(3, .long 0), (0, .int a1), (1, .int a2), (2, .int a3)]) hx hb dX5_joined_95 rfl hl (by decide) rfl (fun ls hl => ?_)
      refine lv_goto (tgt := 186) hx hb dX5_joined_96 (by decide) ?_
      refine lv_ldc2 (v := (-1000000000)) hx hb hown (hts (.constantLong RX5 32 (-1000000000)) (me_s (List.mem_of_getElem? (i := 0) rfl))) dX5_joined_186 ?_
      refine lv_ldc2 (v := 1000000000) hx hb hown (hts (.constantLong RX5 34 (1000000000)) (me_s (List.mem_of_getElem? (i := 1) rfl))) dX5_joined_189 ?_
      refine lv_lload_n hx hb dX5_joined_192 rfl (lv_at hl 0 rfl) ?_
      refine va_mmin_long (x := 1000000000) (y := 0) hx hb (hml.trans hl.1.symm) hown (hts (.methodLink RX5 36 Lib.MathLoose.min_long.x) (me_s (List.mem_of_getElem? (i := 2) rfl))) (hts (.static Lib.MathLoose.min_long.x) (me_s (List.mem_of_getElem? (i := 3) rfl))) (hts (.initialized "java/lang/Math") (me_s (List.mem_of_getElem? (i := 4) rfl))) (hts (.code Lib.MathLoose.min_long.x Lib.MathLoose.min_long.code 4 (some .long)) (me_s (List.mem_of_getElem? (i := 5) rfl))) (Nat.le_of_ble_eq_true rfl) (Nat.le_of_ble_eq_true rfl) (Nat.le_of_ble_eq_true rfl) (Nat.le_of_ble_eq_true rfl) dX5_joined_193 ?_
      refine lv_topl (fun w92 ew92 => ?_)
      refine va_mmax_long (x := (-1000000000)) (y := w92) hx hb (hml.trans hl.1.symm) hown (hts (.methodLink RX5 40 Lib.MathLoose.max_long.x) (me_s (List.mem_of_getElem? (i := 6) rfl))) (hts (.static Lib.MathLoose.max_long.x) (me_s (List.mem_of_getElem? (i := 7) rfl))) (hts (.initialized "java/lang/Math") (me_s (List.mem_of_getElem? (i := 4) rfl))) (hts (.code Lib.MathLoose.max_long.x Lib.MathLoose.max_long.code 4 (some .long)) (me_s (List.mem_of_getElem? (i := 8) rfl))) (Nat.le_of_ble_eq_true rfl) (Nat.le_of_ble_eq_true rfl) (Nat.le_of_ble_eq_true rfl) (Nat.le_of_ble_eq_true rfl) dX5_joined_196 ?_
      refine lv_topl (fun w93 ew93 => ?_)
      refine lv_l2i (v := w93.toInt32) hx hb dX5_joined_199 rfl ?_
      refine lv_topi (fun x94 ex94 => ?_)
      exact z_iret hx hb hr hK hS (Nat.le_of_ble_eq_true rfl) (Nat.le_of_ble_eq_true rfl) hlocks dX5_joined_200 (shC c, ad, I, JX, PC c ad) hW rfl
  by_cases q95 : a1 = (-3)
  · refine lv_tableIn (tgt := 74) hx hb dX5_joined_1 (by rw [q95]; decide) (by rw [q95]; decide) (by rw [q95]; rfl) (by decide) ?_
    refine lv_iload_n hx hb dX5_joined_74 rfl (lv_at hl 1 rfl) ?_
    refine lv_i2l (v := a2.toInt64) hx hb dX5_joined_75 rfl ?_
    refine lv_topl (fun w96 ew96 => ?_)
    refine lv_iload_n hx hb dX5_joined_76 rfl (lv_at hl 2 rfl) ?_
    refine lv_i2l (v := a3.toInt64) hx hb dX5_joined_77 rfl ?_
    refine lv_topl (fun w97 ew97 => ?_)
    refine lv_lmul hx hb dX5_joined_78 ?_
    refine lv_topl (fun w98 ew98 => ?_)
    refine lv_lstore_n (lv' := [(3, .long w98), (0, .int a1), (1, .int a2), (2, .int a3)]) hx hb dX5_joined_79 rfl hl (by decide) rfl (fun ls hl => ?_)
    refine lv_goto (tgt := 186) hx hb dX5_joined_80 (by decide) ?_
    refine lv_ldc2 (v := (-1000000000)) hx hb hown (hts (.constantLong RX5 32 (-1000000000)) (me_s (List.mem_of_getElem? (i := 0) rfl))) dX5_joined_186 ?_
    refine lv_ldc2 (v := 1000000000) hx hb hown (hts (.constantLong RX5 34 (1000000000)) (me_s (List.mem_of_getElem? (i := 1) rfl))) dX5_joined_189 ?_
    refine lv_lload_n hx hb dX5_joined_192 rfl (lv_at hl 0 rfl) ?_
    refine va_mmin_long (x := 1000000000) (y := w98) hx hb (hml.trans hl.1.symm) hown (hts (.methodLink RX5 36 Lib.MathLoose.min_long.x) (me_s (List.mem_of_getElem? (i := 2) rfl))) (hts (.static Lib.MathLoose.min_long.x) (me_s (List.mem_of_getElem? (i := 3) rfl))) (hts (.initialized "java/lang/Math") (me_s (List.mem_of_getElem? (i := 4) rfl))) (hts (.code Lib.MathLoose.min_long.x Lib.MathLoose.min_long.code 4 (some .long)) (me_s (List.mem_of_getElem? (i := 5) rfl))) (Nat.le_of_ble_eq_true rfl) (Nat.le_of_ble_eq_true rfl) (Nat.le_of_ble_eq_true rfl) (Nat.le_of_ble_eq_true rfl) dX5_joined_193 ?_
    refine lv_topl (fun w99 ew99 => ?_)
    refine va_mmax_long (x := (-1000000000)) (y := w99) hx hb (hml.trans hl.1.symm) hown (hts (.methodLink RX5 40 Lib.MathLoose.max_long.x) (me_s (List.mem_of_getElem? (i := 6) rfl))) (hts (.static Lib.MathLoose.max_long.x) (me_s (List.mem_of_getElem? (i := 7) rfl))) (hts (.initialized "java/lang/Math") (me_s (List.mem_of_getElem? (i := 4) rfl))) (hts (.code Lib.MathLoose.max_long.x Lib.MathLoose.max_long.code 4 (some .long)) (me_s (List.mem_of_getElem? (i := 8) rfl))) (Nat.le_of_ble_eq_true rfl) (Nat.le_of_ble_eq_true rfl) (Nat.le_of_ble_eq_true rfl) (Nat.le_of_ble_eq_true rfl) dX5_joined_196 ?_
    refine lv_topl (fun w100 ew100 => ?_)
    refine lv_l2i (v := w100.toInt32) hx hb dX5_joined_199 rfl ?_
    refine lv_topi (fun x101 ex101 => ?_)
    exact z_iret hx hb hr hK hS (Nat.le_of_ble_eq_true rfl) (Nat.le_of_ble_eq_true rfl) hlocks dX5_joined_200 (shC c, ad, I, JX, PC c ad) hW rfl
  by_cases q102 : a1 = (-2)
  · refine lv_tableIn (tgt := 65) hx hb dX5_joined_1 (by rw [q102]; decide) (by rw [q102]; decide) (by rw [q102]; rfl) (by decide) ?_
    refine lv_iload_n hx hb dX5_joined_65 rfl (lv_at hl 1 rfl) ?_
    refine lv_i2l (v := a2.toInt64) hx hb dX5_joined_66 rfl ?_
    refine lv_topl (fun w103 ew103 => ?_)
    refine lv_iload_n hx hb dX5_joined_67 rfl (lv_at hl 2 rfl) ?_
    refine lv_i2l (v := a3.toInt64) hx hb dX5_joined_68 rfl ?_
    refine lv_topl (fun w104 ew104 => ?_)
    refine lv_lsub hx hb dX5_joined_69 ?_
    refine lv_topl (fun w105 ew105 => ?_)
    refine lv_lstore_n (lv' := [(3, .long w105), (0, .int a1), (1, .int a2), (2, .int a3)]) hx hb dX5_joined_70 rfl hl (by decide) rfl (fun ls hl => ?_)
    refine lv_goto (tgt := 186) hx hb dX5_joined_71 (by decide) ?_
    refine lv_ldc2 (v := (-1000000000)) hx hb hown (hts (.constantLong RX5 32 (-1000000000)) (me_s (List.mem_of_getElem? (i := 0) rfl))) dX5_joined_186 ?_
    refine lv_ldc2 (v := 1000000000) hx hb hown (hts (.constantLong RX5 34 (1000000000)) (me_s (List.mem_of_getElem? (i := 1) rfl))) dX5_joined_189 ?_
    refine lv_lload_n hx hb dX5_joined_192 rfl (lv_at hl 0 rfl) ?_
    refine va_mmin_long (x := 1000000000) (y := w105) hx hb (hml.trans hl.1.symm) hown (hts (.methodLink RX5 36 Lib.MathLoose.min_long.x) (me_s (List.mem_of_getElem? (i := 2) rfl))) (hts (.static Lib.MathLoose.min_long.x) (me_s (List.mem_of_getElem? (i := 3) rfl))) (hts (.initialized "java/lang/Math") (me_s (List.mem_of_getElem? (i := 4) rfl))) (hts (.code Lib.MathLoose.min_long.x Lib.MathLoose.min_long.code 4 (some .long)) (me_s (List.mem_of_getElem? (i := 5) rfl))) (Nat.le_of_ble_eq_true rfl) (Nat.le_of_ble_eq_true rfl) (Nat.le_of_ble_eq_true rfl) (Nat.le_of_ble_eq_true rfl) dX5_joined_193 ?_
    refine lv_topl (fun w106 ew106 => ?_)
    refine va_mmax_long (x := (-1000000000)) (y := w106) hx hb (hml.trans hl.1.symm) hown (hts (.methodLink RX5 40 Lib.MathLoose.max_long.x) (me_s (List.mem_of_getElem? (i := 6) rfl))) (hts (.static Lib.MathLoose.max_long.x) (me_s (List.mem_of_getElem? (i := 7) rfl))) (hts (.initialized "java/lang/Math") (me_s (List.mem_of_getElem? (i := 4) rfl))) (hts (.code Lib.MathLoose.max_long.x Lib.MathLoose.max_long.code 4 (some .long)) (me_s (List.mem_of_getElem? (i := 8) rfl))) (Nat.le_of_ble_eq_true rfl) (Nat.le_of_ble_eq_true rfl) (Nat.le_of_ble_eq_true rfl) (Nat.le_of_ble_eq_true rfl) dX5_joined_196 ?_
    refine lv_topl (fun w107 ew107 => ?_)
    refine lv_l2i (v := w107.toInt32) hx hb dX5_joined_199 rfl ?_
    refine lv_topi (fun x108 ex108 => ?_)
    exact z_iret hx hb hr hK hS (Nat.le_of_ble_eq_true rfl) (Nat.le_of_ble_eq_true rfl) hlocks dX5_joined_200 (shC c, ad, I, JX, PC c ad) hW rfl
  by_cases q109 : a1 = (-1)
  · refine lv_tableIn (tgt := 56) hx hb dX5_joined_1 (by rw [q109]; decide) (by rw [q109]; decide) (by rw [q109]; rfl) (by decide) ?_
    refine lv_iload_n hx hb dX5_joined_56 rfl (lv_at hl 1 rfl) ?_
    refine lv_i2l (v := a2.toInt64) hx hb dX5_joined_57 rfl ?_
    refine lv_topl (fun w110 ew110 => ?_)
    refine lv_iload_n hx hb dX5_joined_58 rfl (lv_at hl 2 rfl) ?_
    refine lv_i2l (v := a3.toInt64) hx hb dX5_joined_59 rfl ?_
    refine lv_topl (fun w111 ew111 => ?_)
    refine lv_ladd hx hb dX5_joined_60 ?_
    refine lv_topl (fun w112 ew112 => ?_)
    refine lv_lstore_n (lv' := [(3, .long w112), (0, .int a1), (1, .int a2), (2, .int a3)]) hx hb dX5_joined_61 rfl hl (by decide) rfl (fun ls hl => ?_)
    refine lv_goto (tgt := 186) hx hb dX5_joined_62 (by decide) ?_
    refine lv_ldc2 (v := (-1000000000)) hx hb hown (hts (.constantLong RX5 32 (-1000000000)) (me_s (List.mem_of_getElem? (i := 0) rfl))) dX5_joined_186 ?_
    refine lv_ldc2 (v := 1000000000) hx hb hown (hts (.constantLong RX5 34 (1000000000)) (me_s (List.mem_of_getElem? (i := 1) rfl))) dX5_joined_189 ?_
    refine lv_lload_n hx hb dX5_joined_192 rfl (lv_at hl 0 rfl) ?_
    refine va_mmin_long (x := 1000000000) (y := w112) hx hb (hml.trans hl.1.symm) hown (hts (.methodLink RX5 36 Lib.MathLoose.min_long.x) (me_s (List.mem_of_getElem? (i := 2) rfl))) (hts (.static Lib.MathLoose.min_long.x) (me_s (List.mem_of_getElem? (i := 3) rfl))) (hts (.initialized "java/lang/Math") (me_s (List.mem_of_getElem? (i := 4) rfl))) (hts (.code Lib.MathLoose.min_long.x Lib.MathLoose.min_long.code 4 (some .long)) (me_s (List.mem_of_getElem? (i := 5) rfl))) (Nat.le_of_ble_eq_true rfl) (Nat.le_of_ble_eq_true rfl) (Nat.le_of_ble_eq_true rfl) (Nat.le_of_ble_eq_true rfl) dX5_joined_193 ?_
    refine lv_topl (fun w113 ew113 => ?_)
    refine va_mmax_long (x := (-1000000000)) (y := w113) hx hb (hml.trans hl.1.symm) hown (hts (.methodLink RX5 40 Lib.MathLoose.max_long.x) (me_s (List.mem_of_getElem? (i := 6) rfl))) (hts (.static Lib.MathLoose.max_long.x) (me_s (List.mem_of_getElem? (i := 7) rfl))) (hts (.initialized "java/lang/Math") (me_s (List.mem_of_getElem? (i := 4) rfl))) (hts (.code Lib.MathLoose.max_long.x Lib.MathLoose.max_long.code 4 (some .long)) (me_s (List.mem_of_getElem? (i := 8) rfl))) (Nat.le_of_ble_eq_true rfl) (Nat.le_of_ble_eq_true rfl) (Nat.le_of_ble_eq_true rfl) (Nat.le_of_ble_eq_true rfl) dX5_joined_196 ?_
    refine lv_topl (fun w114 ew114 => ?_)
    refine lv_l2i (v := w114.toInt32) hx hb dX5_joined_199 rfl ?_
    refine lv_topi (fun x115 ex115 => ?_)
    exact z_iret hx hb hr hK hS (Nat.le_of_ble_eq_true rfl) (Nat.le_of_ble_eq_true rfl) hlocks dX5_joined_200 (shC c, ad, I, JX, PC c ad) hW rfl
  have q1 := z_f_ne rfl z_lm10 q1
  have q7 := z_f_ne rfl z_lm9 q7
  have q21 := z_f_ne rfl z_lm8 q21
  have q35 := z_f_ne rfl z_lm7 q35
  have q49 := z_f_ne rfl z_lm6 q49
  have q65 := z_f_ne rfl z_lm5 q65
  have q81 := z_f_ne rfl z_lm4 q81
  have q95 := z_f_ne rfl z_lm3 q95
  have q102 := z_f_ne rfl z_lm2 q102
  have q109 := z_f_ne rfl z_lm1 q109
  refine lv_tableOut (tgt := 181) hx hb dX5_joined_1 (by omega) (by decide) ?_
  refine lv_iload_n hx hb dX5_joined_181 rfl (lv_at hl 1 rfl) ?_
  refine lv_iload_n hx hb dX5_joined_182 rfl (lv_at hl 2 rfl) ?_
  refine lv_ior hx hb dX5_joined_183 ?_
  refine lv_topi (fun x116 ex116 => ?_)
  refine lv_i2l (v := x116.toInt64) hx hb dX5_joined_184 rfl ?_
  refine lv_topl (fun w117 ew117 => ?_)
  refine lv_lstore_n (lv' := [(3, .long w117), (0, .int a1), (1, .int a2), (2, .int a3)]) hx hb dX5_joined_185 rfl hl (by decide) rfl (fun ls hl => ?_)
  refine lv_ldc2 (v := (-1000000000)) hx hb hown (hts (.constantLong RX5 32 (-1000000000)) (me_s (List.mem_of_getElem? (i := 0) rfl))) dX5_joined_186 ?_
  refine lv_ldc2 (v := 1000000000) hx hb hown (hts (.constantLong RX5 34 (1000000000)) (me_s (List.mem_of_getElem? (i := 1) rfl))) dX5_joined_189 ?_
  refine lv_lload_n hx hb dX5_joined_192 rfl (lv_at hl 0 rfl) ?_
  refine va_mmin_long (x := 1000000000) (y := w117) hx hb (hml.trans hl.1.symm) hown (hts (.methodLink RX5 36 Lib.MathLoose.min_long.x) (me_s (List.mem_of_getElem? (i := 2) rfl))) (hts (.static Lib.MathLoose.min_long.x) (me_s (List.mem_of_getElem? (i := 3) rfl))) (hts (.initialized "java/lang/Math") (me_s (List.mem_of_getElem? (i := 4) rfl))) (hts (.code Lib.MathLoose.min_long.x Lib.MathLoose.min_long.code 4 (some .long)) (me_s (List.mem_of_getElem? (i := 5) rfl))) (Nat.le_of_ble_eq_true rfl) (Nat.le_of_ble_eq_true rfl) (Nat.le_of_ble_eq_true rfl) (Nat.le_of_ble_eq_true rfl) dX5_joined_193 ?_
  refine lv_topl (fun w118 ew118 => ?_)
  refine va_mmax_long (x := (-1000000000)) (y := w118) hx hb (hml.trans hl.1.symm) hown (hts (.methodLink RX5 40 Lib.MathLoose.max_long.x) (me_s (List.mem_of_getElem? (i := 6) rfl))) (hts (.static Lib.MathLoose.max_long.x) (me_s (List.mem_of_getElem? (i := 7) rfl))) (hts (.initialized "java/lang/Math") (me_s (List.mem_of_getElem? (i := 4) rfl))) (hts (.code Lib.MathLoose.max_long.x Lib.MathLoose.max_long.code 4 (some .long)) (me_s (List.mem_of_getElem? (i := 8) rfl))) (Nat.le_of_ble_eq_true rfl) (Nat.le_of_ble_eq_true rfl) (Nat.le_of_ble_eq_true rfl) (Nat.le_of_ble_eq_true rfl) dX5_joined_196 ?_
  refine lv_topl (fun w119 ew119 => ?_)
  refine lv_l2i (v := w119.toInt32) hx hb dX5_joined_199 rfl ?_
  refine lv_topi (fun x120 ex120 => ?_)
  exact z_iret hx hb hr hK hS (Nat.le_of_ble_eq_true rfl) (Nat.le_of_ble_eq_true rfl) hlocks dX5_joined_200 (shC c, ad, I, JX, PC c ad) hW rfl
noncomputable def L_X5_result : z_L := [(25, 999)]
theorem zj_X5_result_X5 : ∀ w ∈ wsX50, w ∈ wsX5_result := fun w h => (List.mem_cons_of_mem _ (List.mem_append_right _ h))
set_option maxHeartbeats 8000000 in
set_option maxRecDepth 100000 in
theorem sx_X5_result (l : Launch) (G : z_G) (ad : Nat → Nat) (c : z_C) (I : z_I) (k : Nat) (a2 : Int32) (hk : k < c.2.1) (hc : z_okc c) : z_M l yX5_result wsX5_result { frames := 2, cells := 0, slots := 0, locals := 64 } [.ref (ad 23), .ref (ad (200 + 5 * k + 4)), .int a2] G (shC c, ad, I, JX, PC c ad) (fun r u1 => ∃ I1 : z_I, u1 = (shC c, ad, I1, JX, PC c ad) ∧ z_fr L_X5_result I1 I) 0 0 := by
  intro sz
  refine z_headQ (cc := cX5_result) (maxL := 6) (ret := (some .int)) (by decide) rfl (Nat.le_of_ble_eq_true rfl) ?_
  intro p e s m below meth c0 ls hIn hK hsz hW hl
  obtain ⟨hx, hb, hr, hml, hown, hts, hlocks, hname⟩ := hIn
  subst hsz
  have hown : s.vm.findClass RX5 = some m.cls := hown
  have hA : ∀ q : Nat, s.heap.size ≤ q → z_A (shC c, ad, I, JX, PC c ad) s.heap.size q := fun q h => Or.inr h
  generalize hAe : z_A (shC c, ad, I, JX, PC c ad) s.heap.size = A at *
  have hS : va_S A s.heap s.heap [] := va_S.rf
  have hl : lv_has ls 6 [(0, .ref (ad 23)), (1, .ref (ad (200 + 5 * k + 4))), (2, .int a2)] := hl
  refine lv_iconst (v := 0) hx hb dX5_result_0 (by decide) ?_
  refine lv_istore_n (lv' := [(3, .int 0), (0, .ref (ad 23)), (1, .ref (ad (200 + 5 * k + 4))), (2, .int a2)]) hx hb dX5_result_1 rfl hl (by decide) rfl (fun ls hl => ?_)
  refine lv_iload_n hx hb dX5_result_2 rfl (lv_at hl 3 rfl) ?_
  refine lv_iconst (v := 0) hx hb dX5_result_3 (by decide) ?_
  refine va_mmax (x := a2) (y := 0) hx hb (hml.trans hl.1.symm) hown (hts (.methodLink RX5 18 Lib.Math.max.name) (me_s (me_l (List.mem_of_getElem? (i := 0) rfl)))) (hts (.static Lib.Math.max.name) (me_s (me_l (List.mem_of_getElem? (i := 1) rfl)))) (hts (.initialized "java/lang/Math") (me_s (me_l (List.mem_of_getElem? (i := 2) rfl)))) (hts (.code Lib.Math.max.name Lib.Math.max.code 2 (some .int)) (me_s (me_l (List.mem_of_getElem? (i := 3) rfl)))) (Nat.le_of_ble_eq_true rfl) (Nat.le_of_ble_eq_true rfl) (Nat.le_of_ble_eq_true rfl) (Nat.le_of_ble_eq_true rfl) dX5_result_4 ?_
  refine lv_topi (fun x1 ex1 => ?_)
  have tx1 := z_tmmax ex1 rfl z_l0
  refine lv_istore (lv' := [(4, .int x1), (3, .int 0), (0, .ref (ad 23)), (1, .ref (ad (200 + 5 * k + 4))), (2, .int a2)]) hx hb dX5_result_7 hl (by decide) rfl (fun ls hl => ?_)
  have lp2 : ∀ (f : Nat) (y3 : Int32) (y4 : Int32) (I5 : z_I) (H : Heap) (locs : List Loc) (ls : Array Slot), (2147483647 < y3.toInt + (f : Int)) → (0 ≤ y3.toInt) → (0 ≤ y4.toInt) → (y4.toInt ≤ 64) → (z_fr L_X5_result I5 I) → z_W G A (shC c, ad, I5, JX, PC c ad) H → va_S A s.heap H locs → lv_has ls 6 [(4, .int y3), (3, .int y4), (0, .ref (ad 23)), (1, .ref (ad (200 + 5 * k + 4))), (2, .int a2)] → W p l e (headSpec wsX5_result { frames := 2, cells := 0, slots := 0, locals := 64 }).room s m ([.ref (ad 23), .ref (ad (200 + 5 * k + 4)), .int a2] : List Value).toArray below meth c0 H locs 0 0 (MQ below (va_Qi (fun (r : Int32) (u1 : z_U) => ∃ I1 : z_I, u1 = (shC c, ad, I1, JX, PC c ad) ∧ z_fr L_X5_result I1 I) (z_B G A) A) ([.ref (ad 23), .ref (ad (200 + 5 * k + 4)), .int a2] : List Value).toArray s 0 0 A) (F0 m 9 ls []) := by
    intro f
    induction f with
    | zero => intro y3 y4 I5  H locs ls lp2m lp2l4 lp2l3 lp2u3 lp2fr hW hS hl; exact absurd lp2m (by have := Int32.toInt_lt y3; have := Int32.le_toInt y3; omega)
    | succ f lp2ih =>
      intro y3 y4 I5  H locs ls lp2m lp2l4 lp2l3 lp2u3 lp2fr hW hS hl
      refine lv_iload hx hb dX5_result_9 (lv_at hl 0 rfl) ?_
      refine lv_aload_n hx hb dX5_result_11 rfl (lv_at hl 3 rfl) ?_
      have r6 := (hc k hk).2
      refine z_alen (i := (200 + 5 * k + 4)) (v := (c.2.2.2 k).toInt32) hx hb hK hW (z_so4 hk) (by simp [z_tys]) (by rfl) dX5_result_12 ?_
      refine lv_icmp_ge (tgt := 163) hx hb dX5_result_13 (by decide) (fun c7 => ?_) (fun c7 => ?_)
      · have g8 := z_f_ge rfl (z_len (Nat.le_trans (hc k hk).2 (by decide))) c7
        have b9 := Int32.toInt_lt y3
        refine lv_iload_n hx hb dX5_result_163 rfl (lv_at hl 1 rfl) ?_
        refine lv_iconst (v := 1) hx hb dX5_result_164 (by decide) ?_
        refine lv_icmp_ne (tgt := 177) hx hb dX5_result_165 (by decide) (fun c10 => ?_) (fun c10 => ?_)
        · have g11 := z_f_ne rfl z_l1 c10
          refine lv_iconst (v := 0) hx hb dX5_result_177 (by decide) ?_
          exact z_iret hx hb hr hK hS (Nat.le_of_ble_eq_true rfl) (Nat.le_of_ble_eq_true rfl) hlocks dX5_result_178 (shC c, ad, I5, JX, PC c ad) hW ⟨I5, rfl, lp2fr⟩
        · have g12 := z_f_eq rfl z_l1 c10
          refine lv_aload_n hx hb dX5_result_168 rfl (lv_at hl 2 rfl) ?_
          refine z_get (T := TX5) (N := 2) (ci := 5) (i := 23) (v := .ref (ad 25)) hx hb hts zj_X5_result_X5 hown hK hW rfl rfl 1 (by decide) (hts (.fieldLink RX5 15 "PetrolBoard$Machine" "stack" "[I") (me_s (me_l (List.mem_of_getElem? (i := 4) rfl)))) (fun _ h => h) rfl dX5_result_169 ?_
          refine lv_iconst (v := 0) hx hb dX5_result_172 (by decide) ?_
          refine z_iald (i := 25) hx hb hK hW rfl (z_inl (by decide)) dX5_result_173 ?_
          refine lv_topi (fun x13 ex13 => ?_)
          refine lv_goto (tgt := 178) hx hb dX5_result_174 (by decide) ?_
          exact z_iret hx hb hr hK hS (Nat.le_of_ble_eq_true rfl) (Nat.le_of_ble_eq_true rfl) hlocks dX5_result_178 (shC c, ad, I5, JX, PC c ad) hW ⟨I5, rfl, lp2fr⟩
      · have g14 := z_f_nge rfl (z_len (Nat.le_trans (hc k hk).2 (by decide))) c7
        have b15 := Int32.toInt_lt y3
        refine lv_aload_n hx hb dX5_result_16 rfl (lv_at hl 3 rfl) ?_
        refine lv_iload hx hb dX5_result_17 (lv_at hl 0 rfl) ?_
        refine z_iald (i := (200 + 5 * k + 4)) hx hb hK hW (z_so4 hk) (z_ix rfl (by omega) (by omega)) dX5_result_19 ?_
        refine lv_topi (fun x16 ex16 => ?_)
        refine lv_bipush (v := (-13)) hx hb dX5_result_20 (by decide) ?_
        refine lv_icmp_eq (tgt := 163) hx hb dX5_result_22 (by decide) (fun c17 => ?_) (fun c17 => ?_)
        · have g18 := z_f_eq rfl z_lm13 c17
          have b19 := Int32.toInt_lt x16
          refine lv_iload_n hx hb dX5_result_163 rfl (lv_at hl 1 rfl) ?_
          refine lv_iconst (v := 1) hx hb dX5_result_164 (by decide) ?_
          refine lv_icmp_ne (tgt := 177) hx hb dX5_result_165 (by decide) (fun c20 => ?_) (fun c20 => ?_)
          · have g21 := z_f_ne rfl z_l1 c20
            refine lv_iconst (v := 0) hx hb dX5_result_177 (by decide) ?_
            exact z_iret hx hb hr hK hS (Nat.le_of_ble_eq_true rfl) (Nat.le_of_ble_eq_true rfl) hlocks dX5_result_178 (shC c, ad, I5, JX, PC c ad) hW ⟨I5, rfl, lp2fr⟩
          · have g22 := z_f_eq rfl z_l1 c20
            refine lv_aload_n hx hb dX5_result_168 rfl (lv_at hl 2 rfl) ?_
            refine z_get (T := TX5) (N := 2) (ci := 5) (i := 23) (v := .ref (ad 25)) hx hb hts zj_X5_result_X5 hown hK hW rfl rfl 1 (by decide) (hts (.fieldLink RX5 15 "PetrolBoard$Machine" "stack" "[I") (me_s (me_l (List.mem_of_getElem? (i := 4) rfl)))) (fun _ h => h) rfl dX5_result_169 ?_
            refine lv_iconst (v := 0) hx hb dX5_result_172 (by decide) ?_
            refine z_iald (i := 25) hx hb hK hW rfl (z_inl (by decide)) dX5_result_173 ?_
            refine lv_topi (fun x23 ex23 => ?_)
            refine lv_goto (tgt := 178) hx hb dX5_result_174 (by decide) ?_
            exact z_iret hx hb hr hK hS (Nat.le_of_ble_eq_true rfl) (Nat.le_of_ble_eq_true rfl) hlocks dX5_result_178 (shC c, ad, I5, JX, PC c ad) hW ⟨I5, rfl, lp2fr⟩
        · have g24 := z_f_ne rfl z_lm13 c17
          have b25 := Int32.toInt_lt x16
          refine lv_aload_n hx hb dX5_result_25 rfl (lv_at hl 3 rfl) ?_
          refine lv_iload hx hb dX5_result_26 (lv_at hl 0 rfl) ?_
          refine z_iald (i := (200 + 5 * k + 4)) hx hb hK hW (z_so4 hk) (z_ix rfl (by omega) (by omega)) dX5_result_28 ?_
          refine z_topi (v := x16) ex16.symm ?_
          refine lv_istore (lv' := [(5, .int x16), (4, .int y3), (3, .int y4), (0, .ref (ad 23)), (1, .ref (ad (200 + 5 * k + 4))), (2, .int a2)]) hx hb dX5_result_29 hl (by decide) rfl (fun ls hl => ?_)
          refine lv_iload hx hb dX5_result_31 (lv_at hl 0 rfl) ?_
          refine lv_if_ge (tgt := 43) hx hb dX5_result_33 (by decide) (fun c26 => ?_) (fun c26 => ?_)
          · have g27 := z_f_ge rfl z_l0 c26
            refine lv_iload_n hx hb dX5_result_43 rfl (lv_at hl 2 rfl) ?_
            refine lv_aload_n hx hb dX5_result_44 rfl (lv_at hl 3 rfl) ?_
            refine z_get (T := TX5) (N := 2) (ci := 5) (i := 23) (v := .ref (ad 25)) hx hb hts zj_X5_result_X5 hown hK hW rfl rfl 1 (by decide) (hts (.fieldLink RX5 15 "PetrolBoard$Machine" "stack" "[I") (me_s (me_l (List.mem_of_getElem? (i := 4) rfl)))) (fun _ h => h) rfl dX5_result_45 ?_
            refine z_alen (i := 25) (v := 64) hx hb hK hW rfl (by simp [z_tys]) (by rfl) dX5_result_48 ?_
            refine lv_icmp_lt (tgt := 54) hx hb dX5_result_49 (by decide) (fun c28 => ?_) (fun c28 => ?_)
            · have g29 := z_f_lt rfl z_l64 c28
              refine lv_aload_n hx hb dX5_result_54 rfl (lv_at hl 3 rfl) ?_
              refine z_get (T := TX5) (N := 2) (ci := 5) (i := 23) (v := .ref (ad 25)) hx hb hts zj_X5_result_X5 hown hK hW rfl rfl 1 (by decide) (hts (.fieldLink RX5 15 "PetrolBoard$Machine" "stack" "[I") (me_s (me_l (List.mem_of_getElem? (i := 4) rfl)))) (fun _ h => h) rfl dX5_result_55 ?_
              refine lv_iload_n hx hb dX5_result_58 rfl (lv_at hl 2 rfl) ?_
              refine lv_iload hx hb dX5_result_59 (lv_at hl 0 rfl) ?_
              refine lv_if_lt (tgt := 69) hx hb dX5_result_61 (by decide) (fun c30 => (by have g := z_f_lt rfl z_l0 c30; omega)) (fun c30 => ?_)
              have g31 := z_f_nlt rfl z_l0 c30
              refine lv_iload hx hb dX5_result_64 (lv_at hl 0 rfl) ?_
              refine lv_goto (tgt := 78) hx hb dX5_result_66 (by decide) ?_
              refine z_iast (i := 25) hx hb hK hW hS rfl (z_ix rfl (by omega) (by omega)) dX5_result_78 (fun H locs hz1 hW hS => ?_)
              obtain ⟨I32, eI32⟩ : ∃ K : z_I, K = z_up I5 25 y4.toNatClampNeg x16 := ⟨_, rfl⟩
              rw [← eI32] at hW
              have f33 := z_fr_a lp2fr (show z_wa L_X5_result 25 = true by decide) eI32
              obtain ⟨x34, ex34⟩ : ∃ y : Int32, y = y4 + 1 := ⟨_, rfl⟩
              have tx34 : x34.toInt = y4.toInt + 1 := z_tadd ex34 rfl z_l1 (by omega) (by omega)
              refine lv_iinc (v := x34) (lv' := [(3, .int x34), (5, .int x16), (4, .int y3), (0, .ref (ad 23)), (1, .ref (ad (200 + 5 * k + 4))), (2, .int a2)]) hx hb dX5_result_79 hl (k := 2) rfl (by rw [ex34]; rfl) (by decide) rfl (fun ls hl => ?_)
              refine lv_goto (tgt := 157) hx hb dX5_result_82 (by decide) ?_
              obtain ⟨x35, ex35⟩ : ∃ y : Int32, y = y3 + 1 := ⟨_, rfl⟩
              have tx35 : x35.toInt = y3.toInt + 1 := z_tadd ex35 rfl z_l1 (by omega) (by omega)
              refine lv_iinc (v := x35) (lv' := [(4, .int x35), (3, .int x34), (5, .int x16), (0, .ref (ad 23)), (1, .ref (ad (200 + 5 * k + 4))), (2, .int a2)]) hx hb dX5_result_157 hl (k := 2) rfl (by rw [ex35]; rfl) (by decide) rfl (fun ls hl => ?_)
              refine lv_goto (tgt := 9) hx hb dX5_result_160 (by decide) ?_
              exact lp2ih x35 x34 I32  _ _ _ (by omega) (by omega) (by omega) (by omega) f33 hW hS (lv_sub hl [0, 1, 3, 4, 5] rfl)
            · have g36 := z_f_nlt rfl z_l64 c28
              refine lv_iconst (v := 0) hx hb dX5_result_52 (by decide) ?_
              exact z_iret hx hb hr hK hS (Nat.le_of_ble_eq_true rfl) (Nat.le_of_ble_eq_true rfl) hlocks dX5_result_53 (shC c, ad, I5, JX, PC c ad) hW ⟨I5, rfl, lp2fr⟩
          · have g37 := z_f_nge rfl z_l0 c26
            refine lv_iload hx hb dX5_result_36 (lv_at hl 0 rfl) ?_
            refine lv_bipush (v := (-20)) hx hb dX5_result_38 (by decide) ?_
            refine lv_icmp_gt (tgt := 85) hx hb dX5_result_40 (by decide) (fun c38 => ?_) (fun c38 => ?_)
            · have g39 := z_f_gt rfl z_lm20 c38
              refine lv_iload hx hb dX5_result_85 (lv_at hl 0 rfl) ?_
              refine lv_bipush (v := (-12)) hx hb dX5_result_87 (by decide) ?_
              refine lv_icmp_ne (tgt := 120) hx hb dX5_result_89 (by decide) (fun c40 => ?_) (fun c40 => ?_)
              · have g41 := z_f_ne rfl z_lm12 c40
                refine lv_iload_n hx hb dX5_result_120 rfl (lv_at hl 2 rfl) ?_
                refine lv_iconst (v := 2) hx hb dX5_result_121 (by decide) ?_
                refine lv_icmp_ge (tgt := 127) hx hb dX5_result_122 (by decide) (fun c42 => ?_) (fun c42 => ?_)
                · have g43 := z_f_ge rfl z_l2 c42
                  obtain ⟨x44, ex44⟩ : ∃ y : Int32, y = y4 + (-1) := ⟨_, rfl⟩
                  have tx44 : x44.toInt = y4.toInt + (-1) := z_tadd ex44 rfl z_lm1 (by omega) (by omega)
                  refine lv_iinc (v := x44) (lv' := [(3, .int x44), (5, .int x16), (4, .int y3), (0, .ref (ad 23)), (1, .ref (ad (200 + 5 * k + 4))), (2, .int a2)]) hx hb dX5_result_127 hl (k := 2) rfl (by rw [ex44]; rfl) (by decide) rfl (fun ls hl => ?_)
                  refine lv_aload_n hx hb dX5_result_130 rfl (lv_at hl 3 rfl) ?_
                  refine z_get (T := TX5) (N := 2) (ci := 5) (i := 23) (v := .ref (ad 25)) hx hb hts zj_X5_result_X5 hown hK hW rfl rfl 1 (by decide) (hts (.fieldLink RX5 15 "PetrolBoard$Machine" "stack" "[I") (me_s (me_l (List.mem_of_getElem? (i := 4) rfl)))) (fun _ h => h) rfl dX5_result_131 ?_
                  refine lv_iload_n hx hb dX5_result_134 rfl (lv_at hl 0 rfl) ?_
                  refine lv_iconst (v := 1) hx hb dX5_result_135 (by decide) ?_
                  refine lv_isub hx hb dX5_result_136 ?_
                  refine lv_topi (fun x45 ex45 => ?_)
                  have tx45 : x45.toInt = x44.toInt - 1 := z_tsub ex45 rfl z_l1 (by omega) (by omega)
                  refine lv_iload hx hb dX5_result_137 (lv_at hl 1 rfl) ?_
                  refine lv_aload_n hx hb dX5_result_139 rfl (lv_at hl 3 rfl) ?_
                  refine z_get (T := TX5) (N := 2) (ci := 5) (i := 23) (v := .ref (ad 25)) hx hb hts zj_X5_result_X5 hown hK hW rfl rfl 1 (by decide) (hts (.fieldLink RX5 15 "PetrolBoard$Machine" "stack" "[I") (me_s (me_l (List.mem_of_getElem? (i := 4) rfl)))) (fun _ h => h) rfl dX5_result_140 ?_
                  refine lv_iload_n hx hb dX5_result_143 rfl (lv_at hl 0 rfl) ?_
                  refine lv_iconst (v := 1) hx hb dX5_result_144 (by decide) ?_
                  refine lv_isub hx hb dX5_result_145 ?_
                  refine lv_topi (fun x46 ex46 => ?_)
                  have tx46 : x46.toInt = x44.toInt - 1 := z_tsub ex46 rfl z_l1 (by omega) (by omega)
                  refine z_iald (i := 25) hx hb hK hW rfl (z_ix rfl (by omega) (by omega)) dX5_result_146 ?_
                  refine lv_topi (fun x47 ex47 => ?_)
                  refine lv_aload_n hx hb dX5_result_147 rfl (lv_at hl 3 rfl) ?_
                  refine z_get (T := TX5) (N := 2) (ci := 5) (i := 23) (v := .ref (ad 25)) hx hb hts zj_X5_result_X5 hown hK hW rfl rfl 1 (by decide) (hts (.fieldLink RX5 15 "PetrolBoard$Machine" "stack" "[I") (me_s (me_l (List.mem_of_getElem? (i := 4) rfl)))) (fun _ h => h) rfl dX5_result_148 ?_
                  refine lv_iload_n hx hb dX5_result_151 rfl (lv_at hl 0 rfl) ?_
                  refine z_iald (i := 25) hx hb hK hW rfl (z_ix rfl (by omega) (by omega)) dX5_result_152 ?_
                  refine lv_topi (fun x48 ex48 => ?_)
                  refine z_ci hW hS hA (va_runS (As := [.int x16, .int x47, .int x48]) (rest := [.int x45, .ref (ad 25)]) ⟨hx, hb, hml, hown, hts⟩ (sx_X5_joined l G ad c I5  x16 x47 x48 _) (va_cwS 3 hts gX5_result_X5_joined rfl rfl rfl hy_X5_joined.2 ⟨Nat.le_of_ble_eq_true rfl, Nat.le_of_ble_eq_true rfl⟩) (z_preS hK hW) rfl rfl hl.1 rfl (lv_room (Nat.le_of_ble_eq_true rfl)) dX5_result_153 ⟨Nat.le_of_ble_eq_true rfl, Nat.le_of_ble_eq_true rfl⟩) (fun r u1 H locs hp hW hS => ?_)
                  rw [hp] at hW
                  refine lv_topi (fun x49 ex49 => ?_)
                  refine z_iast (i := 25) hx hb hK hW hS rfl (z_ix rfl (by omega) (by omega)) dX5_result_156 (fun H locs hz1 hW hS => ?_)
                  obtain ⟨I50, eI50⟩ : ∃ K : z_I, K = z_up I5 25 x45.toNatClampNeg x49 := ⟨_, rfl⟩
                  rw [← eI50] at hW
                  have f51 := z_fr_a lp2fr (show z_wa L_X5_result 25 = true by decide) eI50
                  obtain ⟨x52, ex52⟩ : ∃ y : Int32, y = y3 + 1 := ⟨_, rfl⟩
                  have tx52 : x52.toInt = y3.toInt + 1 := z_tadd ex52 rfl z_l1 (by omega) (by omega)
                  refine lv_iinc (v := x52) (lv' := [(4, .int x52), (3, .int x44), (5, .int x16), (0, .ref (ad 23)), (1, .ref (ad (200 + 5 * k + 4))), (2, .int a2)]) hx hb dX5_result_157 hl (k := 2) rfl (by rw [ex52]; rfl) (by decide) rfl (fun ls hl => ?_)
                  refine lv_goto (tgt := 9) hx hb dX5_result_160 (by decide) ?_
                  exact lp2ih x52 x44 I50  _ _ _ (by omega) (by omega) (by omega) (by omega) f51 hW hS (lv_sub hl [0, 1, 3, 4, 5] rfl)
                · have g53 := z_f_nge rfl z_l2 c42
                  refine lv_iconst (v := 0) hx hb dX5_result_125 (by decide) ?_
                  exact z_iret hx hb hr hK hS (Nat.le_of_ble_eq_true rfl) (Nat.le_of_ble_eq_true rfl) hlocks dX5_result_126 (shC c, ad, I5, JX, PC c ad) hW ⟨I5, rfl, lp2fr⟩
              · have g54 := z_f_eq rfl z_lm12 c40
                refine lv_iload_n hx hb dX5_result_92 rfl (lv_at hl 2 rfl) ?_
                refine lv_iconst (v := 1) hx hb dX5_result_93 (by decide) ?_
                refine lv_icmp_ge (tgt := 99) hx hb dX5_result_94 (by decide) (fun c55 => ?_) (fun c55 => ?_)
                · have g56 := z_f_ge rfl z_l1 c55
                  refine lv_aload_n hx hb dX5_result_99 rfl (lv_at hl 3 rfl) ?_
                  refine z_get (T := TX5) (N := 2) (ci := 5) (i := 23) (v := .ref (ad 25)) hx hb hts zj_X5_result_X5 hown hK hW rfl rfl 1 (by decide) (hts (.fieldLink RX5 15 "PetrolBoard$Machine" "stack" "[I") (me_s (me_l (List.mem_of_getElem? (i := 4) rfl)))) (fun _ h => h) rfl dX5_result_100 ?_
                  refine lv_iload_n hx hb dX5_result_103 rfl (lv_at hl 2 rfl) ?_
                  refine lv_iconst (v := 1) hx hb dX5_result_104 (by decide) ?_
                  refine lv_isub hx hb dX5_result_105 ?_
                  refine lv_topi (fun x57 ex57 => ?_)
                  have tx57 : x57.toInt = y4.toInt - 1 := z_tsub ex57 rfl z_l1 (by omega) (by omega)
                  refine lv_iconst (v := 1) hx hb dX5_result_106 (by decide) ?_
                  refine lv_aload_n hx hb dX5_result_107 rfl (lv_at hl 3 rfl) ?_
                  refine z_get (T := TX5) (N := 2) (ci := 5) (i := 23) (v := .ref (ad 25)) hx hb hts zj_X5_result_X5 hown hK hW rfl rfl 1 (by decide) (hts (.fieldLink RX5 15 "PetrolBoard$Machine" "stack" "[I") (me_s (me_l (List.mem_of_getElem? (i := 4) rfl)))) (fun _ h => h) rfl dX5_result_108 ?_
                  refine lv_iload_n hx hb dX5_result_111 rfl (lv_at hl 2 rfl) ?_
                  refine lv_iconst (v := 1) hx hb dX5_result_112 (by decide) ?_
                  refine lv_isub hx hb dX5_result_113 ?_
                  refine lv_topi (fun x58 ex58 => ?_)
                  have tx58 : x58.toInt = y4.toInt - 1 := z_tsub ex58 rfl z_l1 (by omega) (by omega)
                  refine z_iald (i := 25) hx hb hK hW rfl (z_ix rfl (by omega) (by omega)) dX5_result_114 ?_
                  refine lv_topi (fun x59 ex59 => ?_)
                  refine lv_isub hx hb dX5_result_115 ?_
                  refine lv_topi (fun x60 ex60 => ?_)
                  refine z_iast (i := 25) hx hb hK hW hS rfl (z_ix rfl (by omega) (by omega)) dX5_result_116 (fun H locs hz1 hW hS => ?_)
                  obtain ⟨I61, eI61⟩ : ∃ K : z_I, K = z_up I5 25 x57.toNatClampNeg x60 := ⟨_, rfl⟩
                  rw [← eI61] at hW
                  have f62 := z_fr_a lp2fr (show z_wa L_X5_result 25 = true by decide) eI61
                  refine lv_goto (tgt := 157) hx hb dX5_result_117 (by decide) ?_
                  obtain ⟨x63, ex63⟩ : ∃ y : Int32, y = y3 + 1 := ⟨_, rfl⟩
                  have tx63 : x63.toInt = y3.toInt + 1 := z_tadd ex63 rfl z_l1 (by omega) (by omega)
                  refine lv_iinc (v := x63) (lv' := [(4, .int x63), (5, .int x16), (3, .int y4), (0, .ref (ad 23)), (1, .ref (ad (200 + 5 * k + 4))), (2, .int a2)]) hx hb dX5_result_157 hl (k := 1) rfl (by rw [ex63]; rfl) (by decide) rfl (fun ls hl => ?_)
                  refine lv_goto (tgt := 9) hx hb dX5_result_160 (by decide) ?_
                  exact lp2ih x63 y4 I61  _ _ _ (by omega) (by omega) (by omega) (by omega) f62 hW hS (lv_sub hl [0, 2, 3, 4, 5] rfl)
                · have g64 := z_f_nge rfl z_l1 c55
                  refine lv_iconst (v := 0) hx hb dX5_result_97 (by decide) ?_
                  exact z_iret hx hb hr hK hS (Nat.le_of_ble_eq_true rfl) (Nat.le_of_ble_eq_true rfl) hlocks dX5_result_98 (shC c, ad, I5, JX, PC c ad) hW ⟨I5, rfl, lp2fr⟩
            · have g65 := z_f_ngt rfl z_lm20 c38
              refine lv_iload_n hx hb dX5_result_43 rfl (lv_at hl 2 rfl) ?_
              refine lv_aload_n hx hb dX5_result_44 rfl (lv_at hl 3 rfl) ?_
              refine z_get (T := TX5) (N := 2) (ci := 5) (i := 23) (v := .ref (ad 25)) hx hb hts zj_X5_result_X5 hown hK hW rfl rfl 1 (by decide) (hts (.fieldLink RX5 15 "PetrolBoard$Machine" "stack" "[I") (me_s (me_l (List.mem_of_getElem? (i := 4) rfl)))) (fun _ h => h) rfl dX5_result_45 ?_
              refine z_alen (i := 25) (v := 64) hx hb hK hW rfl (by simp [z_tys]) (by rfl) dX5_result_48 ?_
              refine lv_icmp_lt (tgt := 54) hx hb dX5_result_49 (by decide) (fun c66 => ?_) (fun c66 => ?_)
              · have g67 := z_f_lt rfl z_l64 c66
                refine lv_aload_n hx hb dX5_result_54 rfl (lv_at hl 3 rfl) ?_
                refine z_get (T := TX5) (N := 2) (ci := 5) (i := 23) (v := .ref (ad 25)) hx hb hts zj_X5_result_X5 hown hK hW rfl rfl 1 (by decide) (hts (.fieldLink RX5 15 "PetrolBoard$Machine" "stack" "[I") (me_s (me_l (List.mem_of_getElem? (i := 4) rfl)))) (fun _ h => h) rfl dX5_result_55 ?_
                refine lv_iload_n hx hb dX5_result_58 rfl (lv_at hl 2 rfl) ?_
                refine lv_iload hx hb dX5_result_59 (lv_at hl 0 rfl) ?_
                refine lv_if_lt (tgt := 69) hx hb dX5_result_61 (by decide) (fun c68 => ?_) (fun c68 => (by have g := z_f_nlt rfl z_l0 c68; omega))
                have g69 := z_f_lt rfl z_l0 c68
                refine lv_aload_n hx hb dX5_result_69 rfl (lv_at hl 3 rfl) ?_
                refine lv_bipush (v := (-20)) hx hb dX5_result_70 (by decide) ?_
                refine lv_iload hx hb dX5_result_72 (lv_at hl 0 rfl) ?_
                refine lv_isub hx hb dX5_result_74 ?_
                refine lv_topi (fun x70 ex70 => ?_)
                have tx70 : x70.toInt = (-20) - x16.toInt := z_tsub ex70 z_lm20 rfl (by have := Int32.le_toInt x16; have := Int32.toInt_lt x16; omega) (by have := Int32.le_toInt x16; have := Int32.toInt_lt x16; omega)
                refine z_ci hW hS hA (va_runV (As := [.int x70]) (rest := [.int y4, .ref (ad 25)]) ⟨hx, hb, hml, hown, hts⟩ (sx_X5_nameValue l G ad c I5  x70 _) (cwV 1 hts gX5_result_X5_nameValue rfl rfl rfl hy_X5_nameValue ⟨Nat.le_of_ble_eq_true rfl, Nat.le_of_ble_eq_true rfl⟩) (z_preV (i := 23) hK hW rfl rfl) rfl rfl hl.1 rfl (lv_room (Nat.le_of_ble_eq_true rfl)) dX5_result_75 ⟨Nat.le_of_ble_eq_true rfl, Nat.le_of_ble_eq_true rfl⟩) (fun r u1 H locs hp hW hS => ?_)
                rw [hp] at hW
                refine lv_topi (fun x71 ex71 => ?_)
                refine z_iast (i := 25) hx hb hK hW hS rfl (z_ix rfl (by omega) (by omega)) dX5_result_78 (fun H locs hz1 hW hS => ?_)
                obtain ⟨I72, eI72⟩ : ∃ K : z_I, K = z_up I5 25 y4.toNatClampNeg x71 := ⟨_, rfl⟩
                rw [← eI72] at hW
                have f73 := z_fr_a lp2fr (show z_wa L_X5_result 25 = true by decide) eI72
                obtain ⟨x74, ex74⟩ : ∃ y : Int32, y = y4 + 1 := ⟨_, rfl⟩
                have tx74 : x74.toInt = y4.toInt + 1 := z_tadd ex74 rfl z_l1 (by omega) (by omega)
                refine lv_iinc (v := x74) (lv' := [(3, .int x74), (5, .int x16), (4, .int y3), (0, .ref (ad 23)), (1, .ref (ad (200 + 5 * k + 4))), (2, .int a2)]) hx hb dX5_result_79 hl (k := 2) rfl (by rw [ex74]; rfl) (by decide) rfl (fun ls hl => ?_)
                refine lv_goto (tgt := 157) hx hb dX5_result_82 (by decide) ?_
                obtain ⟨x75, ex75⟩ : ∃ y : Int32, y = y3 + 1 := ⟨_, rfl⟩
                have tx75 : x75.toInt = y3.toInt + 1 := z_tadd ex75 rfl z_l1 (by omega) (by omega)
                refine lv_iinc (v := x75) (lv' := [(4, .int x75), (3, .int x74), (5, .int x16), (0, .ref (ad 23)), (1, .ref (ad (200 + 5 * k + 4))), (2, .int a2)]) hx hb dX5_result_157 hl (k := 2) rfl (by rw [ex75]; rfl) (by decide) rfl (fun ls hl => ?_)
                refine lv_goto (tgt := 9) hx hb dX5_result_160 (by decide) ?_
                exact lp2ih x75 x74 I72  _ _ _ (by omega) (by omega) (by omega) (by omega) f73 hW hS (lv_sub hl [0, 1, 3, 4, 5] rfl)
              · have g76 := z_f_nlt rfl z_l64 c66
                refine lv_iconst (v := 0) hx hb dX5_result_52 (by decide) ?_
                exact z_iret hx hb hr hK hS (Nat.le_of_ble_eq_true rfl) (Nat.le_of_ble_eq_true rfl) hlocks dX5_result_53 (shC c, ad, I5, JX, PC c ad) hW ⟨I5, rfl, lp2fr⟩
  exact lp2 4294967296 x1 (0) I  _ _ _ (z_m0u _) (by omega) (by rw [z_l0]; omega) (by rw [z_l0]; omega) z_fr_0 hW hS (lv_sub hl [0, 1, 2, 3, 4] rfl)
theorem zj_X7_amount_X7 : ∀ w ∈ wsX70, w ∈ wsX7_amount := fun w h => (List.mem_cons_of_mem _ (List.mem_append_right _ h))
set_option maxHeartbeats 8000000 in
set_option maxRecDepth 100000 in
theorem sx_X7_amount (l : Launch) (G : z_G) (ad : Nat → Nat) (c : z_C) (I : z_I) (k : Nat) (a1 : Int32) (hk : k < c.2.1) (hc : z_okc c) : z_MS l yX7_amount wsX7_amount { frames := 2, cells := 0, slots := 0, locals := 32 } [.ref (ad (200 + 5 * k)), .int a1] G (shC c, ad, I, JX, PC c ad) (fun r u1 => u1 = (shC c, ad, I, JX, PC c ad)) 0 0 := by
  intro sz
  refine z_headS (cc := cX7_amount) (maxL := 3) (ret := (some .int)) (by decide) rfl (Nat.le_of_ble_eq_true rfl) ?_
  intro p e s m below meth c0 ls hIn hK hsz hW hl hSt
  obtain ⟨hx, hb, hr, hml, hown, hts, hlocks, hname⟩ := hIn
  subst hsz
  have hown : s.vm.findClass RX7 = some m.cls := hown
  have hA : ∀ q : Nat, s.heap.size ≤ q → z_A (shC c, ad, I, JX, PC c ad) s.heap.size q := fun q h => Or.inr h
  generalize hAe : z_A (shC c, ad, I, JX, PC c ad) s.heap.size = A at *
  have hS : va_S A s.heap s.heap [] := va_S.rf
  have hl : lv_has ls 3 [(0, .ref (ad (200 + 5 * k))), (1, .int a1)] := hl
  refine lv_aload_n hx hb dX7_amount_0 rfl (lv_at hl 0 rfl) ?_
  refine z_get (T := TX7) (N := 6) (ci := 7) (i := (200 + 5 * k)) (v := .ref (ad (200 + 5 * k + 2))) hx hb hts zj_X7_amount_X7 hown hK hW (z_so0 hk) rfl 3 (by decide) (hts (.fieldLink RX7 44 "PetrolBoard$Orders" "first" "[I") (me_s (me_l (List.mem_of_getElem? (i := 0) rfl)))) (fun _ h => h) (z_pO rfl rfl) dX7_amount_1 ?_
  have r1 := (hc k hk).1
  refine z_alen (i := (200 + 5 * k + 2)) (v := (c.2.2.1 k).toInt32) hx hb hK hW (z_so123 hk (by decide)) (by simp [z_tys]) (by rfl) dX7_amount_4 ?_
  refine lv_iconst (v := 1) hx hb dX7_amount_5 (by decide) ?_
  refine lv_isub hx hb dX7_amount_6 ?_
  refine lv_topi (fun x2 ex2 => ?_)
  have tx2 : x2.toInt = ((c.2.2.1 k : Nat) : Int) - 1 := z_tsub ex2 (z_len (Nat.le_trans (hc k hk).1 (by decide))) z_l1 (by omega) (by omega)
  refine lv_istore_n (lv' := [(2, .int x2), (0, .ref (ad (200 + 5 * k))), (1, .int a1)]) hx hb dX7_amount_7 rfl hl (by decide) rfl (fun ls hl => ?_)
  have lp3 : ∀ (f : Nat) (y4 : Int32) (H : Heap) (locs : List Loc) (ls : Array Slot), (y4.toInt + 2147483648 < (f : Int)) → (y4.toInt ≤ 23) → z_W G A (shC c, ad, I, JX, PC c ad) H → va_S A s.heap H locs → lv_has ls 3 [(2, .int y4), (0, .ref (ad (200 + 5 * k))), (1, .int a1)] → W p l e (headSpec wsX7_amount { frames := 2, cells := 0, slots := 0, locals := 32 }).room s m ([.ref (ad (200 + 5 * k)), .int a1] : List Value).toArray below meth c0 H locs 0 0 (MQ below (va_Qi (fun (r : Int32) (u1 : z_U) => u1 = (shC c, ad, I, JX, PC c ad)) (z_B G A) A) ([.ref (ad (200 + 5 * k)), .int a1] : List Value).toArray s 0 0 A) (F0 m 8 ls []) := by
    intro f
    induction f with
    | zero => intro y4 H locs ls lp3m lp3u2 hW hS hl; exact absurd lp3m (by have := Int32.toInt_lt y4; have := Int32.le_toInt y4; omega)
    | succ f lp3ih =>
      intro y4 H locs ls lp3m lp3u2 hW hS hl
      refine lv_iload_n hx hb dX7_amount_8 rfl (lv_at hl 0 rfl) ?_
      refine lv_if_lt (tgt := 48) hx hb dX7_amount_9 (by decide) (fun c5 => ?_) (fun c5 => ?_)
      · have g6 := z_f_lt rfl z_l0 c5
        refine lv_iload_n hx hb dX7_amount_48 rfl (lv_at hl 2 rfl) ?_
        refine z_ci hW hS hA (va_runSN (As := [.int a1]) (rest := []) ⟨hx, hb, hml, hown, hts⟩ (sx_X11_usual l G ad c I  a1 _) ⟨va_cnB 1 hts gX7_amount_X11_usual_n53 rfl rfl rfl (hK.2.2.1 _ (List.mem_of_getElem? (i := 10) rfl)) (hts (.initialized RX11) (me_s (me_l (List.mem_of_getElem? (i := 3) rfl)))) (by decide +kernel) ⟨Nat.le_of_ble_eq_true rfl, Nat.le_of_ble_eq_true rfl⟩, (hts (.static yX11_usual) (me_s (me_l (List.mem_of_getElem? (i := 2) rfl)))), trivial⟩ (z_preSS hK hW hS hA hSt) rfl rfl hl.1 rfl (lv_room (Nat.le_of_ble_eq_true rfl)) dX7_amount_49 ⟨Nat.le_of_ble_eq_true rfl, Nat.le_of_ble_eq_true rfl⟩) (fun r u1 H locs hp hW hS => ?_)
        rw [hp] at hW
        refine lv_topi (fun x7 ex7 => ?_)
        exact z_iret hx hb hr hK hS (Nat.le_of_ble_eq_true rfl) (Nat.le_of_ble_eq_true rfl) hlocks dX7_amount_52 (shC c, ad, I, JX, PC c ad) hW rfl
      · have g8 := z_f_nlt rfl z_l0 c5
        refine lv_iload_n hx hb dX7_amount_12 rfl (lv_at hl 0 rfl) ?_
        refine lv_aload_n hx hb dX7_amount_13 rfl (lv_at hl 1 rfl) ?_
        refine z_get (T := TX7) (N := 6) (ci := 7) (i := (200 + 5 * k)) (v := .ref (ad (200 + 5 * k + 1))) hx hb hts zj_X7_amount_X7 hown hK hW (z_so0 hk) rfl 2 (by decide) (hts (.fieldLink RX7 40 "PetrolBoard$Orders" "head" "[I") (me_s (me_l (List.mem_of_getElem? (i := 1) rfl)))) (fun _ h => h) (z_pO rfl rfl) dX7_amount_14 ?_
        have r9 := (hc k hk).1
        refine z_alen (i := (200 + 5 * k + 1)) (v := (c.2.2.1 k).toInt32) hx hb hK hW (z_so123 hk (by decide)) (by simp [z_tys]) (by rfl) dX7_amount_17 ?_
        refine lv_icmp_ge (tgt := 42) hx hb dX7_amount_18 (by decide) (fun c10 => ?_) (fun c10 => ?_)
        · have g11 := z_f_ge rfl (z_len (Nat.le_trans (hc k hk).1 (by decide))) c10
          obtain ⟨x12, ex12⟩ : ∃ y : Int32, y = y4 + (-1) := ⟨_, rfl⟩
          have tx12 : x12.toInt = y4.toInt + (-1) := z_tadd ex12 rfl z_lm1 (by omega) (by omega)
          refine lv_iinc (v := x12) (lv' := [(2, .int x12), (0, .ref (ad (200 + 5 * k))), (1, .int a1)]) hx hb dX7_amount_42 hl (k := 0) rfl (by rw [ex12]; rfl) (by decide) rfl (fun ls hl => ?_)
          refine lv_goto (tgt := 8) hx hb dX7_amount_45 (by decide) ?_
          exact lp3ih x12 _ _ _ (by omega) (by omega) hW hS (lv_sub hl [0, 1, 2] rfl)
        · have g13 := z_f_nge rfl (z_len (Nat.le_trans (hc k hk).1 (by decide))) c10
          refine lv_aload_n hx hb dX7_amount_21 rfl (lv_at hl 1 rfl) ?_
          refine z_get (T := TX7) (N := 6) (ci := 7) (i := (200 + 5 * k)) (v := .ref (ad (200 + 5 * k + 1))) hx hb hts zj_X7_amount_X7 hown hK hW (z_so0 hk) rfl 2 (by decide) (hts (.fieldLink RX7 40 "PetrolBoard$Orders" "head" "[I") (me_s (me_l (List.mem_of_getElem? (i := 1) rfl)))) (fun _ h => h) (z_pO rfl rfl) dX7_amount_22 ?_
          refine lv_iload_n hx hb dX7_amount_25 rfl (lv_at hl 0 rfl) ?_
          refine z_iald (i := (200 + 5 * k + 1)) hx hb hK hW (z_so123 hk (by decide)) (z_ix rfl (by omega) (by omega)) dX7_amount_26 ?_
          refine lv_topi (fun x14 ex14 => ?_)
          refine lv_sipush (v := 303) hx hb dX7_amount_27 (by decide) ?_
          refine lv_iload_n hx hb dX7_amount_30 rfl (lv_at hl 2 rfl) ?_
          refine lv_iadd hx hb dX7_amount_31 ?_
          refine lv_topi (fun x15 ex15 => ?_)
          refine lv_icmp_ne (tgt := 42) hx hb dX7_amount_32 (by decide) (fun c16 => ?_) (fun c16 => ?_)
          · have g17 := z_f_ne rfl rfl c16
            have b18 := Int32.toInt_lt x14
            have b19 := Int32.toInt_lt x15
            obtain ⟨x20, ex20⟩ : ∃ y : Int32, y = y4 + (-1) := ⟨_, rfl⟩
            have tx20 : x20.toInt = y4.toInt + (-1) := z_tadd ex20 rfl z_lm1 (by omega) (by omega)
            refine lv_iinc (v := x20) (lv' := [(2, .int x20), (0, .ref (ad (200 + 5 * k))), (1, .int a1)]) hx hb dX7_amount_42 hl (k := 0) rfl (by rw [ex20]; rfl) (by decide) rfl (fun ls hl => ?_)
            refine lv_goto (tgt := 8) hx hb dX7_amount_45 (by decide) ?_
            exact lp3ih x20 _ _ _ (by omega) (by omega) hW hS (lv_sub hl [0, 1, 2] rfl)
          · have g21 := z_f_eq rfl rfl c16
            have b22 := Int32.toInt_lt x14
            have b23 := Int32.toInt_lt x15
            refine lv_aload_n hx hb dX7_amount_35 rfl (lv_at hl 1 rfl) ?_
            refine z_get (T := TX7) (N := 6) (ci := 7) (i := (200 + 5 * k)) (v := .ref (ad (200 + 5 * k + 2))) hx hb hts zj_X7_amount_X7 hown hK hW (z_so0 hk) rfl 3 (by decide) (hts (.fieldLink RX7 44 "PetrolBoard$Orders" "first" "[I") (me_s (me_l (List.mem_of_getElem? (i := 0) rfl)))) (fun _ h => h) (z_pO rfl rfl) dX7_amount_36 ?_
            refine lv_iload_n hx hb dX7_amount_39 rfl (lv_at hl 0 rfl) ?_
            refine z_iald (i := (200 + 5 * k + 2)) hx hb hK hW (z_so123 hk (by decide)) (z_ix rfl (by omega) (by omega)) dX7_amount_40 ?_
            refine lv_topi (fun x24 ex24 => ?_)
            exact z_iret hx hb hr hK hS (Nat.le_of_ble_eq_true rfl) (Nat.le_of_ble_eq_true rfl) hlocks dX7_amount_41 (shC c, ad, I, JX, PC c ad) hW rfl
  exact lp3 4294967296 x2 _ _ _ (z_m0d _) (by omega) hW hS (lv_sub hl [0, 1, 2] rfl)
noncomputable def L_X7_holds : z_L := [(25, 999)]
theorem zj_X7_holds_X7 : ∀ w ∈ wsX70, w ∈ wsX7_holds := fun w h => (List.mem_cons_of_mem _ (List.mem_append_left _ (List.mem_append_right _ h)))
set_option maxHeartbeats 8000000 in
set_option maxRecDepth 100000 in
theorem sx_X7_holds (l : Launch) (G : z_G) (ad : Nat → Nat) (c : z_C) (I : z_I) (k : Nat) (a1 : Int32) (hk : k < c.2.1) (hc : z_okc c) : z_M l yX7_holds wsX7_holds { frames := 3, cells := 0, slots := 0, locals := 89 } [.ref (ad (200 + 5 * k)), .int a1, .ref (ad 23)] G (shC c, ad, I, JX, PC c ad) (fun r u1 => ∃ I1 : z_I, u1 = (shC c, ad, I1, JX, PC c ad) ∧ z_fr L_X7_holds I1 I ∧ (r = 1 ∨ r = 0)) 0 0 := by
  intro sz
  refine z_headQ (cc := cX7_holds) (maxL := 3) (ret := (some .boolean)) (by decide) rfl (Nat.le_of_ble_eq_true rfl) ?_
  intro p e s m below meth c0 ls hIn hK hsz hW hl
  obtain ⟨hx, hb, hr, hml, hown, hts, hlocks, hname⟩ := hIn
  subst hsz
  have hown : s.vm.findClass RX7 = some m.cls := hown
  have hA : ∀ q : Nat, s.heap.size ≤ q → z_A (shC c, ad, I, JX, PC c ad) s.heap.size q := fun q h => Or.inr h
  generalize hAe : z_A (shC c, ad, I, JX, PC c ad) s.heap.size = A at *
  have hS : va_S A s.heap s.heap [] := va_S.rf
  have hl : lv_has ls 3 [(0, .ref (ad (200 + 5 * k))), (1, .int a1), (2, .ref (ad 23))] := hl
  refine lv_iload_n hx hb dX7_holds_0 rfl (lv_at hl 1 rfl) ?_
  refine lv_if_lt (tgt := 23) hx hb dX7_holds_1 (by decide) (fun c1 => ?_) (fun c1 => ?_)
  · have g2 := z_f_lt rfl z_l0 c1
    have b3 := Int32.toInt_lt a1
    refine lv_iconst (v := 1) hx hb dX7_holds_23 (by decide) ?_
    exact z_zret hx hb hr (by decide) hK hS (Nat.le_of_ble_eq_true rfl) (Nat.le_of_ble_eq_true rfl) hlocks dX7_holds_24 (shC c, ad, I, JX, PC c ad) hW ⟨I, rfl, z_fr_0, Or.inl rfl⟩
  · have g4 := z_f_nlt rfl z_l0 c1
    have b5 := Int32.toInt_lt a1
    refine lv_iload_n hx hb dX7_holds_4 rfl (lv_at hl 1 rfl) ?_
    refine lv_aload_n hx hb dX7_holds_5 rfl (lv_at hl 0 rfl) ?_
    refine z_get (T := TX7) (N := 6) (ci := 7) (i := (200 + 5 * k)) (v := .ref (ad (200 + 5 * k + 3))) hx hb hts zj_X7_holds_X7 hown hK hW (z_so0 hk) rfl 4 (by decide) (hts (.fieldLink RX7 48 "PetrolBoard$Orders" "second" "[I") (me_s (me_l (me_l (me_l (List.mem_of_getElem? (i := 0) rfl)))))) (fun _ h => h) (z_pO rfl rfl) dX7_holds_6 ?_
    have r6 := (hc k hk).1
    refine z_alen (i := (200 + 5 * k + 3)) (v := (c.2.2.1 k).toInt32) hx hb hK hW (z_so123 hk (by decide)) (by simp [z_tys]) (by rfl) dX7_holds_9 ?_
    refine lv_icmp_ge (tgt := 23) hx hb dX7_holds_10 (by decide) (fun c7 => ?_) (fun c7 => ?_)
    · have g8 := z_f_ge rfl (z_len (Nat.le_trans (hc k hk).1 (by decide))) c7
      refine lv_iconst (v := 1) hx hb dX7_holds_23 (by decide) ?_
      exact z_zret hx hb hr (by decide) hK hS (Nat.le_of_ble_eq_true rfl) (Nat.le_of_ble_eq_true rfl) hlocks dX7_holds_24 (shC c, ad, I, JX, PC c ad) hW ⟨I, rfl, z_fr_0, Or.inl rfl⟩
    · have g9 := z_f_nge rfl (z_len (Nat.le_trans (hc k hk).1 (by decide))) c7
      refine lv_aload_n hx hb dX7_holds_13 rfl (lv_at hl 0 rfl) ?_
      refine z_get (T := TX7) (N := 6) (ci := 7) (i := (200 + 5 * k)) (v := .ref (ad (200 + 5 * k + 3))) hx hb hts zj_X7_holds_X7 hown hK hW (z_so0 hk) rfl 4 (by decide) (hts (.fieldLink RX7 48 "PetrolBoard$Orders" "second" "[I") (me_s (me_l (me_l (me_l (List.mem_of_getElem? (i := 0) rfl)))))) (fun _ h => h) (z_pO rfl rfl) dX7_holds_14 ?_
      refine lv_iload_n hx hb dX7_holds_17 rfl (lv_at hl 1 rfl) ?_
      refine z_iald (i := (200 + 5 * k + 3)) hx hb hK hW (z_so123 hk (by decide)) (z_ix rfl (by omega) (by omega)) dX7_holds_18 ?_
      refine lv_topi (fun x10 ex10 => ?_)
      refine lv_iconst (v := (-1)) hx hb dX7_holds_19 (by decide) ?_
      refine lv_icmp_ne (tgt := 25) hx hb dX7_holds_20 (by decide) (fun c11 => ?_) (fun c11 => ?_)
      · have g12 := z_f_ne rfl z_lm1 c11
        have b13 := Int32.toInt_lt x10
        refine lv_aload_n hx hb dX7_holds_25 rfl (lv_at hl 2 rfl) ?_
        refine lv_aload_n hx hb dX7_holds_26 rfl (lv_at hl 0 rfl) ?_
        refine z_get (T := TX7) (N := 6) (ci := 7) (i := (200 + 5 * k)) (v := .ref (ad (200 + 5 * k + 4))) hx hb hts zj_X7_holds_X7 hown hK hW (z_so0 hk) rfl 5 (by decide) (hts (.fieldLink RX7 52 "PetrolBoard$Orders" "code" "[I") (me_s (me_l (me_l (me_l (List.mem_of_getElem? (i := 1) rfl)))))) (fun _ h => h) (z_pO rfl rfl) dX7_holds_27 ?_
        refine lv_aload_n hx hb dX7_holds_30 rfl (lv_at hl 0 rfl) ?_
        refine z_get (T := TX7) (N := 6) (ci := 7) (i := (200 + 5 * k)) (v := .ref (ad (200 + 5 * k + 3))) hx hb hts zj_X7_holds_X7 hown hK hW (z_so0 hk) rfl 4 (by decide) (hts (.fieldLink RX7 48 "PetrolBoard$Orders" "second" "[I") (me_s (me_l (me_l (me_l (List.mem_of_getElem? (i := 0) rfl)))))) (fun _ h => h) (z_pO rfl rfl) dX7_holds_31 ?_
        refine lv_iload_n hx hb dX7_holds_34 rfl (lv_at hl 1 rfl) ?_
        refine z_iald (i := (200 + 5 * k + 3)) hx hb hK hW (z_so123 hk (by decide)) (z_ix rfl (by omega) (by omega)) dX7_holds_35 ?_
        refine z_topi (v := x10) ex10.symm ?_
        refine z_ci hW hS hA (va_runV (As := [.ref (ad (200 + 5 * k + 4)), .int x10]) (rest := []) ⟨hx, hb, hml, hown, hts⟩ (sx_X5_result l G ad c I  k x10 hk hc _) (cwV 2 hts gX7_holds_X5_result rfl rfl rfl hy_X5_result ⟨Nat.le_of_ble_eq_true rfl, Nat.le_of_ble_eq_true rfl⟩) (z_preV (i := 23) hK hW rfl rfl) rfl rfl hl.1 rfl (lv_room (Nat.le_of_ble_eq_true rfl)) dX7_holds_36 ⟨Nat.le_of_ble_eq_true rfl, Nat.le_of_ble_eq_true rfl⟩) (fun r u1 H locs hp hW hS => ?_)
        obtain ⟨I14, e9, fI14⟩ := hp
        rw [e9] at hW
        have f15 := z_fr_sub (L := L_X7_holds) z_fr_0 fI14 (by decide)
        refine lv_topi (fun x16 ex16 => ?_)
        refine lv_if_eq (tgt := 46) hx hb dX7_holds_39 (by decide) (fun c17 => ?_) (fun c17 => ?_)
        · have g18 := z_f_eq rfl z_l0 c17
          have b19 := Int32.toInt_lt x16
          refine lv_iconst (v := 0) hx hb dX7_holds_46 (by decide) ?_
          exact z_zret hx hb hr (by decide) hK hS (Nat.le_of_ble_eq_true rfl) (Nat.le_of_ble_eq_true rfl) hlocks dX7_holds_47 (shC c, ad, I14, JX, PC c ad) hW ⟨I14, rfl, f15, Or.inr rfl⟩
        · have g20 := z_f_ne rfl z_l0 c17
          have b21 := Int32.toInt_lt x16
          refine lv_iconst (v := 1) hx hb dX7_holds_42 (by decide) ?_
          refine lv_goto (tgt := 47) hx hb dX7_holds_43 (by decide) ?_
          exact z_zret hx hb hr (by decide) hK hS (Nat.le_of_ble_eq_true rfl) (Nat.le_of_ble_eq_true rfl) hlocks dX7_holds_47 (shC c, ad, I14, JX, PC c ad) hW ⟨I14, rfl, f15, Or.inl rfl⟩
      · have g22 := z_f_eq rfl z_lm1 c11
        have b23 := Int32.toInt_lt x10
        refine lv_iconst (v := 1) hx hb dX7_holds_23 (by decide) ?_
        exact z_zret hx hb hr (by decide) hK hS (Nat.le_of_ble_eq_true rfl) (Nat.le_of_ble_eq_true rfl) hlocks dX7_holds_24 (shC c, ad, I, JX, PC c ad) hW ⟨I, rfl, z_fr_0, Or.inl rfl⟩
noncomputable def L_X7_stops : z_L := [(25, 999)]
theorem zj_X7_stops_X7 : ∀ w ∈ wsX70, w ∈ wsX7_stops := fun w h => (List.mem_cons_of_mem _ (List.mem_append_left _ (List.mem_append_right _ h)))
set_option maxHeartbeats 8000000 in
set_option maxRecDepth 100000 in
theorem sx_X7_stops (l : Launch) (G : z_G) (ad : Nat → Nat) (c : z_C) (I : z_I) (k : Nat) (hk : k < c.2.1) (hc : z_okc c) : z_M l yX7_stops wsX7_stops { frames := 4, cells := 0, slots := 0, locals := 111 } [.ref (ad (200 + 5 * k)), .ref (ad 23)] G (shC c, ad, I, JX, PC c ad) (fun r u1 => ∃ I1 : z_I, u1 = (shC c, ad, I1, JX, PC c ad) ∧ z_fr L_X7_stops I1 I ∧ (r = 1 ∨ r = 0)) 0 0 := by
  intro sz
  refine z_headQ (cc := cX7_stops) (maxL := 3) (ret := (some .boolean)) (by decide) rfl (Nat.le_of_ble_eq_true rfl) ?_
  intro p e s m below meth c0 ls hIn hK hsz hW hl
  obtain ⟨hx, hb, hr, hml, hown, hts, hlocks, hname⟩ := hIn
  subst hsz
  have hown : s.vm.findClass RX7 = some m.cls := hown
  have hA : ∀ q : Nat, s.heap.size ≤ q → z_A (shC c, ad, I, JX, PC c ad) s.heap.size q := fun q h => Or.inr h
  generalize hAe : z_A (shC c, ad, I, JX, PC c ad) s.heap.size = A at *
  have hS : va_S A s.heap s.heap [] := va_S.rf
  have hl : lv_has ls 3 [(0, .ref (ad (200 + 5 * k))), (1, .ref (ad 23))] := hl
  refine lv_iconst (v := 0) hx hb dX7_stops_0 (by decide) ?_
  refine lv_istore_n (lv' := [(2, .int 0), (0, .ref (ad (200 + 5 * k))), (1, .ref (ad 23))]) hx hb dX7_stops_1 rfl hl (by decide) rfl (fun ls hl => ?_)
  have lp1 : ∀ (f : Nat) (y2 : Int32) (I3 : z_I) (H : Heap) (locs : List Loc) (ls : Array Slot), (2147483647 < y2.toInt + (f : Int)) → (0 ≤ y2.toInt) → (z_fr L_X7_stops I3 I) → z_W G A (shC c, ad, I3, JX, PC c ad) H → va_S A s.heap H locs → lv_has ls 3 [(2, .int y2), (0, .ref (ad (200 + 5 * k))), (1, .ref (ad 23))] → W p l e (headSpec wsX7_stops { frames := 4, cells := 0, slots := 0, locals := 111 }).room s m ([.ref (ad (200 + 5 * k)), .ref (ad 23)] : List Value).toArray below meth c0 H locs 0 0 (MQ below (va_Qi (fun (r : Int32) (u1 : z_U) => ∃ I1 : z_I, u1 = (shC c, ad, I1, JX, PC c ad) ∧ z_fr L_X7_stops I1 I ∧ (r = 1 ∨ r = 0)) (z_B G A) A) ([.ref (ad (200 + 5 * k)), .ref (ad 23)] : List Value).toArray s 0 0 A) (F0 m 2 ls []) := by
    intro f
    induction f with
    | zero => intro y2 I3  H locs ls lp1m lp1l2 lp1fr hW hS hl; exact absurd lp1m (by have := Int32.toInt_lt y2; have := Int32.le_toInt y2; omega)
    | succ f lp1ih =>
      intro y2 I3  H locs ls lp1m lp1l2 lp1fr hW hS hl
      refine lv_iload_n hx hb dX7_stops_2 rfl (lv_at hl 0 rfl) ?_
      refine lv_aload_n hx hb dX7_stops_3 rfl (lv_at hl 1 rfl) ?_
      refine z_get (T := TX7) (N := 6) (ci := 7) (i := (200 + 5 * k)) (v := .ref (ad (200 + 5 * k + 1))) hx hb hts zj_X7_stops_X7 hown hK hW (z_so0 hk) rfl 2 (by decide) (hts (.fieldLink RX7 40 "PetrolBoard$Orders" "head" "[I") (me_s (me_l (me_l (me_l (List.mem_of_getElem? (i := 0) rfl)))))) (fun _ h => h) (z_pO rfl rfl) dX7_stops_4 ?_
      have r4 := (hc k hk).1
      refine z_alen (i := (200 + 5 * k + 1)) (v := (c.2.2.1 k).toInt32) hx hb hK hW (z_so123 hk (by decide)) (by simp [z_tys]) (by rfl) dX7_stops_7 ?_
      refine lv_icmp_ge (tgt := 40) hx hb dX7_stops_8 (by decide) (fun c5 => ?_) (fun c5 => ?_)
      · have g6 := z_f_ge rfl (z_len (Nat.le_trans (hc k hk).1 (by decide))) c5
        have b7 := Int32.toInt_lt y2
        refine lv_iconst (v := 0) hx hb dX7_stops_40 (by decide) ?_
        exact z_zret hx hb hr (by decide) hK hS (Nat.le_of_ble_eq_true rfl) (Nat.le_of_ble_eq_true rfl) hlocks dX7_stops_41 (shC c, ad, I3, JX, PC c ad) hW ⟨I3, rfl, lp1fr, Or.inr rfl⟩
      · have g8 := z_f_nge rfl (z_len (Nat.le_trans (hc k hk).1 (by decide))) c5
        have b9 := Int32.toInt_lt y2
        refine lv_aload_n hx hb dX7_stops_11 rfl (lv_at hl 1 rfl) ?_
        refine z_get (T := TX7) (N := 6) (ci := 7) (i := (200 + 5 * k)) (v := .ref (ad (200 + 5 * k + 1))) hx hb hts zj_X7_stops_X7 hown hK hW (z_so0 hk) rfl 2 (by decide) (hts (.fieldLink RX7 40 "PetrolBoard$Orders" "head" "[I") (me_s (me_l (me_l (me_l (List.mem_of_getElem? (i := 0) rfl)))))) (fun _ h => h) (z_pO rfl rfl) dX7_stops_12 ?_
        refine lv_iload_n hx hb dX7_stops_15 rfl (lv_at hl 0 rfl) ?_
        refine z_iald (i := (200 + 5 * k + 1)) hx hb hK hW (z_so123 hk (by decide)) (z_ix rfl (by omega) (by omega)) dX7_stops_16 ?_
        refine lv_topi (fun x10 ex10 => ?_)
        refine lv_sipush (v := 302) hx hb dX7_stops_17 (by decide) ?_
        refine lv_icmp_ne (tgt := 34) hx hb dX7_stops_20 (by decide) (fun c11 => ?_) (fun c11 => ?_)
        · have g12 := z_f_ne rfl z_l302 c11
          have b13 := Int32.toInt_lt x10
          obtain ⟨x14, ex14⟩ : ∃ y : Int32, y = y2 + 1 := ⟨_, rfl⟩
          have tx14 : x14.toInt = y2.toInt + 1 := z_tadd ex14 rfl z_l1 (by omega) (by omega)
          refine lv_iinc (v := x14) (lv' := [(2, .int x14), (0, .ref (ad (200 + 5 * k))), (1, .ref (ad 23))]) hx hb dX7_stops_34 hl (k := 0) rfl (by rw [ex14]; rfl) (by decide) rfl (fun ls hl => ?_)
          refine lv_goto (tgt := 2) hx hb dX7_stops_37 (by decide) ?_
          exact lp1ih x14 I3  _ _ _ (by omega) (by omega) lp1fr hW hS (lv_sub hl [0, 1, 2] rfl)
        · have g15 := z_f_eq rfl z_l302 c11
          have b16 := Int32.toInt_lt x10
          refine lv_aload_n hx hb dX7_stops_23 rfl (lv_at hl 1 rfl) ?_
          refine lv_iload_n hx hb dX7_stops_24 rfl (lv_at hl 0 rfl) ?_
          refine lv_aload_n hx hb dX7_stops_25 rfl (lv_at hl 2 rfl) ?_
          refine z_ci hW hS hA (va_runV (As := [.int y2, .ref (ad 23)]) (rest := []) ⟨hx, hb, hml, hown, hts⟩ (sx_X7_holds l G ad c I3  k y2 hk hc _) (cwV 2 hts gX7_stops_X7_holds rfl rfl rfl hy_X7_holds ⟨Nat.le_of_ble_eq_true rfl, Nat.le_of_ble_eq_true rfl⟩) (z_preV (i := (200 + 5 * k)) hK hW (z_so0 hk) rfl) rfl rfl hl.1 rfl (lv_room (Nat.le_of_ble_eq_true rfl)) dX7_stops_26 ⟨Nat.le_of_ble_eq_true rfl, Nat.le_of_ble_eq_true rfl⟩) (fun r u1 H locs hp hW hS => ?_)
          obtain ⟨I17, e9, fI17, hp⟩ := hp
          rw [e9] at hW
          have f18 := z_fr_sub (L := L_X7_stops) lp1fr fI17 (by decide)
          rcases hp with rfl | rfl
          · refine lv_if_eq (tgt := 34) hx hb dX7_stops_29 (by decide) (fun c19 => absurd c19 (by decide)) (fun c19 => ?_)
            refine lv_iconst (v := 1) hx hb dX7_stops_32 (by decide) ?_
            exact z_zret hx hb hr (by decide) hK hS (Nat.le_of_ble_eq_true rfl) (Nat.le_of_ble_eq_true rfl) hlocks dX7_stops_33 (shC c, ad, I17, JX, PC c ad) hW ⟨I17, rfl, f18, Or.inl rfl⟩
          · refine lv_if_eq (tgt := 34) hx hb dX7_stops_29 (by decide) (fun c20 => ?_) (fun c20 => absurd (by decide) c20)
            obtain ⟨x21, ex21⟩ : ∃ y : Int32, y = y2 + 1 := ⟨_, rfl⟩
            have tx21 : x21.toInt = y2.toInt + 1 := z_tadd ex21 rfl z_l1 (by omega) (by omega)
            refine lv_iinc (v := x21) (lv' := [(2, .int x21), (0, .ref (ad (200 + 5 * k))), (1, .ref (ad 23))]) hx hb dX7_stops_34 hl (k := 0) rfl (by rw [ex21]; rfl) (by decide) rfl (fun ls hl => ?_)
            refine lv_goto (tgt := 2) hx hb dX7_stops_37 (by decide) ?_
            exact lp1ih x21 I17  _ _ _ (by omega) (by omega) f18 hW hS (lv_sub hl [0, 1, 2] rfl)
  exact lp1 4294967296 (0) I  _ _ _ (z_m0u _) (by rw [z_l0]; omega) z_fr_0 hW hS (lv_sub hl [0, 1, 2] rfl)
noncomputable def L_X7_dealt : z_L := [(25, 999)]
theorem zj_X7_dealt_X7 : ∀ w ∈ wsX70, w ∈ wsX7_dealt := fun w h => (List.mem_cons_of_mem _ (List.mem_append_left _ (List.mem_append_right _ h)))
set_option maxHeartbeats 8000000 in
set_option maxRecDepth 100000 in
theorem sx_X7_dealt (l : Launch) (G : z_G) (ad : Nat → Nat) (c : z_C) (I : z_I) (k : Nat) (a1 : Int32) (hk : k < c.2.1) (hc : z_okc c) : z_M l yX7_dealt wsX7_dealt { frames := 4, cells := 0, slots := 0, locals := 111 } [.ref (ad (200 + 5 * k)), .int a1, .ref (ad 23)] G (shC c, ad, I, JX, PC c ad) (fun r u1 => ∃ I1 : z_I, u1 = (shC c, ad, I1, JX, PC c ad) ∧ z_fr L_X7_dealt I1 I) 0 0 := by
  intro sz
  refine z_headQ (cc := cX7_dealt) (maxL := 5) (ret := (some .int)) (by decide) rfl (Nat.le_of_ble_eq_true rfl) ?_
  intro p e s m below meth c0 ls hIn hK hsz hW hl
  obtain ⟨hx, hb, hr, hml, hown, hts, hlocks, hname⟩ := hIn
  subst hsz
  have hown : s.vm.findClass RX7 = some m.cls := hown
  have hA : ∀ q : Nat, s.heap.size ≤ q → z_A (shC c, ad, I, JX, PC c ad) s.heap.size q := fun q h => Or.inr h
  generalize hAe : z_A (shC c, ad, I, JX, PC c ad) s.heap.size = A at *
  have hS : va_S A s.heap s.heap [] := va_S.rf
  have hl : lv_has ls 5 [(0, .ref (ad (200 + 5 * k))), (1, .int a1), (2, .ref (ad 23))] := hl
  refine lv_iconst (v := 0) hx hb dX7_dealt_0 (by decide) ?_
  refine lv_istore_n (lv' := [(3, .int 0), (0, .ref (ad (200 + 5 * k))), (1, .int a1), (2, .ref (ad 23))]) hx hb dX7_dealt_1 rfl hl (by decide) rfl (fun ls hl => ?_)
  have lp1 : ∀ (f : Nat) (y2 : Int32) (I3 : z_I) (H : Heap) (locs : List Loc) (ls : Array Slot), (2147483647 < y2.toInt + (f : Int)) → (0 ≤ y2.toInt) → (z_fr L_X7_dealt I3 I) → z_W G A (shC c, ad, I3, JX, PC c ad) H → va_S A s.heap H locs → lv_has ls 5 [(3, .int y2), (0, .ref (ad (200 + 5 * k))), (1, .int a1), (2, .ref (ad 23))] → W p l e (headSpec wsX7_dealt { frames := 4, cells := 0, slots := 0, locals := 111 }).room s m ([.ref (ad (200 + 5 * k)), .int a1, .ref (ad 23)] : List Value).toArray below meth c0 H locs 0 0 (MQ below (va_Qi (fun (r : Int32) (u1 : z_U) => ∃ I1 : z_I, u1 = (shC c, ad, I1, JX, PC c ad) ∧ z_fr L_X7_dealt I1 I) (z_B G A) A) ([.ref (ad (200 + 5 * k)), .int a1, .ref (ad 23)] : List Value).toArray s 0 0 A) (F0 m 2 ls []) := by
    intro f
    induction f with
    | zero => intro y2 I3  H locs ls lp1m lp1l3 lp1fr hW hS hl; exact absurd lp1m (by have := Int32.toInt_lt y2; have := Int32.le_toInt y2; omega)
    | succ f lp1ih =>
      intro y2 I3  H locs ls lp1m lp1l3 lp1fr hW hS hl
      refine lv_iload_n hx hb dX7_dealt_2 rfl (lv_at hl 0 rfl) ?_
      refine lv_aload_n hx hb dX7_dealt_3 rfl (lv_at hl 1 rfl) ?_
      refine z_get (T := TX7) (N := 6) (ci := 7) (i := (200 + 5 * k)) (v := .ref (ad (200 + 5 * k + 1))) hx hb hts zj_X7_dealt_X7 hown hK hW (z_so0 hk) rfl 2 (by decide) (hts (.fieldLink RX7 40 "PetrolBoard$Orders" "head" "[I") (me_s (me_l (me_l (me_l (List.mem_of_getElem? (i := 0) rfl)))))) (fun _ h => h) (z_pO rfl rfl) dX7_dealt_4 ?_
      have r4 := (hc k hk).1
      refine z_alen (i := (200 + 5 * k + 1)) (v := (c.2.2.1 k).toInt32) hx hb hK hW (z_so123 hk (by decide)) (by simp [z_tys]) (by rfl) dX7_dealt_7 ?_
      refine lv_icmp_ge (tgt := 73) hx hb dX7_dealt_8 (by decide) (fun c5 => ?_) (fun c5 => ?_)
      · have g6 := z_f_ge rfl (z_len (Nat.le_trans (hc k hk).1 (by decide))) c5
        have b7 := Int32.toInt_lt y2
        refine lv_iconst (v := 0) hx hb dX7_dealt_73 (by decide) ?_
        exact z_iret hx hb hr hK hS (Nat.le_of_ble_eq_true rfl) (Nat.le_of_ble_eq_true rfl) hlocks dX7_dealt_74 (shC c, ad, I3, JX, PC c ad) hW ⟨I3, rfl, lp1fr⟩
      · have g8 := z_f_nge rfl (z_len (Nat.le_trans (hc k hk).1 (by decide))) c5
        have b9 := Int32.toInt_lt y2
        refine lv_aload_n hx hb dX7_dealt_11 rfl (lv_at hl 1 rfl) ?_
        refine z_get (T := TX7) (N := 6) (ci := 7) (i := (200 + 5 * k)) (v := .ref (ad (200 + 5 * k + 1))) hx hb hts zj_X7_dealt_X7 hown hK hW (z_so0 hk) rfl 2 (by decide) (hts (.fieldLink RX7 40 "PetrolBoard$Orders" "head" "[I") (me_s (me_l (me_l (me_l (List.mem_of_getElem? (i := 0) rfl)))))) (fun _ h => h) (z_pO rfl rfl) dX7_dealt_12 ?_
        refine lv_iload_n hx hb dX7_dealt_15 rfl (lv_at hl 0 rfl) ?_
        refine z_iald (i := (200 + 5 * k + 1)) hx hb hK hW (z_so123 hk (by decide)) (z_ix rfl (by omega) (by omega)) dX7_dealt_16 ?_
        refine lv_topi (fun x10 ex10 => ?_)
        refine lv_iload_n hx hb dX7_dealt_17 rfl (lv_at hl 2 rfl) ?_
        refine lv_icmp_ne (tgt := 67) hx hb dX7_dealt_18 (by decide) (fun c11 => ?_) (fun c11 => ?_)
        · have g12 := z_f_ne rfl rfl c11
          have b13 := Int32.toInt_lt x10
          have b14 := Int32.toInt_lt a1
          obtain ⟨x15, ex15⟩ : ∃ y : Int32, y = y2 + 1 := ⟨_, rfl⟩
          have tx15 : x15.toInt = y2.toInt + 1 := z_tadd ex15 rfl z_l1 (by omega) (by omega)
          refine lv_iinc (v := x15) (lv' := [(3, .int x15), (0, .ref (ad (200 + 5 * k))), (1, .int a1), (2, .ref (ad 23))]) hx hb dX7_dealt_67 hl (k := 0) rfl (by rw [ex15]; rfl) (by decide) rfl (fun ls hl => ?_)
          refine lv_goto (tgt := 2) hx hb dX7_dealt_70 (by decide) ?_
          exact lp1ih x15 I3  _ _ _ (by omega) (by omega) lp1fr hW hS (lv_sub hl [0, 1, 2, 3] rfl)
        · have g16 := z_f_eq rfl rfl c11
          have b17 := Int32.toInt_lt x10
          have b18 := Int32.toInt_lt a1
          refine lv_iload_n hx hb dX7_dealt_21 rfl (lv_at hl 0 rfl) ?_
          refine lv_aload_n hx hb dX7_dealt_22 rfl (lv_at hl 1 rfl) ?_
          refine z_get (T := TX7) (N := 6) (ci := 7) (i := (200 + 5 * k)) (v := .ref (ad (200 + 5 * k + 2))) hx hb hts zj_X7_dealt_X7 hown hK hW (z_so0 hk) rfl 3 (by decide) (hts (.fieldLink RX7 44 "PetrolBoard$Orders" "first" "[I") (me_s (me_l (me_l (me_l (List.mem_of_getElem? (i := 1) rfl)))))) (fun _ h => h) (z_pO rfl rfl) dX7_dealt_23 ?_
          have r19 := (hc k hk).1
          refine z_alen (i := (200 + 5 * k + 2)) (v := (c.2.2.1 k).toInt32) hx hb hK hW (z_so123 hk (by decide)) (by simp [z_tys]) (by rfl) dX7_dealt_26 ?_
          refine lv_icmp_ge (tgt := 67) hx hb dX7_dealt_27 (by decide) (fun c20 => ?_) (fun c20 => ?_)
          · have g21 := z_f_ge rfl (z_len (Nat.le_trans (hc k hk).1 (by decide))) c20
            obtain ⟨x22, ex22⟩ : ∃ y : Int32, y = y2 + 1 := ⟨_, rfl⟩
            have tx22 : x22.toInt = y2.toInt + 1 := z_tadd ex22 rfl z_l1 (by omega) (by omega)
            refine lv_iinc (v := x22) (lv' := [(3, .int x22), (0, .ref (ad (200 + 5 * k))), (1, .int a1), (2, .ref (ad 23))]) hx hb dX7_dealt_67 hl (k := 0) rfl (by rw [ex22]; rfl) (by decide) rfl (fun ls hl => ?_)
            refine lv_goto (tgt := 2) hx hb dX7_dealt_70 (by decide) ?_
            exact lp1ih x22 I3  _ _ _ (by omega) (by omega) lp1fr hW hS (lv_sub hl [0, 1, 2, 3] rfl)
          · have g23 := z_f_nge rfl (z_len (Nat.le_trans (hc k hk).1 (by decide))) c20
            refine lv_aload_n hx hb dX7_dealt_30 rfl (lv_at hl 1 rfl) ?_
            refine lv_iload_n hx hb dX7_dealt_31 rfl (lv_at hl 0 rfl) ?_
            refine lv_aload_n hx hb dX7_dealt_32 rfl (lv_at hl 3 rfl) ?_
            refine z_ci hW hS hA (va_runV (As := [.int y2, .ref (ad 23)]) (rest := []) ⟨hx, hb, hml, hown, hts⟩ (sx_X7_holds l G ad c I3  k y2 hk hc _) (cwV 2 hts gX7_dealt_X7_holds rfl rfl rfl hy_X7_holds ⟨Nat.le_of_ble_eq_true rfl, Nat.le_of_ble_eq_true rfl⟩) (z_preV (i := (200 + 5 * k)) hK hW (z_so0 hk) rfl) rfl rfl hl.1 rfl (lv_room (Nat.le_of_ble_eq_true rfl)) dX7_dealt_33 ⟨Nat.le_of_ble_eq_true rfl, Nat.le_of_ble_eq_true rfl⟩) (fun r u1 H locs hp hW hS => ?_)
            obtain ⟨I24, e9, fI24, hp⟩ := hp
            rw [e9] at hW
            have f25 := z_fr_sub (L := L_X7_dealt) lp1fr fI24 (by decide)
            rcases hp with rfl | rfl
            · refine lv_if_eq (tgt := 67) hx hb dX7_dealt_36 (by decide) (fun c26 => absurd c26 (by decide)) (fun c26 => ?_)
              refine lv_aload_n hx hb dX7_dealt_39 rfl (lv_at hl 3 rfl) ?_
              refine lv_aload_n hx hb dX7_dealt_40 rfl (lv_at hl 1 rfl) ?_
              refine z_get (T := TX7) (N := 6) (ci := 7) (i := (200 + 5 * k)) (v := .ref (ad (200 + 5 * k + 4))) hx hb hts zj_X7_dealt_X7 hown hK hW (z_so0 hk) rfl 5 (by decide) (hts (.fieldLink RX7 52 "PetrolBoard$Orders" "code" "[I") (me_s (me_l (me_l (me_l (List.mem_of_getElem? (i := 2) rfl)))))) (fun _ h => h) (z_pO rfl rfl) dX7_dealt_41 ?_
              refine lv_aload_n hx hb dX7_dealt_44 rfl (lv_at hl 1 rfl) ?_
              refine z_get (T := TX7) (N := 6) (ci := 7) (i := (200 + 5 * k)) (v := .ref (ad (200 + 5 * k + 2))) hx hb hts zj_X7_dealt_X7 hown hK hW (z_so0 hk) rfl 3 (by decide) (hts (.fieldLink RX7 44 "PetrolBoard$Orders" "first" "[I") (me_s (me_l (me_l (me_l (List.mem_of_getElem? (i := 1) rfl)))))) (fun _ h => h) (z_pO rfl rfl) dX7_dealt_45 ?_
              refine lv_iload_n hx hb dX7_dealt_48 rfl (lv_at hl 0 rfl) ?_
              have r27 := (hc k hk).1
              refine z_iald (i := (200 + 5 * k + 2)) hx hb hK hW (z_so123 hk (by decide)) (z_ix rfl (by omega) (by omega)) dX7_dealt_49 ?_
              refine lv_topi (fun x28 ex28 => ?_)
              refine z_ci hW hS hA (va_runV (As := [.ref (ad (200 + 5 * k + 4)), .int x28]) (rest := []) ⟨hx, hb, hml, hown, hts⟩ (sx_X5_result l G ad c I24  k x28 hk hc _) (cwV 2 hts gX7_dealt_X5_result rfl rfl rfl hy_X5_result ⟨Nat.le_of_ble_eq_true rfl, Nat.le_of_ble_eq_true rfl⟩) (z_preV (i := 23) hK hW rfl rfl) rfl rfl hl.1 rfl (lv_room (Nat.le_of_ble_eq_true rfl)) dX7_dealt_50 ⟨Nat.le_of_ble_eq_true rfl, Nat.le_of_ble_eq_true rfl⟩) (fun r u1 H locs hp hW hS => ?_)
              obtain ⟨I29, e9, fI29⟩ := hp
              rw [e9] at hW
              have f30 := z_fr_sub (L := L_X7_dealt) f25 fI29 (by decide)
              refine lv_topi (fun x31 ex31 => ?_)
              refine lv_istore (lv' := [(4, .int x31), (3, .int y2), (0, .ref (ad (200 + 5 * k))), (1, .int a1), (2, .ref (ad 23))]) hx hb dX7_dealt_53 hl (by decide) rfl (fun ls hl => ?_)
              refine lv_iconst (v := 0) hx hb dX7_dealt_55 (by decide) ?_
              refine lv_bipush (v := 99) hx hb dX7_dealt_56 (by decide) ?_
              refine lv_iload hx hb dX7_dealt_58 (lv_at hl 0 rfl) ?_
              refine va_mmin (x := 99) (y := x31) hx hb (hml.trans hl.1.symm) hown (hts (.methodLink RX7 67 Lib.Math.min.name) (me_s (me_l (me_l (me_l (List.mem_of_getElem? (i := 3) rfl)))))) (hts (.static Lib.Math.min.name) (me_s (me_l (me_l (me_l (List.mem_of_getElem? (i := 4) rfl)))))) (hts (.initialized "java/lang/Math") (me_s (me_l (me_l (me_l (List.mem_of_getElem? (i := 5) rfl)))))) (hts (.code Lib.Math.min.name Lib.Math.min.code 2 (some .int)) (me_s (me_l (me_l (me_l (List.mem_of_getElem? (i := 6) rfl)))))) (Nat.le_of_ble_eq_true rfl) (Nat.le_of_ble_eq_true rfl) (Nat.le_of_ble_eq_true rfl) (Nat.le_of_ble_eq_true rfl) dX7_dealt_60 ?_
              refine lv_topi (fun x32 ex32 => ?_)
              have tx32 := z_tmmin ex32 z_l99 rfl
              refine va_mmax (x := 0) (y := x32) hx hb (hml.trans hl.1.symm) hown (hts (.methodLink RX7 73 Lib.Math.max.name) (me_s (me_l (me_l (me_l (List.mem_of_getElem? (i := 7) rfl)))))) (hts (.static Lib.Math.max.name) (me_s (me_l (me_l (me_l (List.mem_of_getElem? (i := 8) rfl)))))) (hts (.initialized "java/lang/Math") (me_s (me_l (me_l (me_l (List.mem_of_getElem? (i := 5) rfl)))))) (hts (.code Lib.Math.max.name Lib.Math.max.code 2 (some .int)) (me_s (me_l (me_l (me_l (List.mem_of_getElem? (i := 9) rfl)))))) (Nat.le_of_ble_eq_true rfl) (Nat.le_of_ble_eq_true rfl) (Nat.le_of_ble_eq_true rfl) (Nat.le_of_ble_eq_true rfl) dX7_dealt_63 ?_
              refine lv_topi (fun x33 ex33 => ?_)
              have tx33 := z_tmmax ex33 z_l0 rfl
              exact z_iret hx hb hr hK hS (Nat.le_of_ble_eq_true rfl) (Nat.le_of_ble_eq_true rfl) hlocks dX7_dealt_66 (shC c, ad, I29, JX, PC c ad) hW ⟨I29, rfl, f30⟩
            · refine lv_if_eq (tgt := 67) hx hb dX7_dealt_36 (by decide) (fun c34 => ?_) (fun c34 => absurd (by decide) c34)
              obtain ⟨x35, ex35⟩ : ∃ y : Int32, y = y2 + 1 := ⟨_, rfl⟩
              have tx35 : x35.toInt = y2.toInt + 1 := z_tadd ex35 rfl z_l1 (by omega) (by omega)
              refine lv_iinc (v := x35) (lv' := [(3, .int x35), (0, .ref (ad (200 + 5 * k))), (1, .int a1), (2, .ref (ad 23))]) hx hb dX7_dealt_67 hl (k := 0) rfl (by rw [ex35]; rfl) (by decide) rfl (fun ls hl => ?_)
              refine lv_goto (tgt := 2) hx hb dX7_dealt_70 (by decide) ?_
              exact lp1ih x35 I24  _ _ _ (by omega) (by omega) f25 hW hS (lv_sub hl [0, 1, 2, 3] rfl)
  exact lp1 4294967296 (0) I  _ _ _ (z_m0u _) (by rw [z_l0]; omega) z_fr_0 hW hS (lv_sub hl [0, 1, 2, 3] rfl)
